set_option maxHeartbeats 4000000 in
set_option maxRecDepth 100000 in
theorem Z_X11_light {l : Launch} {D : va_G} {ids : List Nat} {ad : Nat → Nat} {ca : Nat → ClassId} {σ : HS} {x1 : Int32} {x2 : Int32} {r0 : Int32} {s0 : HS} (hid : ∀ i, i < 277 → i ∈ ids) (h : f_X11_light x1 x2 σ = some (r0, s0)) : Ki l D ids ad ca yX11_light cX11_light 6 .int 6 149 [.ref (ad 0), .int x1, .int x2] σ (fun r σ1 => r = r0 ∧ σ1 = s0) := by
  obtain ⟨R, hR⟩ : ∃ R, (r0, s0) = R := ⟨_, rfl⟩
  replace h := h.trans (congrArg some hR)
  refine Ki.of (by decide) (Nat.le_of_ble_eq_true rfl) 3 (fun Γ C Rt => ?_)
  show AW ids ad ca Γ 0 [some (.ref (ad 0)), some (.int x1), some (.int x2), none, none, none] [] σ
  unfold f_X11_light at h
  have j147 : ∀ (k28 : Int32 → Int32 → Int32 → Int32 → Int32 → HS → Option (Int32 × HS)) (hk28 : ∀ (y1 : Int32) (y2 : Int32) (y3 : Int32) (y4 : Int32) (y5 : Int32) (σ : HS), k28 y1 y2 y3 y4 y5 σ = some R → AW ids ad ca Γ 28 [some (.ref (ad 0)), some (.int y1), some (.int y2), some (.int y3), some (.int y4), some (.int y5)] [] σ) (y1 : Int32) (y2 : Int32) (y3 : Int32) (y4 : Int32) (y5 : Int32) (σ : HS), f_X11_light_147 k28 y1 y2 y3 y4 y5 σ = some R → AW ids ad ca Γ 147 [some (.ref (ad 0)), some (.int y1), some (.int y2), some (.int y3), some (.int y4), some (.int y5)] [] σ := by
    intro k28 hk28 y1 y2 y3 y4 y5 σ h
    unfold f_X11_light_147 at h
    refine p_iinc C (y := (y5 + 1)) (fun z1 => [some (.ref (ad 0)), some (.int y1), some (.int y2), some (.int y3), some (.int y4), some (.int z1)]) dX11_light_147 rfl rfl (by decide) rfl (fun _ => rfl) h (fun z1 h => ?_)
    refine a_goto C dX11_light_150 (tgt := 28) rfl ?_
    exact hk28 _ _ _ _ _ _ h
  have j135 : ∀ (k28 : Int32 → Int32 → Int32 → Int32 → Int32 → HS → Option (Int32 × HS)) (hk28 : ∀ (y1 : Int32) (y2 : Int32) (y3 : Int32) (y4 : Int32) (y5 : Int32) (σ : HS), k28 y1 y2 y3 y4 y5 σ = some R → AW ids ad ca Γ 28 [some (.ref (ad 0)), some (.int y1), some (.int y2), some (.int y3), some (.int y4), some (.int y5)] [] σ) (y1 : Int32) (y2 : Int32) (y5 : Int32) (σ : HS), f_X11_light_135 k28 y1 y2 y5 σ = some R → AW ids ad ca Γ 135 [some (.ref (ad 0)), some (.int y1), some (.int y2), none, none, some (.int y5)] [] σ := by
    intro k28 hk28 y1 y2 y5 σ h
    unfold f_X11_light_135 at h
    refine a_iload C dX11_light_135 rfl ?_
    refine a_istore_n C dX11_light_137 (i := 3) rfl (by decide) rfl (vs1 := [some (.ref (ad 0)), some (.int y1), some (.int y2), some (.int y5), none, some (.int y5)]) rfl ?_
    refine a_aload_n C dX11_light_138 (i := 0) rfl rfl ?_
    refine a_get C fl_RX11_58 (i := 0) kd_0 (hid 0 (by decide)) (v := .ref (ad 60)) rfl dX11_light_139 ?_
    refine a_get C fl_RX11_177 (i := 60) (show airOK 60 from airOK_of 1 (by decide)).1.1 (hid _ (show airOK 60 from airOK_of 1 (by decide)).1.2) (v := .int (σ.1 60 5)) rfl dX11_light_142 ?_
    refine p_istore C (fun z1 => [some (.ref (ad 0)), some (.int y1), some (.int y2), some (.int y5), some (.int z1), some (.int y5)]) dX11_light_145 (by decide) rfl (fun _ => rfl) h (fun z1 h => ?_)
    exact j147 k28 hk28 _ _ _ _ _ _ h
  have j28 : ∀ (n : Nat) (y1 : Int32) (y2 : Int32) (y3 : Int32) (y4 : Int32) (y5 : Int32) (σ : HS), f_X11_light_28 n y1 y2 y3 y4 y5 σ = some R → AW ids ad ca Γ 28 [some (.ref (ad 0)), some (.int y1), some (.int y2), some (.int y3), some (.int y4), some (.int y5)] [] σ := by
    intro n
    induction n with
    | zero => intro y1 y2 y3 y4 y5 σ h; exact nn h
    | succ n ih =>
      intro y1 y2 y3 y4 y5 σ h
      have h : b_X11_light_28 (f_X11_light_28 n) y1 y2 y3 y4 y5 σ = some R := h
      unfold b_X11_light_28 at h
      refine a_iload C dX11_light_28 rfl ?_
      refine a_aload_n C dX11_light_30 (i := 0) rfl rfl ?_
      refine p_getT C fl_RX11_82 (tx := (σ.2.2 0)) kd_0 (hid 0 (by decide)) (fun t e => by subst e; rfl) dX11_light_31 h (fun ht1 h => ?_)
      refine a_get C fl_RX11_171 (i := ((σ.2.2 0))) ht1.1.1 (hid _ ht1.1.2) (v := .int (σ.1 ((σ.2.2 0)) 4)) rfl dX11_light_34 ?_
      refine p_ic_ge C (X := y5.toInt) (Y := (σ.1 ((σ.2.2 0)) 4).toInt) rfl rfl dX11_light_37 (tgt := 153) rfl h (fun h => ?_) (fun h => ?_)
      ·
        refine a_iload_n C dX11_light_153 (i := 2) rfl rfl ?_
        refine p_if_ne C (X := y2.toInt) rfl dX11_light_154 (tgt := 161) rfl h (fun h => ?_) (fun h => ?_)
        ·
          refine a_iload C dX11_light_161 rfl ?_
          exact a_iret Rt dX11_light_163 rfl (ret_eq (h.trans (congrArg some hR.symm)))
        ·
          refine a_iload_n C dX11_light_157 (i := 3) rfl rfl ?_
          refine a_goto C dX11_light_158 (tgt := 163) rfl ?_
          exact a_iret Rt dX11_light_163 rfl (ret_eq (h.trans (congrArg some hR.symm)))
      ·
        refine a_aload_n C dX11_light_40 (i := 0) rfl rfl ?_
        refine p_getT C fl_RX11_82 (tx := (σ.2.2 0)) kd_0 (hid 0 (by decide)) (fun t e => by subst e; rfl) dX11_light_41 h (fun ht2 h => ?_)
        refine a_get C fl_RX11_149 (i := ((σ.2.2 0))) ht2.1.1 (hid _ ht2.1.2) (v := .ref (ad ((σ.2.2 0) + 4))) rfl dX11_light_44 ?_
        refine a_iload C dX11_light_47 rfl ?_
        refine p_aaldH C (t := ((σ.2.2 0))) ht2 hid dX11_light_49 h (fun hr3 h => ?_)
        refine a_aload_n C dX11_light_50 (i := 0) rfl rfl ?_
        refine p_getT C fl_RX11_82 (tx := (σ.2.2 0)) kd_0 (hid 0 (by decide)) (fun t e => by subst e; rfl) dX11_light_51 h (fun ht4 h => ?_)
        refine a_get C fl_RX11_146 (i := ((σ.2.2 0))) ht4.1.1 (hid _ ht4.1.2) (v := .ref (ad ((σ.2.2 0) + 10))) rfl dX11_light_54 ?_
        refine a_iload C dX11_light_57 rfl ?_
        refine p_iald C (i := ((σ.2.2 0) + 10)) ht4.2.2.2.2.1.1 hid (by rw [ht4.2.2.2.2.1.2]; rfl) dX11_light_59 h (fun h => ?_)
        refine a_iconst C dX11_light_60 (v := 1) rfl ?_
        refine p_callSi C (As := [.ref (ad ((σ.2.2 0) + 5 + y5.toInt.toNat)), .int (σ.1 ((σ.2.2 0) + 10) y5.toInt.toNat), .int 1]) h (fun _ _ e => Z_X11_closingOf hid hr3.1 e) ms_X11_closingOf ml_RX11_233 rfl rfl (Nat.le_of_ble_eq_true rfl) (Nat.le_of_ble_eq_true rfl) (Nat.le_of_ble_eq_true rfl) dX11_light_61 (fun r6 σ5 h => ?_)
        refine a_aload_n C dX11_light_64 (i := 0) rfl rfl ?_
        refine a_get C fl_RX11_54 (i := 0) kd_0 (hid 0 (by decide)) (v := .ref (ad 56)) rfl dX11_light_65 ?_
        refine p_callVi C (As := []) (i := 56) (show airOK 56 from airOK_of 0 (by decide)).1.1 (hid _ (show airOK 56 from airOK_of 0 (by decide)).1.2) ⟨_, _, rfl⟩ (by decide) h (fun _ _ e => Z_X0_howManyUp hid (show airOK 56 from airOK_of 0 (by decide)) e) mi_X0_howManyUp ml_RX11_156 rfl rfl (Nat.le_of_ble_eq_true rfl) (Nat.le_of_ble_eq_true rfl) (Nat.le_of_ble_eq_true rfl) dX11_light_68 (fun r8 σ7 h => ?_)
        refine p_ic_ne C (X := r6.toInt) (Y := r8.toInt) rfl rfl dX11_light_71 (tgt := 147) rfl h (fun h => ?_) (fun h => ?_)
        ·
          exact j147 (f_X11_light_28 n) (fun y1 y2 y3 y4 y5 σ h => ih y1 y2 y3 y4 y5 σ h) _ _ _ _ _ _ h
        ·
          refine a_aload_n C dX11_light_74 (i := 0) rfl rfl ?_
          refine a_get C fl_RX11_58 (i := 0) kd_0 (hid 0 (by decide)) (v := .ref (ad 60)) rfl dX11_light_75 ?_
          refine a_aload_n C dX11_light_78 (i := 0) rfl rfl ?_
          refine a_get C fl_RX11_54 (i := 0) kd_0 (hid 0 (by decide)) (v := .ref (ad 56)) rfl dX11_light_79 ?_
          refine p_callVv C (As := [.ref (ad 56)]) (i := 60) (show airOK 60 from airOK_of 1 (by decide)).1.1 (hid _ (show airOK 60 from airOK_of 1 (by decide)).1.2) ⟨_, _, rfl⟩ (by decide) h (fun _ e => Z_X0_copy hid (show airOK 60 from airOK_of 1 (by decide)) (show airOK 56 from airOK_of 0 (by decide)) e) mi_X0_copy ml_RX11_230 rfl rfl (Nat.le_of_ble_eq_true rfl) (Nat.le_of_ble_eq_true rfl) (Nat.le_of_ble_eq_true rfl) dX11_light_82 (fun σ9 h => ?_)
          refine a_aload_n C dX11_light_85 (i := 0) rfl rfl ?_
          refine a_get C fl_RX11_58 (i := 0) kd_0 (hid 0 (by decide)) (v := .ref (ad 60)) rfl dX11_light_86 ?_
          refine a_iload C dX11_light_89 rfl ?_
          refine p_callVv C (As := [.int y5]) (i := 60) (show airOK 60 from airOK_of 1 (by decide)).1.1 (hid _ (show airOK 60 from airOK_of 1 (by decide)).1.2) ⟨_, _, rfl⟩ (by decide) h (fun _ e => Z_X0_takeUp hid (show airOK 60 from airOK_of 1 (by decide)) e) mi_X0_takeUp ml_RX11_214 rfl rfl (Nat.le_of_ble_eq_true rfl) (Nat.le_of_ble_eq_true rfl) (Nat.le_of_ble_eq_true rfl) dX11_light_91 (fun σ11 h => ?_)
          refine a_aload_n C dX11_light_94 (i := 0) rfl rfl ?_
          refine a_get C fl_RX11_19 (i := 0) kd_0 (hid 0 (by decide)) (v := .ref (ad 8)) rfl dX11_light_95 ?_
          refine a_aload_n C dX11_light_98 (i := 0) rfl rfl ?_
          refine p_getT C fl_RX11_82 (tx := (σ11.2.2 0)) kd_0 (hid 0 (by decide)) (fun t e => by subst e; rfl) dX11_light_99 h (fun ht13 h => ?_)
          refine a_aload_n C dX11_light_102 (i := 0) rfl rfl ?_
          refine a_get C fl_RX11_58 (i := 0) kd_0 (hid 0 (by decide)) (v := .ref (ad 60)) rfl dX11_light_103 ?_
          refine a_iload_n C dX11_light_106 (i := 1) rfl rfl ?_
          refine a_aload_n C dX11_light_107 (i := 0) rfl rfl ?_
          refine p_getT C fl_RX11_82 (tx := (σ11.2.2 0)) kd_0 (hid 0 (by decide)) (fun t e => by subst e; rfl) dX11_light_108 h (fun ht14 h => ?_)
          refine a_get C fl_RX11_220 (i := ((σ11.2.2 0))) ht14.1.1 (hid _ ht14.1.2) (v := .int (σ11.1 ((σ11.2.2 0)) 11)) rfl dX11_light_111 ?_
          refine p_callVv C (As := [.ref (ad ((σ11.2.2 0))), .ref (ad 60), .int y1, .int (σ11.1 ((σ11.2.2 0)) 11)]) (i := 8) kd_8 (hid 8 (by decide)) ⟨_, _, rfl⟩ (by decide) h (fun _ e => Z_X4_goOn hid ht13 (show airOK 60 from airOK_of 1 (by decide)) e) mi_X4_goOn ml_RX11_223 rfl rfl (Nat.le_of_ble_eq_true rfl) (Nat.le_of_ble_eq_true rfl) (Nat.le_of_ble_eq_true rfl) dX11_light_114 (fun σ15 h => ?_)
          refine a_iload_n C dX11_light_117 (i := 3) rfl rfl ?_
          refine a_bipush C dX11_light_118 (v := (-2)) rfl ?_
          refine p_ic_eq C (X := y3.toInt) (Y := (-2)) rfl (by decide) dX11_light_120 (tgt := 135) rfl h (fun h => ?_) (fun h => ?_)
          ·
            refine AW.sub (vs' := [some (.ref (ad 0)), some (.int y1), some (.int y2), none, none, some (.int y5)]) (lsub_of (by simp [lsubB])) ?_
            exact j135 (f_X11_light_28 n) (fun y1 y2 y3 y4 y5 σ h => ih y1 y2 y3 y4 y5 σ h) _ _ _ _ h
          ·
            refine a_aload_n C dX11_light_123 (i := 0) rfl rfl ?_
            refine a_get C fl_RX11_58 (i := 0) kd_0 (hid 0 (by decide)) (v := .ref (ad 60)) rfl dX11_light_124 ?_
            refine a_get C fl_RX11_177 (i := 60) (show airOK 60 from airOK_of 1 (by decide)).1.1 (hid _ (show airOK 60 from airOK_of 1 (by decide)).1.2) (v := .int (σ15.1 60 5)) rfl dX11_light_127 ?_
            refine a_iload C dX11_light_130 rfl ?_
            refine p_ic_ge C (X := (σ15.1 60 5).toInt) (Y := y4.toInt) rfl rfl dX11_light_132 (tgt := 147) rfl h (fun h => ?_) (fun h => ?_)
            ·
              exact j147 (f_X11_light_28 n) (fun y1 y2 y3 y4 y5 σ h => ih y1 y2 y3 y4 y5 σ h) _ _ _ _ _ _ h
            ·
              refine AW.sub (vs' := [some (.ref (ad 0)), some (.int y1), some (.int y2), none, none, some (.int y5)]) (lsub_of (by simp [lsubB])) ?_
              exact j135 (f_X11_light_28 n) (fun y1 y2 y3 y4 y5 σ h => ih y1 y2 y3 y4 y5 σ h) _ _ _ _ h
  refine a_iload_n C dX11_light_0 (i := 1) rfl rfl ?_
  refine p_callSi C (As := [.int x1]) h (fun _ _ e => Z_X11_isSpan hid e) ms_X11_isSpan ml_RX11_307 rfl rfl (Nat.le_of_ble_eq_true rfl) (Nat.le_of_ble_eq_true rfl) (Nat.le_of_ble_eq_true rfl) dX11_light_1 (fun r2 σ1 h => ?_)
  refine p_if_eq C (X := r2.toInt) rfl dX11_light_4 (tgt := 16) rfl h (fun h => ?_) (fun h => ?_)
  ·
    refine a_iconst C dX11_light_16 (v := (-1)) rfl ?_
    exact a_iret Rt dX11_light_17 rfl (ret_eq (h.trans (congrArg some hR.symm)))
  ·
    refine a_iload_n C dX11_light_7 (i := 2) rfl rfl ?_
    refine p_if_lt C (X := x2.toInt) rfl dX11_light_8 (tgt := 16) rfl h (fun h => ?_) (fun h => ?_)
    ·
      refine a_iconst C dX11_light_16 (v := (-1)) rfl ?_
      exact a_iret Rt dX11_light_17 rfl (ret_eq (h.trans (congrArg some hR.symm)))
    ·
      refine a_iload_n C dX11_light_11 (i := 2) rfl rfl ?_
      refine a_iconst C dX11_light_12 (v := 1) rfl ?_
      refine p_ic_le C (X := x2.toInt) (Y := 1) rfl (by decide) dX11_light_13 (tgt := 18) rfl h (fun h => ?_) (fun h => ?_)
      ·
        refine a_bipush C dX11_light_18 (v := (-2)) rfl ?_
        refine a_istore_n C dX11_light_20 (i := 3) rfl (by decide) rfl (vs1 := [some (.ref (ad 0)), some (.int x1), some (.int x2), some (.int (-2)), none, none]) rfl ?_
        refine a_bipush C dX11_light_21 (v := (-2)) rfl ?_
        refine a_istore C dX11_light_23 (by decide) rfl (vs1 := [some (.ref (ad 0)), some (.int x1), some (.int x2), some (.int (-2)), some (.int (-2)), none]) rfl ?_
        refine a_iconst C dX11_light_25 (v := 0) rfl ?_
        refine a_istore C dX11_light_26 (by decide) rfl (vs1 := [some (.ref (ad 0)), some (.int x1), some (.int x2), some (.int (-2)), some (.int (-2)), some (.int 0)]) rfl ?_
        exact j28 _ _ _ _ _ _ _ h
      ·
        refine a_iconst C dX11_light_16 (v := (-1)) rfl ?_
        exact a_iret Rt dX11_light_17 rfl (ret_eq (h.trans (congrArg some hR.symm)))
set_option maxHeartbeats 4000000 in
set_option maxRecDepth 100000 in
theorem Z_X11_then {l : Launch} {D : va_G} {ids : List Nat} {ad : Nat → Nat} {ca : Nat → ClassId} {σ : HS} {x1 : Int32} {x2 : Int32} {r0 : Int32} {s0 : HS} (hid : ∀ i, i < 277 → i ∈ ids) (h : f_X11_then x1 x2 σ = some (r0, s0)) : Ki l D ids ad ca yX11_then cX11_then 3 .int 6 149 [.ref (ad 0), .int x1, .int x2] σ (fun r σ1 => r = r0 ∧ σ1 = s0) := by
  obtain ⟨R, hR⟩ : ∃ R, (r0, s0) = R := ⟨_, rfl⟩
  replace h := h.trans (congrArg some hR)
  refine Ki.of (by decide) (Nat.le_of_ble_eq_true rfl) 0 (fun Γ C Rt => ?_)
  show AW ids ad ca Γ 0 [some (.ref (ad 0)), some (.int x1), some (.int x2)] [] σ
  unfold f_X11_then at h
  refine a_iload_n C dX11_then_0 (i := 1) rfl rfl ?_
  refine p_if_lt C (X := x1.toInt) rfl dX11_then_1 (tgt := 19) rfl h (fun h => ?_) (fun h => ?_)
  ·
    refine a_iconst C dX11_then_19 (v := (-1)) rfl ?_
    exact a_iret Rt dX11_then_20 rfl (ret_eq (h.trans (congrArg some hR.symm)))
  ·
    refine a_iload_n C dX11_then_4 (i := 1) rfl rfl ?_
    refine a_bipush C dX11_then_5 (v := 60) rfl ?_
    refine p_ic_gt C (X := x1.toInt) (Y := 60) rfl (by decide) dX11_then_7 (tgt := 19) rfl h (fun h => ?_) (fun h => ?_)
    ·
      refine a_iconst C dX11_then_19 (v := (-1)) rfl ?_
      exact a_iret Rt dX11_then_20 rfl (ret_eq (h.trans (congrArg some hR.symm)))
    ·
      refine a_iload_n C dX11_then_10 (i := 2) rfl rfl ?_
      refine p_if_lt C (X := x2.toInt) rfl dX11_then_11 (tgt := 19) rfl h (fun h => ?_) (fun h => ?_)
      ·
        refine a_iconst C dX11_then_19 (v := (-1)) rfl ?_
        exact a_iret Rt dX11_then_20 rfl (ret_eq (h.trans (congrArg some hR.symm)))
      ·
        refine a_iload_n C dX11_then_14 (i := 2) rfl rfl ?_
        refine a_iconst C dX11_then_15 (v := 3) rfl ?_
        refine p_ic_le C (X := x2.toInt) (Y := 3) rfl (by decide) dX11_then_16 (tgt := 21) rfl h (fun h => ?_) (fun h => ?_)
        ·
          refine a_aload_n C dX11_then_21 (i := 0) rfl rfl ?_
          refine a_get C fl_RX11_58 (i := 0) kd_0 (hid 0 (by decide)) (v := .ref (ad 60)) rfl dX11_then_22 ?_
          refine a_aload_n C dX11_then_25 (i := 0) rfl rfl ?_
          refine a_get C fl_RX11_54 (i := 0) kd_0 (hid 0 (by decide)) (v := .ref (ad 56)) rfl dX11_then_26 ?_
          refine p_callVv C (As := [.ref (ad 56)]) (i := 60) (show airOK 60 from airOK_of 1 (by decide)).1.1 (hid _ (show airOK 60 from airOK_of 1 (by decide)).1.2) ⟨_, _, rfl⟩ (by decide) h (fun _ e => Z_X0_copy hid (show airOK 60 from airOK_of 1 (by decide)) (show airOK 56 from airOK_of 0 (by decide)) e) mi_X0_copy ml_RX11_230 rfl rfl (Nat.le_of_ble_eq_true rfl) (Nat.le_of_ble_eq_true rfl) (Nat.le_of_ble_eq_true rfl) dX11_then_29 (fun σ1 h => ?_)
          refine a_aload_n C dX11_then_32 (i := 0) rfl rfl ?_
          refine a_get C fl_RX11_19 (i := 0) kd_0 (hid 0 (by decide)) (v := .ref (ad 8)) rfl dX11_then_33 ?_
          refine a_aload_n C dX11_then_36 (i := 0) rfl rfl ?_
          refine p_getT C fl_RX11_82 (tx := (σ1.2.2 0)) kd_0 (hid 0 (by decide)) (fun t e => by subst e; rfl) dX11_then_37 h (fun ht3 h => ?_)
          refine a_aload_n C dX11_then_40 (i := 0) rfl rfl ?_
          refine a_get C fl_RX11_58 (i := 0) kd_0 (hid 0 (by decide)) (v := .ref (ad 60)) rfl dX11_then_41 ?_
          refine a_iload_n C dX11_then_44 (i := 1) rfl rfl ?_
          refine a_aload_n C dX11_then_45 (i := 0) rfl rfl ?_
          refine p_getT C fl_RX11_82 (tx := (σ1.2.2 0)) kd_0 (hid 0 (by decide)) (fun t e => by subst e; rfl) dX11_then_46 h (fun ht4 h => ?_)
          refine a_get C fl_RX11_220 (i := ((σ1.2.2 0))) ht4.1.1 (hid _ ht4.1.2) (v := .int (σ1.1 ((σ1.2.2 0)) 11)) rfl dX11_then_49 ?_
          refine p_callVv C (As := [.ref (ad ((σ1.2.2 0))), .ref (ad 60), .int x1, .int (σ1.1 ((σ1.2.2 0)) 11)]) (i := 8) kd_8 (hid 8 (by decide)) ⟨_, _, rfl⟩ (by decide) h (fun _ e => Z_X4_goOn hid ht3 (show airOK 60 from airOK_of 1 (by decide)) e) mi_X4_goOn ml_RX11_223 rfl rfl (Nat.le_of_ble_eq_true rfl) (Nat.le_of_ble_eq_true rfl) (Nat.le_of_ble_eq_true rfl) dX11_then_52 (fun σ5 h => ?_)
          refine a_iload_n C dX11_then_55 (i := 2) rfl rfl ?_
          refine ite_k h (fun c1 h => ?_) (fun c1 h => ?_)
          ·
            refine a_tableIn C dX11_then_56 (by omega) (by omega) (by rw [c1]; rfl) (tgt := 84) rfl ?_
            refine a_aload_n C dX11_then_84 (i := 0) rfl rfl ?_
            refine a_get C fl_RX11_58 (i := 0) kd_0 (hid 0 (by decide)) (v := .ref (ad 60)) rfl dX11_then_85 ?_
            refine a_get C fl_RX11_177 (i := 60) (show airOK 60 from airOK_of 1 (by decide)).1.1 (hid _ (show airOK 60 from airOK_of 1 (by decide)).1.2) (v := .int (σ5.1 60 5)) rfl dX11_then_88 ?_
            exact a_iret Rt dX11_then_91 rfl (ret_eq (h.trans (congrArg some hR.symm)))
          ·
            refine ite_k h (fun c2 h => ?_) (fun c2 h => ?_)
            ·
              refine a_tableIn C dX11_then_56 (by omega) (by omega) (by rw [c2]; rfl) (tgt := 92) rfl ?_
              refine a_aload_n C dX11_then_92 (i := 0) rfl rfl ?_
              refine a_get C fl_RX11_58 (i := 0) kd_0 (hid 0 (by decide)) (v := .ref (ad 60)) rfl dX11_then_93 ?_
              refine p_callVi C (As := []) (i := 60) (show airOK 60 from airOK_of 1 (by decide)).1.1 (hid _ (show airOK 60 from airOK_of 1 (by decide)).1.2) ⟨_, _, rfl⟩ (by decide) h (fun _ _ e => Z_X0_howManyUp hid (show airOK 60 from airOK_of 1 (by decide)) e) mi_X0_howManyUp ml_RX11_156 rfl rfl (Nat.le_of_ble_eq_true rfl) (Nat.le_of_ble_eq_true rfl) (Nat.le_of_ble_eq_true rfl) dX11_then_96 (fun r8 σ7 h => ?_)
              exact a_iret Rt dX11_then_99 rfl (ret_eq (h.trans (congrArg some hR.symm)))
            ·
              refine ite_k h (fun c3 h => ?_) (fun c3 h => ?_)
              ·
                refine a_tableIn C dX11_then_56 (by omega) (by omega) (by rw [c3]; rfl) (tgt := 100) rfl ?_
                refine a_aload_n C dX11_then_100 (i := 0) rfl rfl ?_
                refine a_get C fl_RX11_58 (i := 0) kd_0 (hid 0 (by decide)) (v := .ref (ad 60)) rfl dX11_then_101 ?_
                refine a_get C fl_RX11_184 (i := 60) (show airOK 60 from airOK_of 1 (by decide)).1.1 (hid _ (show airOK 60 from airOK_of 1 (by decide)).1.2) (v := .int (σ5.1 60 6)) rfl dX11_then_104 ?_
                refine a_aload_n C dX11_then_107 (i := 0) rfl rfl ?_
                refine a_get C fl_RX11_54 (i := 0) kd_0 (hid 0 (by decide)) (v := .ref (ad 56)) rfl dX11_then_108 ?_
                refine a_get C fl_RX11_184 (i := 56) (show airOK 56 from airOK_of 0 (by decide)).1.1 (hid _ (show airOK 56 from airOK_of 0 (by decide)).1.2) (v := .int (σ5.1 56 6)) rfl dX11_then_111 ?_
                refine a_isub C dX11_then_114 ?_
                exact a_iret Rt dX11_then_115 rfl (ret_eq (h.trans (congrArg some hR.symm)))
              ·
                refine a_tableOut C dX11_then_56 (by omega) (tgt := 116) rfl ?_
                refine a_aload_n C dX11_then_116 (i := 0) rfl rfl ?_
                refine a_get C fl_RX11_58 (i := 0) kd_0 (hid 0 (by decide)) (v := .ref (ad 60)) rfl dX11_then_117 ?_
                refine a_get C fl_RX11_190 (i := 60) (show airOK 60 from airOK_of 1 (by decide)).1.1 (hid _ (show airOK 60 from airOK_of 1 (by decide)).1.2) (v := .int (σ5.1 60 8)) rfl dX11_then_120 ?_
                refine a_aload_n C dX11_then_123 (i := 0) rfl rfl ?_
                refine a_get C fl_RX11_54 (i := 0) kd_0 (hid 0 (by decide)) (v := .ref (ad 56)) rfl dX11_then_124 ?_
                refine a_get C fl_RX11_190 (i := 56) (show airOK 56 from airOK_of 0 (by decide)).1.1 (hid _ (show airOK 56 from airOK_of 0 (by decide)).1.2) (v := .int (σ5.1 56 8)) rfl dX11_then_127 ?_
                refine a_isub C dX11_then_130 ?_
                exact a_iret Rt dX11_then_131 rfl (ret_eq (h.trans (congrArg some hR.symm)))
        ·
          refine a_iconst C dX11_then_19 (v := (-1)) rfl ?_
          exact a_iret Rt dX11_then_20 rfl (ret_eq (h.trans (congrArg some hR.symm)))
set_option maxHeartbeats 4000000 in
set_option maxRecDepth 100000 in
theorem Z_X11_year {l : Launch} {D : va_G} {ids : List Nat} {ad : Nat → Nat} {ca : Nat → ClassId} {σ : HS} {x1 : Int32} {x2 : Int32} {r0 : Int32} {s0 : HS} (hid : ∀ i, i < 277 → i ∈ ids) (h : f_X11_year x1 x2 σ = some (r0, s0)) : Ki l D ids ad ca yX11_year cX11_year 5 .int 6 149 [.ref (ad 0), .int x1, .int x2] σ (fun r σ1 => r = r0 ∧ σ1 = s0) := by
  obtain ⟨R, hR⟩ : ∃ R, (r0, s0) = R := ⟨_, rfl⟩
  replace h := h.trans (congrArg some hR)
  refine Ki.of (by decide) (Nat.le_of_ble_eq_true rfl) 2 (fun Γ C Rt => ?_)
  show AW ids ad ca Γ 0 [some (.ref (ad 0)), some (.int x1), some (.int x2), none, none] [] σ
  unfold f_X11_year at h
  have j91 : ∀ (k28 : Int32 → Int32 → Int32 → Int32 → HS → Option (Int32 × HS)) (hk28 : ∀ (y1 : Int32) (y2 : Int32) (y3 : Int32) (y4 : Int32) (σ : HS), k28 y1 y2 y3 y4 σ = some R → AW ids ad ca Γ 28 [some (.ref (ad 0)), some (.int y1), some (.int y2), some (.int y3), some (.int y4)] [] σ) (y1 : Int32) (y2 : Int32) (y3 : Int32) (y4 : Int32) (σ : HS), f_X11_year_91 k28 y1 y2 y3 y4 σ = some R → AW ids ad ca Γ 91 [some (.ref (ad 0)), some (.int y1), some (.int y2), some (.int y3), some (.int y4)] [] σ := by
    intro k28 hk28 y1 y2 y3 y4 σ h
    unfold f_X11_year_91 at h
    refine p_iinc C (y := (y4 + 1)) (fun z1 => [some (.ref (ad 0)), some (.int y1), some (.int y2), some (.int y3), some (.int z1)]) dX11_year_91 rfl rfl (by decide) rfl (fun _ => rfl) h (fun z1 h => ?_)
    refine a_goto C dX11_year_94 (tgt := 28) rfl ?_
    exact hk28 _ _ _ _ _ h
  have j28 : ∀ (n : Nat) (y1 : Int32) (y2 : Int32) (y3 : Int32) (y4 : Int32) (σ : HS), f_X11_year_28 n y1 y2 y3 y4 σ = some R → AW ids ad ca Γ 28 [some (.ref (ad 0)), some (.int y1), some (.int y2), some (.int y3), some (.int y4)] [] σ := by
    intro n
    induction n with
    | zero => intro y1 y2 y3 y4 σ h; exact nn h
    | succ n ih =>
      intro y1 y2 y3 y4 σ h
      have h : b_X11_year_28 (f_X11_year_28 n) y1 y2 y3 y4 σ = some R := h
      unfold b_X11_year_28 at h
      refine a_iload C dX11_year_28 rfl ?_
      refine a_iload_n C dX11_year_30 (i := 2) rfl rfl ?_
      refine p_ic_ge C (X := y4.toInt) (Y := y2.toInt) rfl rfl dX11_year_31 (tgt := 97) rfl h (fun h => ?_) (fun h => ?_)
      ·
        refine a_iload_n C dX11_year_97 (i := 3) rfl rfl ?_
        exact a_iret Rt dX11_year_98 rfl (ret_eq (h.trans (congrArg some hR.symm)))
      ·
        refine a_aload_n C dX11_year_34 (i := 0) rfl rfl ?_
        refine a_get C fl_RX11_58 (i := 0) kd_0 (hid 0 (by decide)) (v := .ref (ad 60)) rfl dX11_year_35 ?_
        refine a_aload_n C dX11_year_38 (i := 0) rfl rfl ?_
        refine a_get C fl_RX11_54 (i := 0) kd_0 (hid 0 (by decide)) (v := .ref (ad 56)) rfl dX11_year_39 ?_
        refine p_callVv C (As := [.ref (ad 56)]) (i := 60) (show airOK 60 from airOK_of 1 (by decide)).1.1 (hid _ (show airOK 60 from airOK_of 1 (by decide)).1.2) ⟨_, _, rfl⟩ (by decide) h (fun _ e => Z_X0_copy hid (show airOK 60 from airOK_of 1 (by decide)) (show airOK 56 from airOK_of 0 (by decide)) e) mi_X0_copy ml_RX11_230 rfl rfl (Nat.le_of_ble_eq_true rfl) (Nat.le_of_ble_eq_true rfl) (Nat.le_of_ble_eq_true rfl) dX11_year_42 (fun σ1 h => ?_)
        refine a_aload_n C dX11_year_45 (i := 0) rfl rfl ?_
        refine a_get C fl_RX11_19 (i := 0) kd_0 (hid 0 (by decide)) (v := .ref (ad 8)) rfl dX11_year_46 ?_
        refine a_aload_n C dX11_year_49 (i := 0) rfl rfl ?_
        refine p_getT C fl_RX11_82 (tx := (σ1.2.2 0)) kd_0 (hid 0 (by decide)) (fun t e => by subst e; rfl) dX11_year_50 h (fun ht3 h => ?_)
        refine a_aload_n C dX11_year_53 (i := 0) rfl rfl ?_
        refine a_get C fl_RX11_58 (i := 0) kd_0 (hid 0 (by decide)) (v := .ref (ad 60)) rfl dX11_year_54 ?_
        refine a_iload_n C dX11_year_57 (i := 1) rfl rfl ?_
        refine a_aload_n C dX11_year_58 (i := 0) rfl rfl ?_
        refine p_getT C fl_RX11_82 (tx := (σ1.2.2 0)) kd_0 (hid 0 (by decide)) (fun t e => by subst e; rfl) dX11_year_59 h (fun ht4 h => ?_)
        refine a_get C fl_RX11_220 (i := ((σ1.2.2 0))) ht4.1.1 (hid _ ht4.1.2) (v := .int (σ1.1 ((σ1.2.2 0)) 11)) rfl dX11_year_62 ?_
        refine a_iload C dX11_year_65 rfl ?_
        refine a_iadd C dX11_year_67 ?_
        refine p_callVv C (As := [.ref (ad ((σ1.2.2 0))), .ref (ad 60), .int y1, .int ((σ1.1 ((σ1.2.2 0)) 11) + y4)]) (i := 8) kd_8 (hid 8 (by decide)) ⟨_, _, rfl⟩ (by decide) h (fun _ e => Z_X4_goOn hid ht3 (show airOK 60 from airOK_of 1 (by decide)) e) mi_X4_goOn ml_RX11_223 rfl rfl (Nat.le_of_ble_eq_true rfl) (Nat.le_of_ble_eq_true rfl) (Nat.le_of_ble_eq_true rfl) dX11_year_68 (fun σ5 h => ?_)
        refine a_aload_n C dX11_year_71 (i := 0) rfl rfl ?_
        refine a_get C fl_RX11_58 (i := 0) kd_0 (hid 0 (by decide)) (v := .ref (ad 60)) rfl dX11_year_72 ?_
        refine a_get C fl_RX11_184 (i := 60) (show airOK 60 from airOK_of 1 (by decide)).1.1 (hid _ (show airOK 60 from airOK_of 1 (by decide)).1.2) (v := .int (σ5.1 60 6)) rfl dX11_year_75 ?_
        refine a_aload_n C dX11_year_78 (i := 0) rfl rfl ?_
        refine a_get C fl_RX11_54 (i := 0) kd_0 (hid 0 (by decide)) (v := .ref (ad 56)) rfl dX11_year_79 ?_
        refine a_get C fl_RX11_184 (i := 56) (show airOK 56 from airOK_of 0 (by decide)).1.1 (hid _ (show airOK 56 from airOK_of 0 (by decide)).1.2) (v := .int (σ5.1 56 6)) rfl dX11_year_82 ?_
        refine p_ic_ne C (X := (σ5.1 60 6).toInt) (Y := (σ5.1 56 6).toInt) rfl rfl dX11_year_85 (tgt := 91) rfl h (fun h => ?_) (fun h => ?_)
        ·
          exact j91 (f_X11_year_28 n) (fun y1 y2 y3 y4 σ h => ih y1 y2 y3 y4 σ h) _ _ _ _ _ h
        ·
          refine p_iinc C (y := (y3 + 1)) (fun z7 => [some (.ref (ad 0)), some (.int y1), some (.int y2), some (.int z7), some (.int y4)]) dX11_year_88 rfl rfl (by decide) rfl (fun _ => rfl) h (fun z7 h => ?_)
          exact j91 (f_X11_year_28 n) (fun y1 y2 y3 y4 σ h => ih y1 y2 y3 y4 σ h) _ _ _ _ _ h
  refine a_iload_n C dX11_year_0 (i := 1) rfl rfl ?_
  refine p_if_lt C (X := x1.toInt) rfl dX11_year_1 (tgt := 21) rfl h (fun h => ?_) (fun h => ?_)
  ·
    refine a_iconst C dX11_year_21 (v := (-1)) rfl ?_
    exact a_iret Rt dX11_year_22 rfl (ret_eq (h.trans (congrArg some hR.symm)))
  ·
    refine a_iload_n C dX11_year_4 (i := 1) rfl rfl ?_
    refine a_bipush C dX11_year_5 (v := 60) rfl ?_
    refine p_ic_gt C (X := x1.toInt) (Y := 60) rfl (by decide) dX11_year_7 (tgt := 21) rfl h (fun h => ?_) (fun h => ?_)
    ·
      refine a_iconst C dX11_year_21 (v := (-1)) rfl ?_
      exact a_iret Rt dX11_year_22 rfl (ret_eq (h.trans (congrArg some hR.symm)))
    ·
      refine a_iload_n C dX11_year_10 (i := 2) rfl rfl ?_
      refine a_iconst C dX11_year_11 (v := 1) rfl ?_
      refine p_ic_lt C (X := x2.toInt) (Y := 1) rfl (by decide) dX11_year_12 (tgt := 21) rfl h (fun h => ?_) (fun h => ?_)
      ·
        refine a_iconst C dX11_year_21 (v := (-1)) rfl ?_
        exact a_iret Rt dX11_year_22 rfl (ret_eq (h.trans (congrArg some hR.symm)))
      ·
        refine a_iload_n C dX11_year_15 (i := 2) rfl rfl ?_
        refine a_bipush C dX11_year_16 (v := 20) rfl ?_
        refine p_ic_le C (X := x2.toInt) (Y := 20) rfl (by decide) dX11_year_18 (tgt := 23) rfl h (fun h => ?_) (fun h => ?_)
        ·
          refine a_iconst C dX11_year_23 (v := 0) rfl ?_
          refine a_istore_n C dX11_year_24 (i := 3) rfl (by decide) rfl (vs1 := [some (.ref (ad 0)), some (.int x1), some (.int x2), some (.int 0), none]) rfl ?_
          refine a_iconst C dX11_year_25 (v := 0) rfl ?_
          refine a_istore C dX11_year_26 (by decide) rfl (vs1 := [some (.ref (ad 0)), some (.int x1), some (.int x2), some (.int 0), some (.int 0)]) rfl ?_
          exact j28 _ _ _ _ _ _ h
        ·
          refine a_iconst C dX11_year_21 (v := (-1)) rfl ?_
          exact a_iret Rt dX11_year_22 rfl (ret_eq (h.trans (congrArg some hR.symm)))
set_option maxHeartbeats 4000000 in
set_option maxRecDepth 100000 in
theorem Z_X11_tell {l : Launch} {D : va_G} {ids : List Nat} {ad : Nat → Nat} {ca : Nat → ClassId} {σ : HS} {x1 : Int32} {x2 : Int32} {r0 : Int32} {s0 : HS} (hid : ∀ i, i < 277 → i ∈ ids) (h : f_X11_tell x1 x2 σ = some (r0, s0)) : Ki l D ids ad ca yX11_tell cX11_tell 3 .int 1 22 [.ref (ad 0), .int x1, .int x2] σ (fun r σ1 => r = r0 ∧ σ1 = s0) := by
  obtain ⟨R, hR⟩ : ∃ R, (r0, s0) = R := ⟨_, rfl⟩
  replace h := h.trans (congrArg some hR)
  refine Ki.of (by decide) (Nat.le_of_ble_eq_true rfl) 0 (fun Γ C Rt => ?_)
  show AW ids ad ca Γ 0 [some (.ref (ad 0)), some (.int x1), some (.int x2)] [] σ
  unfold f_X11_tell at h
  refine a_iload_n C dX11_tell_0 (i := 1) rfl rfl ?_
  refine p_if_lt C (X := x1.toInt) rfl dX11_tell_1 (tgt := 10) rfl h (fun h => ?_) (fun h => ?_)
  ·
    refine a_iconst C dX11_tell_10 (v := (-1)) rfl ?_
    exact a_iret Rt dX11_tell_11 rfl (ret_eq (h.trans (congrArg some hR.symm)))
  ·
    refine a_iload_n C dX11_tell_4 (i := 1) rfl rfl ?_
    refine a_bipush C dX11_tell_5 (v := 40) rfl ?_
    refine p_ic_le C (X := x1.toInt) (Y := 40) rfl (by decide) dX11_tell_7 (tgt := 12) rfl h (fun h => ?_) (fun h => ?_)
    ·
      refine a_aload_n C dX11_tell_12 (i := 0) rfl rfl ?_
      refine a_get C fl_RX11_33 (i := 0) kd_0 (hid 0 (by decide)) (v := .ref (ad 14)) rfl dX11_tell_13 ?_
      refine a_iload_n C dX11_tell_16 (i := 1) rfl rfl ?_
      refine a_iload_n C dX11_tell_17 (i := 2) rfl rfl ?_
      refine p_callVi C (As := [.int x1, .int x2]) (i := 14) kd_14 (hid 14 (by decide)) ⟨_, _, rfl⟩ (by decide) h (fun _ _ e => Z_X2_add hid e) mi_X2_add ml_RX11_322 rfl rfl (Nat.le_of_ble_eq_true rfl) (Nat.le_of_ble_eq_true rfl) (Nat.le_of_ble_eq_true rfl) dX11_tell_18 (fun r2 σ1 h => ?_)
      exact a_iret Rt dX11_tell_21 rfl (ret_eq (h.trans (congrArg some hR.symm)))
    ·
      refine a_iconst C dX11_tell_10 (v := (-1)) rfl ?_
      exact a_iret Rt dX11_tell_11 rfl (ret_eq (h.trans (congrArg some hR.symm)))
set_option maxHeartbeats 4000000 in
set_option maxRecDepth 100000 in
theorem Z_X11_forget {l : Launch} {D : va_G} {ids : List Nat} {ad : Nat → Nat} {ca : Nat → ClassId} {σ : HS} {r0 : Int32} {s0 : HS} (hid : ∀ i, i < 277 → i ∈ ids) (h : f_X11_forget σ = some (r0, s0)) : Ki l D ids ad ca yX11_forget cX11_forget 2 .int 0 0 [.ref (ad 0)] σ (fun r σ1 => r = r0 ∧ σ1 = s0) := by
  obtain ⟨R, hR⟩ : ∃ R, (r0, s0) = R := ⟨_, rfl⟩
  replace h := h.trans (congrArg some hR)
  refine Ki.of (by decide) (Nat.le_of_ble_eq_true rfl) 1 (fun Γ C Rt => ?_)
  show AW ids ad ca Γ 0 [some (.ref (ad 0)), none] [] σ
  unfold f_X11_forget at h
  refine a_aload_n C dX11_forget_0 (i := 0) rfl rfl ?_
  refine a_get C fl_RX11_33 (i := 0) kd_0 (hid 0 (by decide)) (v := .ref (ad 14)) rfl dX11_forget_1 ?_
  refine a_get C fl_RX11_117 (i := 14) kd_14 (hid 14 (by decide)) (v := .int (σ.1 14 2)) rfl dX11_forget_4 ?_
  refine p_istore_n C (fun z1 => [some (.ref (ad 0)), some (.int z1)]) dX11_forget_7 (i := 1) rfl (by decide) rfl (fun _ => rfl) h (fun z1 h => ?_)
  refine a_aload_n C dX11_forget_8 (i := 0) rfl rfl ?_
  refine a_get C fl_RX11_33 (i := 0) kd_0 (hid 0 (by decide)) (v := .ref (ad 14)) rfl dX11_forget_9 ?_
  refine a_iconst C dX11_forget_12 (v := 0) rfl ?_
  refine p_put C fp_RX11_117 (i := 14) kd_14 (hid 14 (by decide)) rfl rfl dX11_forget_13 h (fun σ2 h => ?_)
  refine a_iload_n C dX11_forget_16 (i := 1) rfl rfl ?_
  exact a_iret Rt dX11_forget_17 rfl (ret_eq (h.trans (congrArg some hR.symm)))
set_option maxHeartbeats 4000000 in
set_option maxRecDepth 100000 in
theorem Z_X11_glitters {l : Launch} {D : va_G} {ids : List Nat} {ad : Nat → Nat} {ca : Nat → ClassId} {σ : HS} {x1 : Int32} {x2 : Int32} {r0 : Int32} {s0 : HS} (hid : ∀ i, i < 277 → i ∈ ids) (h : f_X11_glitters x1 x2 σ = some (r0, s0)) : Ki l D ids ad ca yX11_glitters cX11_glitters 4 .int 7 168 [.ref (ad 0), .int x1, .int x2] σ (fun r σ1 => r = r0 ∧ σ1 = s0) := by
  obtain ⟨R, hR⟩ : ∃ R, (r0, s0) = R := ⟨_, rfl⟩
  replace h := h.trans (congrArg some hR)
  refine Ki.of (by decide) (Nat.le_of_ble_eq_true rfl) 1 (fun Γ C Rt => ?_)
  show AW ids ad ca Γ 0 [some (.ref (ad 0)), some (.int x1), some (.int x2), none] [] σ
  unfold f_X11_glitters at h
  refine a_iload_n C dX11_glitters_0 (i := 1) rfl rfl ?_
  refine p_if_lt C (X := x1.toInt) rfl dX11_glitters_1 (tgt := 24) rfl h (fun h => ?_) (fun h => ?_)
  ·
    refine a_iconst C dX11_glitters_24 (v := (-1)) rfl ?_
    exact a_iret Rt dX11_glitters_25 rfl (ret_eq (h.trans (congrArg some hR.symm)))
  ·
    refine a_iload_n C dX11_glitters_4 (i := 1) rfl rfl ?_
    refine a_aload_n C dX11_glitters_5 (i := 0) rfl rfl ?_
    refine a_get C fl_RX11_33 (i := 0) kd_0 (hid 0 (by decide)) (v := .ref (ad 14)) rfl dX11_glitters_6 ?_
    refine a_get C fl_RX11_117 (i := 14) kd_14 (hid 14 (by decide)) (v := .int (σ.1 14 2)) rfl dX11_glitters_9 ?_
    refine p_ic_gt C (X := x1.toInt) (Y := (σ.1 14 2).toInt) rfl rfl dX11_glitters_12 (tgt := 24) rfl h (fun h => ?_) (fun h => ?_)
    ·
      refine a_iconst C dX11_glitters_24 (v := (-1)) rfl ?_
      exact a_iret Rt dX11_glitters_25 rfl (ret_eq (h.trans (congrArg some hR.symm)))
    ·
      refine a_iload_n C dX11_glitters_15 (i := 2) rfl rfl ?_
      refine p_if_lt C (X := x2.toInt) rfl dX11_glitters_16 (tgt := 24) rfl h (fun h => ?_) (fun h => ?_)
      ·
        refine a_iconst C dX11_glitters_24 (v := (-1)) rfl ?_
        exact a_iret Rt dX11_glitters_25 rfl (ret_eq (h.trans (congrArg some hR.symm)))
      ·
        refine a_iload_n C dX11_glitters_19 (i := 2) rfl rfl ?_
        refine a_iconst C dX11_glitters_20 (v := 1) rfl ?_
        refine p_ic_le C (X := x2.toInt) (Y := 1) rfl (by decide) dX11_glitters_21 (tgt := 26) rfl h (fun h => ?_) (fun h => ?_)
        ·
          refine a_aload_n C dX11_glitters_26 (i := 0) rfl rfl ?_
          refine a_bipush C dX11_glitters_27 (v := 41) rfl ?_
          refine p_callVv C (As := [.int 41]) (i := 0) kd_0 (hid 0 (by decide)) ⟨_, _, rfl⟩ (by decide) h (fun _ e => Z_X11_findHands hid e) mi_X11_findHands ml_RX11_279 rfl rfl (Nat.le_of_ble_eq_true rfl) (Nat.le_of_ble_eq_true rfl) (Nat.le_of_ble_eq_true rfl) dX11_glitters_29 (fun σ1 h => ?_)
          refine a_aload_n C dX11_glitters_32 (i := 0) rfl rfl ?_
          refine a_get C fl_RX11_33 (i := 0) kd_0 (hid 0 (by decide)) (v := .ref (ad 14)) rfl dX11_glitters_33 ?_
          refine a_aload_n C dX11_glitters_36 (i := 0) rfl rfl ?_
          refine a_get C fl_RX11_54 (i := 0) kd_0 (hid 0 (by decide)) (v := .ref (ad 56)) rfl dX11_glitters_37 ?_
          refine a_iconst C dX11_glitters_40 (v := 0) rfl ?_
          refine p_callVi C (As := [.int 0]) (i := 56) (show airOK 56 from airOK_of 0 (by decide)).1.1 (hid _ (show airOK 56 from airOK_of 0 (by decide)).1.2) ⟨_, _, rfl⟩ (by decide) h (fun _ _ e => Z_X0_bitsOf hid (show airOK 56 from airOK_of 0 (by decide)) e) mi_X0_bitsOf ml_RX11_180 rfl rfl (Nat.le_of_ble_eq_true rfl) (Nat.le_of_ble_eq_true rfl) (Nat.le_of_ble_eq_true rfl) dX11_glitters_41 (fun r4 σ3 h => ?_)
          refine a_iload_n C dX11_glitters_44 (i := 1) rfl rfl ?_
          refine a_aload_n C dX11_glitters_45 (i := 0) rfl rfl ?_
          refine a_get C fl_RX11_69 (i := 0) kd_0 (hid 0 (by decide)) (v := .ref (ad 27)) rfl dX11_glitters_46 ?_
          refine p_callVi C (As := [.int r4, .int x1, .ref (ad 27)]) (i := 14) kd_14 (hid 14 (by decide)) ⟨_, _, rfl⟩ (by decide) h (fun _ _ e => Z_X2_agreeing hid (show rowOK 27 from ⟨kd_27, by decide⟩) e) mi_X2_agreeing ml_RX11_326 rfl rfl (Nat.le_of_ble_eq_true rfl) (Nat.le_of_ble_eq_true rfl) (Nat.le_of_ble_eq_true rfl) dX11_glitters_49 (fun r6 σ5 h => ?_)
          refine a_istore_n C dX11_glitters_52 (i := 3) rfl (by decide) rfl (vs1 := [some (.ref (ad 0)), some (.int x1), some (.int x2), some (.int r6)]) rfl ?_
          refine a_iload_n C dX11_glitters_53 (i := 2) rfl rfl ?_
          refine p_if_ne C (X := x2.toInt) rfl dX11_glitters_54 (tgt := 64) rfl h (fun h => ?_) (fun h => ?_)
          ·
            refine a_iload_n C dX11_glitters_64 (i := 3) rfl rfl ?_
            exact a_iret Rt dX11_glitters_65 rfl (ret_eq (h.trans (congrArg some hR.symm)))
          ·
            refine a_iload_n C dX11_glitters_57 (i := 3) rfl rfl ?_
            refine p_callSi C (As := [.int r6]) h (fun _ _ e => Z_J6_bitCount_0f7a4 hid e) ms_J6_bitCount_0f7a4 ml_RX11_330 rfl rfl (Nat.le_of_ble_eq_true rfl) (Nat.le_of_ble_eq_true rfl) (Nat.le_of_ble_eq_true rfl) dX11_glitters_58 (fun r8 σ7 h => ?_)
            refine a_goto C dX11_glitters_61 (tgt := 65) rfl ?_
            exact a_iret Rt dX11_glitters_65 rfl (ret_eq (h.trans (congrArg some hR.symm)))
        ·
          refine a_iconst C dX11_glitters_24 (v := (-1)) rfl ?_
          exact a_iret Rt dX11_glitters_25 rfl (ret_eq (h.trans (congrArg some hR.symm)))
set_option maxHeartbeats 4000000 in
set_option maxRecDepth 100000 in
theorem Z_X11_watch {l : Launch} {D : va_G} {ids : List Nat} {ad : Nat → Nat} {ca : Nat → ClassId} {σ : HS} {x1 : Int32} {r0 : Int32} {s0 : HS} (hid : ∀ i, i < 277 → i ∈ ids) (h : f_X11_watch x1 σ = some (r0, s0)) : Ki l D ids ad ca yX11_watch cX11_watch 8 .int 7 168 [.ref (ad 0), .int x1] σ (fun r σ1 => r = r0 ∧ σ1 = s0) := by
  obtain ⟨R, hR⟩ : ∃ R, (r0, s0) = R := ⟨_, rfl⟩
  replace h := h.trans (congrArg some hR)
  refine Ki.of (by decide) (Nat.le_of_ble_eq_true rfl) 6 (fun Γ C Rt => ?_)
  show AW ids ad ca Γ 0 [some (.ref (ad 0)), some (.int x1), none, none, none, none, none, none] [] σ
  unfold f_X11_watch at h
  have j128 : ∀ (k60 : Int32 → Int32 → Int32 → Int32 → HS → Option (Int32 × HS)) (hk60 : ∀ (y2 : Int32) (y3 : Int32) (y4 : Int32) (y5 : Int32) (σ : HS), k60 y2 y3 y4 y5 σ = some R → AW ids ad ca Γ 60 [some (.ref (ad 0)), none, some (.int y2), some (.int y3), some (.int y4), some (.int y5), none, none] [] σ) (y2 : Int32) (y3 : Int32) (y4 : Int32) (y5 : Int32) (σ : HS), f_X11_watch_128 k60 y2 y3 y4 y5 σ = some R → AW ids ad ca Γ 128 [some (.ref (ad 0)), none, some (.int y2), some (.int y3), some (.int y4), some (.int y5), none, none] [] σ := by
    intro k60 hk60 y2 y3 y4 y5 σ h
    unfold f_X11_watch_128 at h
    refine p_iinc C (y := (y5 + 1)) (fun z1 => [some (.ref (ad 0)), none, some (.int y2), some (.int y3), some (.int y4), some (.int z1), none, none]) dX11_watch_128 rfl rfl (by decide) rfl (fun _ => rfl) h (fun z1 h => ?_)
    refine a_goto C dX11_watch_131 (tgt := 60) rfl ?_
    exact hk60 _ _ _ _ _ h
  have j91 : ∀ (k60 : Int32 → Int32 → Int32 → Int32 → HS → Option (Int32 × HS)) (hk60 : ∀ (y2 : Int32) (y3 : Int32) (y4 : Int32) (y5 : Int32) (σ : HS), k60 y2 y3 y4 y5 σ = some R → AW ids ad ca Γ 60 [some (.ref (ad 0)), none, some (.int y2), some (.int y3), some (.int y4), some (.int y5), none, none] [] σ) (y2 : Int32) (y3 : Int32) (y4 : Int32) (y5 : Int32) (v0 : Int32) (σ : HS), f_X11_watch_91 k60 y2 y3 y4 y5 v0 σ = some R → AW ids ad ca Γ 91 [some (.ref (ad 0)), none, some (.int y2), some (.int y3), some (.int y4), some (.int y5), none, none] [.int v0] σ := by
    intro k60 hk60 y2 y3 y4 y5 v0 σ h
    unfold f_X11_watch_91 at h
    refine a_istore C dX11_watch_91 (by decide) rfl (vs1 := [some (.ref (ad 0)), none, some (.int y2), some (.int y3), some (.int y4), some (.int y5), some (.int v0), none]) rfl ?_
    refine a_iload_n C dX11_watch_93 (i := 2) rfl rfl ?_
    refine a_iload C dX11_watch_94 rfl ?_
    refine a_iand C dX11_watch_96 ?_
    refine p_callSi C (As := [.int (y2 &&& v0)]) h (fun _ _ e => Z_J6_bitCount_0f7a4 hid e) ms_J6_bitCount_0f7a4 ml_RX11_330 rfl rfl (Nat.le_of_ble_eq_true rfl) (Nat.le_of_ble_eq_true rfl) (Nat.le_of_ble_eq_true rfl) dX11_watch_97 (fun r2 σ1 h => ?_)
    refine a_iload_n C dX11_watch_100 (i := 2) rfl rfl ?_
    refine a_iload C dX11_watch_101 rfl ?_
    refine a_iconst C dX11_watch_103 (v := (-1)) rfl ?_
    refine a_ixor C dX11_watch_104 ?_
    refine a_iand C dX11_watch_105 ?_
    refine p_callSi C (As := [.int (y2 &&& (v0 ^^^ ((-1) : Int32)))]) h (fun _ _ e => Z_J6_bitCount_0f7a4 hid e) ms_J6_bitCount_0f7a4 ml_RX11_330 rfl rfl (Nat.le_of_ble_eq_true rfl) (Nat.le_of_ble_eq_true rfl) (Nat.le_of_ble_eq_true rfl) dX11_watch_106 (fun r4 σ3 h => ?_)
    refine a_mmax C dX11_watch_109 mm_RX11_335 mm_max.1 mm_max.2.1 mm_max.2.2 (Nat.le_of_ble_eq_true rfl) (Nat.le_of_ble_eq_true rfl) ?_
    refine p_istore C (fun z5 => [some (.ref (ad 0)), none, some (.int y2), some (.int y3), some (.int y4), some (.int y5), some (.int v0), some (.int z5)]) dX11_watch_112 (by decide) rfl (fun _ => rfl) h (fun z5 h => ?_)
    refine a_iload C dX11_watch_114 rfl ?_
    refine a_iload C dX11_watch_116 rfl ?_
    refine p_ic_ge C (X := z5.toInt) (Y := y4.toInt) rfl rfl dX11_watch_118 (tgt := 128) rfl h (fun h => ?_) (fun h => ?_)
    ·
      refine AW.sub (vs' := [some (.ref (ad 0)), none, some (.int y2), some (.int y3), some (.int y4), some (.int y5), none, none]) (lsub_of (by simp [lsubB])) ?_
      exact j128 k60 hk60 _ _ _ _ _ h
    ·
      refine a_iload C dX11_watch_121 rfl ?_
      refine a_istore C dX11_watch_123 (by decide) rfl (vs1 := [some (.ref (ad 0)), none, some (.int y2), some (.int y3), some (.int z5), some (.int y5), some (.int v0), some (.int z5)]) rfl ?_
      refine a_iload C dX11_watch_125 rfl ?_
      refine a_istore_n C dX11_watch_127 (i := 3) rfl (by decide) rfl (vs1 := [some (.ref (ad 0)), none, some (.int y2), some (.int y5), some (.int z5), some (.int y5), some (.int v0), some (.int z5)]) rfl ?_
      refine AW.sub (vs' := [some (.ref (ad 0)), none, some (.int y2), some (.int y5), some (.int z5), some (.int y5), none, none]) (lsub_of (by simp [lsubB])) ?_
      exact j128 k60 hk60 _ _ _ _ _ h
  have j60 : ∀ (n : Nat) (y2 : Int32) (y3 : Int32) (y4 : Int32) (y5 : Int32) (σ : HS), f_X11_watch_60 n y2 y3 y4 y5 σ = some R → AW ids ad ca Γ 60 [some (.ref (ad 0)), none, some (.int y2), some (.int y3), some (.int y4), some (.int y5), none, none] [] σ := by
    intro n
    induction n with
    | zero => intro y2 y3 y4 y5 σ h; exact nn h
    | succ n ih =>
      intro y2 y3 y4 y5 σ h
      have h : b_X11_watch_60 (f_X11_watch_60 n) y2 y3 y4 y5 σ = some R := h
      unfold b_X11_watch_60 at h
      refine a_iload C dX11_watch_60 rfl ?_
      refine a_bipush C dX11_watch_62 (v := 40) rfl ?_
      refine p_ic_gt C (X := y5.toInt) (Y := 40) rfl (by decide) dX11_watch_64 (tgt := 134) rfl h (fun h => ?_) (fun h => ?_)
      ·
        refine a_iload_n C dX11_watch_134 (i := 3) rfl rfl ?_
        exact a_iret Rt dX11_watch_135 rfl (ret_eq (h.trans (congrArg some hR.symm)))
      ·
        refine a_aload_n C dX11_watch_67 (i := 0) rfl rfl ?_
        refine a_get C fl_RX11_69 (i := 0) kd_0 (hid 0 (by decide)) (v := .ref (ad 27)) rfl dX11_watch_68 ?_
        refine a_iload C dX11_watch_71 rfl ?_
        refine p_iald C (i := 27) (show rowOK 27 from ⟨kd_27, by decide⟩) hid (by rw [al_27]; rfl) dX11_watch_73 h (fun h => ?_)
        refine a_iconst C dX11_watch_74 (v := (-1)) rfl ?_
        refine p_ic_ne C (X := (σ.1 27 y5.toInt.toNat).toInt) (Y := (-1)) rfl (by decide) dX11_watch_75 (tgt := 82) rfl h (fun h => ?_) (fun h => ?_)
        ·
          refine a_iconst C dX11_watch_82 (v := 1) rfl ?_
          refine a_aload_n C dX11_watch_83 (i := 0) rfl rfl ?_
          refine a_get C fl_RX11_69 (i := 0) kd_0 (hid 0 (by decide)) (v := .ref (ad 27)) rfl dX11_watch_84 ?_
          refine a_iload C dX11_watch_87 rfl ?_
          refine p_iald C (i := 27) (show rowOK 27 from ⟨kd_27, by decide⟩) hid (by rw [al_27]; rfl) dX11_watch_89 h (fun h => ?_)
          refine a_ishl C dX11_watch_90 ?_
          exact j91 (f_X11_watch_60 n) (fun y2 y3 y4 y5 σ h => ih y2 y3 y4 y5 σ h) _ _ _ _ _ _ h
        ·
          refine a_iconst C dX11_watch_78 (v := 0) rfl ?_
          refine a_goto C dX11_watch_79 (tgt := 91) rfl ?_
          exact j91 (f_X11_watch_60 n) (fun y2 y3 y4 y5 σ h => ih y2 y3 y4 y5 σ h) _ _ _ _ _ _ h
  refine a_iload_n C dX11_watch_0 (i := 1) rfl rfl ?_
  refine p_if_lt C (X := x1.toInt) rfl dX11_watch_1 (tgt := 15) rfl h (fun h => ?_) (fun h => ?_)
  ·
    refine a_iconst C dX11_watch_15 (v := (-1)) rfl ?_
    exact a_iret Rt dX11_watch_16 rfl (ret_eq (h.trans (congrArg some hR.symm)))
  ·
    refine a_iload_n C dX11_watch_4 (i := 1) rfl rfl ?_
    refine a_aload_n C dX11_watch_5 (i := 0) rfl rfl ?_
    refine a_get C fl_RX11_33 (i := 0) kd_0 (hid 0 (by decide)) (v := .ref (ad 14)) rfl dX11_watch_6 ?_
    refine a_get C fl_RX11_117 (i := 14) kd_14 (hid 14 (by decide)) (v := .int (σ.1 14 2)) rfl dX11_watch_9 ?_
    refine p_ic_le C (X := x1.toInt) (Y := (σ.1 14 2).toInt) rfl rfl dX11_watch_12 (tgt := 17) rfl h (fun h => ?_) (fun h => ?_)
    ·
      refine a_aload_n C dX11_watch_17 (i := 0) rfl rfl ?_
      refine a_bipush C dX11_watch_18 (v := 41) rfl ?_
      refine p_callVv C (As := [.int 41]) (i := 0) kd_0 (hid 0 (by decide)) ⟨_, _, rfl⟩ (by decide) h (fun _ e => Z_X11_findHands hid e) mi_X11_findHands ml_RX11_279 rfl rfl (Nat.le_of_ble_eq_true rfl) (Nat.le_of_ble_eq_true rfl) (Nat.le_of_ble_eq_true rfl) dX11_watch_20 (fun σ1 h => ?_)
      refine a_aload_n C dX11_watch_23 (i := 0) rfl rfl ?_
      refine a_get C fl_RX11_33 (i := 0) kd_0 (hid 0 (by decide)) (v := .ref (ad 14)) rfl dX11_watch_24 ?_
      refine a_aload_n C dX11_watch_27 (i := 0) rfl rfl ?_
      refine a_get C fl_RX11_54 (i := 0) kd_0 (hid 0 (by decide)) (v := .ref (ad 56)) rfl dX11_watch_28 ?_
      refine a_iconst C dX11_watch_31 (v := 0) rfl ?_
      refine p_callVi C (As := [.int 0]) (i := 56) (show airOK 56 from airOK_of 0 (by decide)).1.1 (hid _ (show airOK 56 from airOK_of 0 (by decide)).1.2) ⟨_, _, rfl⟩ (by decide) h (fun _ _ e => Z_X0_bitsOf hid (show airOK 56 from airOK_of 0 (by decide)) e) mi_X0_bitsOf ml_RX11_180 rfl rfl (Nat.le_of_ble_eq_true rfl) (Nat.le_of_ble_eq_true rfl) (Nat.le_of_ble_eq_true rfl) dX11_watch_32 (fun r4 σ3 h => ?_)
      refine a_iload_n C dX11_watch_35 (i := 1) rfl rfl ?_
      refine a_aload_n C dX11_watch_36 (i := 0) rfl rfl ?_
      refine a_get C fl_RX11_69 (i := 0) kd_0 (hid 0 (by decide)) (v := .ref (ad 27)) rfl dX11_watch_37 ?_
      refine p_callVi C (As := [.int r4, .int x1, .ref (ad 27)]) (i := 14) kd_14 (hid 14 (by decide)) ⟨_, _, rfl⟩ (by decide) h (fun _ _ e => Z_X2_agreeing hid (show rowOK 27 from ⟨kd_27, by decide⟩) e) mi_X2_agreeing ml_RX11_326 rfl rfl (Nat.le_of_ble_eq_true rfl) (Nat.le_of_ble_eq_true rfl) (Nat.le_of_ble_eq_true rfl) dX11_watch_40 (fun r6 σ5 h => ?_)
      refine a_istore_n C dX11_watch_43 (i := 2) rfl (by decide) rfl (vs1 := [some (.ref (ad 0)), some (.int x1), some (.int r6), none, none, none, none, none]) rfl ?_
      refine a_iload_n C dX11_watch_44 (i := 2) rfl rfl ?_
      refine p_if_ne C (X := r6.toInt) rfl dX11_watch_45 (tgt := 51) rfl h (fun h => ?_) (fun h => ?_)
      ·
        refine a_iconst C dX11_watch_51 (v := 0) rfl ?_
        refine a_istore_n C dX11_watch_52 (i := 3) rfl (by decide) rfl (vs1 := [some (.ref (ad 0)), some (.int x1), some (.int r6), some (.int 0), none, none, none, none]) rfl ?_
        refine a_bipush C dX11_watch_53 (v := 8) rfl ?_
        refine a_istore C dX11_watch_55 (by decide) rfl (vs1 := [some (.ref (ad 0)), some (.int x1), some (.int r6), some (.int 0), some (.int 8), none, none, none]) rfl ?_
        refine a_iconst C dX11_watch_57 (v := 0) rfl ?_
        refine a_istore C dX11_watch_58 (by decide) rfl (vs1 := [some (.ref (ad 0)), some (.int x1), some (.int r6), some (.int 0), some (.int 8), some (.int 0), none, none]) rfl ?_
        refine AW.sub (vs' := [some (.ref (ad 0)), none, some (.int r6), some (.int 0), some (.int 8), some (.int 0), none, none]) (lsub_of (by simp [lsubB])) ?_
        exact j60 _ _ _ _ _ _ h
      ·
        refine a_bipush C dX11_watch_48 (v := (-2)) rfl ?_
        exact a_iret Rt dX11_watch_50 rfl (ret_eq (h.trans (congrArg some hR.symm)))
    ·
      refine a_iconst C dX11_watch_15 (v := (-1)) rfl ?_
      exact a_iret Rt dX11_watch_16 rfl (ret_eq (h.trans (congrArg some hR.symm)))
set_option maxHeartbeats 4000000 in
set_option maxRecDepth 100000 in
theorem Z_X12_put {l : Launch} {D : va_G} {ids : List Nat} {ad : Nat → Nat} {ca : Nat → ClassId} {σ : HS} {x1 : Int32} {s0 : HS} (hid : ∀ i, i < 277 → i ∈ ids) (h : f_X12_put x1 σ = some s0) : Kv l D ids ad ca yX12_put cX12_put 3 0 0 [.ref (ad 236), .int x1] σ (fun σ1 => σ1 = s0) := by
  obtain ⟨R, hR⟩ : ∃ R, s0 = R := ⟨_, rfl⟩
  replace h := h.trans (congrArg some hR)
  refine Kv.of (by decide) (Nat.le_of_ble_eq_true rfl) 1 (fun Γ C Rt => ?_)
  show AW ids ad ca Γ 0 [some (.ref (ad 236)), some (.int x1), none] [] σ
  unfold f_X12_put at h
  have j3 : ∀ (n : Nat) (y1 : Int32) (y2 : Int32) (σ : HS), f_X12_put_3 n y1 y2 σ = some R → AW ids ad ca Γ 3 [some (.ref (ad 236)), some (.int y1), some (.int y2)] [] σ := by
    intro n
    induction n with
    | zero => intro y1 y2 σ h; exact nn h
    | succ n ih =>
      intro y1 y2 σ h
      have h : b_X12_put_3 (f_X12_put_3 n) y1 y2 σ = some R := h
      unfold b_X12_put_3 at h
      refine a_iload_n C dX12_put_3 (i := 2) rfl rfl ?_
      refine p_if_lt C (X := y2.toInt) rfl dX12_put_4 (tgt := 36) rfl h (fun h => ?_) (fun h => ?_)
      ·
        exact a_vret Rt dX12_put_36 (retv_eq (h.trans (congrArg some hR.symm)))
      ·
        refine a_aload_n C dX12_put_7 (i := 0) rfl rfl ?_
        refine a_get C fl_RX12_13 (i := 236) kd_236 (hid 236 (by decide)) (v := .ref (ad 237)) rfl dX12_put_8 ?_
        refine a_aload_n C dX12_put_11 (i := 0) rfl rfl ?_
        refine a_get C fl_RX12_154 (i := 236) kd_236 (hid 236 (by decide)) (v := .int (σ.1 236 2)) rfl dX12_put_12 ?_
        refine a_iload_n C dX12_put_15 (i := 1) rfl rfl ?_
        refine a_iload_n C dX12_put_16 (i := 2) rfl rfl ?_
        refine a_ishr C dX12_put_17 ?_
        refine a_i2b C dX12_put_18 ?_
        refine p_bast C (i := 237) kd_237 (hid 237 (by decide)) (by rw [al_237]; rfl) dX12_put_19 h (fun σ1 h => ?_)
        refine a_aload_n C dX12_put_20 (i := 0) rfl rfl ?_
        refine a_dup C dX12_put_21 rfl ?_
        refine a_get C fl_RX12_154 (i := 236) kd_236 (hid 236 (by decide)) (v := .int (σ1.1 236 2)) rfl dX12_put_22 ?_
        refine a_iconst C dX12_put_25 (v := 1) rfl ?_
        refine a_iadd C dX12_put_26 ?_
        refine p_put C fp_RX12_154 (i := 236) kd_236 (hid 236 (by decide)) rfl rfl dX12_put_27 h (fun σ2 h => ?_)
        refine p_iinc C (y := (y2 + (-8))) (fun z3 => [some (.ref (ad 236)), some (.int y1), some (.int z3)]) dX12_put_30 rfl rfl (by decide) rfl (fun _ => rfl) h (fun z3 h => ?_)
        refine a_goto C dX12_put_33 (tgt := 3) rfl ?_
        exact ih _ _ _ h
  refine a_bipush C dX12_put_0 (v := 24) rfl ?_
  refine a_istore_n C dX12_put_2 (i := 2) rfl (by decide) rfl (vs1 := [some (.ref (ad 236)), some (.int x1), some (.int 24)]) rfl ?_
  exact j3 _ _ _ _ h
set_option maxHeartbeats 4000000 in
set_option maxRecDepth 100000 in
theorem Z_X12_feed {l : Launch} {D : va_G} {ids : List Nat} {ad : Nat → Nat} {ca : Nat → ClassId} {σ : HS} {x1 : Int32} {x2 : Int32} {x3 : Int32} {x4 : Int32} {x5 : Int32} {r0 : Int32} {s0 : HS} (hid : ∀ i, i < 277 → i ∈ ids) (h : f_X12_feed x1 x2 x3 x4 x5 σ = some (r0, s0)) : Ki l D ids ad ca yX12_feed cX12_feed 6 .int 1 22 [.ref (ad 236), .int x1, .int x2, .int x3, .int x4, .int x5] σ (fun r σ1 => r = r0 ∧ σ1 = s0) := by
  obtain ⟨R, hR⟩ : ∃ R, (r0, s0) = R := ⟨_, rfl⟩
  replace h := h.trans (congrArg some hR)
  refine Ki.of (by decide) (Nat.le_of_ble_eq_true rfl) 0 (fun Γ C Rt => ?_)
  show AW ids ad ca Γ 0 [some (.ref (ad 236)), some (.int x1), some (.int x2), some (.int x3), some (.int x4), some (.int x5)] [] σ
  unfold f_X12_feed at h
  refine a_aload_n C dX12_feed_0 (i := 0) rfl rfl ?_
  refine a_get C fl_RX12_154 (i := 236) kd_236 (hid 236 (by decide)) (v := .int (σ.1 236 2)) rfl dX12_feed_1 ?_
  refine a_bipush C dX12_feed_4 (v := 20) rfl ?_
  refine a_iadd C dX12_feed_6 ?_
  refine a_sipush C dX12_feed_7 (v := 2000) rfl ?_
  refine p_ic_le C (X := ((σ.1 236 2) + (20 : Int32)).toInt) (Y := 2000) rfl (by decide) dX12_feed_10 (tgt := 15) rfl h (fun h => ?_) (fun h => ?_)
  ·
    refine a_aload_n C dX12_feed_15 (i := 0) rfl rfl ?_
    refine a_iload_n C dX12_feed_16 (i := 1) rfl rfl ?_
    refine p_callVv C (As := [.int x1]) (i := 236) kd_236 (hid 236 (by decide)) ⟨_, _, rfl⟩ (by decide) h (fun _ e => Z_X12_put hid e) mi_X12_put ml_RX12_157 rfl rfl (Nat.le_of_ble_eq_true rfl) (Nat.le_of_ble_eq_true rfl) (Nat.le_of_ble_eq_true rfl) dX12_feed_17 (fun σ1 h => ?_)
    refine a_aload_n C dX12_feed_20 (i := 0) rfl rfl ?_
    refine a_iload_n C dX12_feed_21 (i := 2) rfl rfl ?_
    refine p_callVv C (As := [.int x2]) (i := 236) kd_236 (hid 236 (by decide)) ⟨_, _, rfl⟩ (by decide) h (fun _ e => Z_X12_put hid e) mi_X12_put ml_RX12_157 rfl rfl (Nat.le_of_ble_eq_true rfl) (Nat.le_of_ble_eq_true rfl) (Nat.le_of_ble_eq_true rfl) dX12_feed_22 (fun σ3 h => ?_)
    refine a_aload_n C dX12_feed_25 (i := 0) rfl rfl ?_
    refine a_iload_n C dX12_feed_26 (i := 3) rfl rfl ?_
    refine p_callVv C (As := [.int x3]) (i := 236) kd_236 (hid 236 (by decide)) ⟨_, _, rfl⟩ (by decide) h (fun _ e => Z_X12_put hid e) mi_X12_put ml_RX12_157 rfl rfl (Nat.le_of_ble_eq_true rfl) (Nat.le_of_ble_eq_true rfl) (Nat.le_of_ble_eq_true rfl) dX12_feed_27 (fun σ5 h => ?_)
    refine a_aload_n C dX12_feed_30 (i := 0) rfl rfl ?_
    refine a_iload C dX12_feed_31 rfl ?_
    refine p_callVv C (As := [.int x4]) (i := 236) kd_236 (hid 236 (by decide)) ⟨_, _, rfl⟩ (by decide) h (fun _ e => Z_X12_put hid e) mi_X12_put ml_RX12_157 rfl rfl (Nat.le_of_ble_eq_true rfl) (Nat.le_of_ble_eq_true rfl) (Nat.le_of_ble_eq_true rfl) dX12_feed_33 (fun σ7 h => ?_)
    refine a_aload_n C dX12_feed_36 (i := 0) rfl rfl ?_
    refine a_iload C dX12_feed_37 rfl ?_
    refine p_callVv C (As := [.int x5]) (i := 236) kd_236 (hid 236 (by decide)) ⟨_, _, rfl⟩ (by decide) h (fun _ e => Z_X12_put hid e) mi_X12_put ml_RX12_157 rfl rfl (Nat.le_of_ble_eq_true rfl) (Nat.le_of_ble_eq_true rfl) (Nat.le_of_ble_eq_true rfl) dX12_feed_39 (fun σ9 h => ?_)
    refine a_aload_n C dX12_feed_42 (i := 0) rfl rfl ?_
    refine a_get C fl_RX12_154 (i := 236) kd_236 (hid 236 (by decide)) (v := .int (σ9.1 236 2)) rfl dX12_feed_43 ?_
    exact a_iret Rt dX12_feed_46 rfl (ret_eq (h.trans (congrArg some hR.symm)))
  ·
    refine a_iconst C dX12_feed_13 (v := (-1)) rfl ?_
    exact a_iret Rt dX12_feed_14 rfl (ret_eq (h.trans (congrArg some hR.symm)))
set_option maxHeartbeats 4000000 in
set_option maxRecDepth 100000 in
theorem Z_X12_back {l : Launch} {D : va_G} {ids : List Nat} {ad : Nat → Nat} {ca : Nat → ClassId} {σ : HS} {x1 : Int32} {r0 : Int32} {s0 : HS} (hid : ∀ i, i < 277 → i ∈ ids) (h : f_X12_back x1 σ = some (r0, s0)) : Ki l D ids ad ca yX12_back cX12_back 2 .int 0 0 [.ref (ad 236), .int x1] σ (fun r σ1 => r = r0 ∧ σ1 = s0) := by
  obtain ⟨R, hR⟩ : ∃ R, (r0, s0) = R := ⟨_, rfl⟩
  replace h := h.trans (congrArg some hR)
  refine Ki.of (by decide) (Nat.le_of_ble_eq_true rfl) 0 (fun Γ C Rt => ?_)
  show AW ids ad ca Γ 0 [some (.ref (ad 236)), some (.int x1)] [] σ
  unfold f_X12_back at h
  refine a_iload_n C dX12_back_0 (i := 1) rfl rfl ?_
  refine p_if_lt C (X := x1.toInt) rfl dX12_back_1 (tgt := 12) rfl h (fun h => ?_) (fun h => ?_)
  ·
    refine a_iconst C dX12_back_12 (v := (-1)) rfl ?_
    exact a_iret Rt dX12_back_13 rfl (ret_eq (h.trans (congrArg some hR.symm)))
  ·
    refine a_iload_n C dX12_back_4 (i := 1) rfl rfl ?_
    refine a_aload_n C dX12_back_5 (i := 0) rfl rfl ?_
    refine a_get C fl_RX12_154 (i := 236) kd_236 (hid 236 (by decide)) (v := .int (σ.1 236 2)) rfl dX12_back_6 ?_
    refine p_ic_le C (X := x1.toInt) (Y := (σ.1 236 2).toInt) rfl rfl dX12_back_9 (tgt := 14) rfl h (fun h => ?_) (fun h => ?_)
    ·
      refine a_aload_n C dX12_back_14 (i := 0) rfl rfl ?_
      refine a_dup C dX12_back_15 rfl ?_
      refine a_get C fl_RX12_154 (i := 236) kd_236 (hid 236 (by decide)) (v := .int (σ.1 236 2)) rfl dX12_back_16 ?_
      refine a_iload_n C dX12_back_19 (i := 1) rfl rfl ?_
      refine a_isub C dX12_back_20 ?_
      refine p_put C fp_RX12_154 (i := 236) kd_236 (hid 236 (by decide)) rfl rfl dX12_back_21 h (fun σ1 h => ?_)
      refine a_aload_n C dX12_back_24 (i := 0) rfl rfl ?_
      refine a_get C fl_RX12_154 (i := 236) kd_236 (hid 236 (by decide)) (v := .int (σ1.1 236 2)) rfl dX12_back_25 ?_
      exact a_iret Rt dX12_back_28 rfl (ret_eq (h.trans (congrArg some hR.symm)))
    ·
      refine a_iconst C dX12_back_12 (v := (-1)) rfl ?_
      exact a_iret Rt dX12_back_13 rfl (ret_eq (h.trans (congrArg some hR.symm)))
set_option maxHeartbeats 4000000 in
set_option maxRecDepth 100000 in
theorem Z_X12_byteAt {l : Launch} {D : va_G} {ids : List Nat} {ad : Nat → Nat} {ca : Nat → ClassId} {σ : HS} {x1 : Int32} {r0 : Int32} {s0 : HS} (hid : ∀ i, i < 277 → i ∈ ids) (h : f_X12_byteAt x1 σ = some (r0, s0)) : Ki l D ids ad ca yX12_byteAt cX12_byteAt 2 .int 0 0 [.ref (ad 236), .int x1] σ (fun r σ1 => r = r0 ∧ σ1 = s0) := by
  obtain ⟨R, hR⟩ : ∃ R, (r0, s0) = R := ⟨_, rfl⟩
  replace h := h.trans (congrArg some hR)
  refine Ki.of (by decide) (Nat.le_of_ble_eq_true rfl) 0 (fun Γ C Rt => ?_)
  show AW ids ad ca Γ 0 [some (.ref (ad 236)), some (.int x1)] [] σ
  unfold f_X12_byteAt at h
  refine a_iload_n C dX12_byteAt_0 (i := 1) rfl rfl ?_
  refine a_aload_n C dX12_byteAt_1 (i := 0) rfl rfl ?_
  refine a_get C fl_RX12_160 (i := 236) kd_236 (hid 236 (by decide)) (v := .int (σ.1 236 4)) rfl dX12_byteAt_2 ?_
  refine p_ic_ge C (X := x1.toInt) (Y := (σ.1 236 4).toInt) rfl rfl dX12_byteAt_5 (tgt := 21) rfl h (fun h => ?_) (fun h => ?_)
  ·
    refine a_iconst C dX12_byteAt_21 (v := 0) rfl ?_
    exact a_iret Rt dX12_byteAt_22 rfl (ret_eq (h.trans (congrArg some hR.symm)))
  ·
    refine a_aload_n C dX12_byteAt_8 (i := 0) rfl rfl ?_
    refine a_get C fl_RX12_17 (i := 236) kd_236 (hid 236 (by decide)) (v := .ref (ad 238)) rfl dX12_byteAt_9 ?_
    refine a_iload_n C dX12_byteAt_12 (i := 1) rfl rfl ?_
    refine p_bald C (i := 238) kd_238 (hid 238 (by decide)) (by rw [al_238]; rfl) dX12_byteAt_13 h (fun h => ?_)
    refine a_sipush C dX12_byteAt_14 (v := 255) rfl ?_
    refine a_iand C dX12_byteAt_17 ?_
    refine a_goto C dX12_byteAt_18 (tgt := 22) rfl ?_
    exact a_iret Rt dX12_byteAt_22 rfl (ret_eq (h.trans (congrArg some hR.symm)))
set_option maxHeartbeats 4000000 in
set_option maxRecDepth 100000 in
theorem Z_X12_isDigit {l : Launch} {D : va_G} {ids : List Nat} {ad : Nat → Nat} {ca : Nat → ClassId} {σ : HS} {x1 : Int32} {r0 : Int32} {s0 : HS} (hid : ∀ i, i < 277 → i ∈ ids) (h : f_X12_isDigit x1 σ = some (r0, s0)) : Ki l D ids ad ca yX12_isDigit cX12_isDigit 1 .boolean 0 0 [.int x1] σ (fun r σ1 => r = r0 ∧ σ1 = s0) := by
  obtain ⟨R, hR⟩ : ∃ R, (r0, s0) = R := ⟨_, rfl⟩
  replace h := h.trans (congrArg some hR)
  refine Ki.of (by decide) (Nat.le_of_ble_eq_true rfl) 0 (fun Γ C Rt => ?_)
  show AW ids ad ca Γ 0 [some (.int x1)] [] σ
  unfold f_X12_isDigit at h
  refine a_iload_n C dX12_isDigit_0 (i := 0) rfl rfl ?_
  refine a_bipush C dX12_isDigit_1 (v := 48) rfl ?_
  refine p_ic_lt C (X := x1.toInt) (Y := 48) rfl (by decide) dX12_isDigit_3 (tgt := 16) rfl h (fun h => ?_) (fun h => ?_)
  ·
    refine a_iconst C dX12_isDigit_16 (v := 0) rfl ?_
    exact a_iret Rt dX12_isDigit_17 (nar_z (by decide)).1 (ret_eq (h.trans (congrArg some hR.symm)))
  ·
    refine a_iload_n C dX12_isDigit_6 (i := 0) rfl rfl ?_
    refine a_bipush C dX12_isDigit_7 (v := 57) rfl ?_
    refine p_ic_gt C (X := x1.toInt) (Y := 57) rfl (by decide) dX12_isDigit_9 (tgt := 16) rfl h (fun h => ?_) (fun h => ?_)
    ·
      refine a_iconst C dX12_isDigit_16 (v := 0) rfl ?_
      exact a_iret Rt dX12_isDigit_17 (nar_z (by decide)).1 (ret_eq (h.trans (congrArg some hR.symm)))
    ·
      refine a_iconst C dX12_isDigit_12 (v := 1) rfl ?_
      refine a_goto C dX12_isDigit_13 (tgt := 17) rfl ?_
      exact a_iret Rt dX12_isDigit_17 (nar_z (by decide)).1 (ret_eq (h.trans (congrArg some hR.symm)))
set_option maxHeartbeats 4000000 in
set_option maxRecDepth 100000 in
theorem Z_X12_isLetter {l : Launch} {D : va_G} {ids : List Nat} {ad : Nat → Nat} {ca : Nat → ClassId} {σ : HS} {x1 : Int32} {r0 : Int32} {s0 : HS} (hid : ∀ i, i < 277 → i ∈ ids) (h : f_X12_isLetter x1 σ = some (r0, s0)) : Ki l D ids ad ca yX12_isLetter cX12_isLetter 1 .boolean 0 0 [.int x1] σ (fun r σ1 => r = r0 ∧ σ1 = s0) := by
  obtain ⟨R, hR⟩ : ∃ R, (r0, s0) = R := ⟨_, rfl⟩
  replace h := h.trans (congrArg some hR)
  refine Ki.of (by decide) (Nat.le_of_ble_eq_true rfl) 0 (fun Γ C Rt => ?_)
  show AW ids ad ca Γ 0 [some (.int x1)] [] σ
  unfold f_X12_isLetter at h
  refine a_iload_n C dX12_isLetter_0 (i := 0) rfl rfl ?_
  refine a_bipush C dX12_isLetter_1 (v := 97) rfl ?_
  refine p_ic_lt C (X := x1.toInt) (Y := 97) rfl (by decide) dX12_isLetter_3 (tgt := 16) rfl h (fun h => ?_) (fun h => ?_)
  ·
    refine a_iconst C dX12_isLetter_16 (v := 0) rfl ?_
    exact a_iret Rt dX12_isLetter_17 (nar_z (by decide)).1 (ret_eq (h.trans (congrArg some hR.symm)))
  ·
    refine a_iload_n C dX12_isLetter_6 (i := 0) rfl rfl ?_
    refine a_bipush C dX12_isLetter_7 (v := 122) rfl ?_
    refine p_ic_gt C (X := x1.toInt) (Y := 122) rfl (by decide) dX12_isLetter_9 (tgt := 16) rfl h (fun h => ?_) (fun h => ?_)
    ·
      refine a_iconst C dX12_isLetter_16 (v := 0) rfl ?_
      exact a_iret Rt dX12_isLetter_17 (nar_z (by decide)).1 (ret_eq (h.trans (congrArg some hR.symm)))
    ·
      refine a_iconst C dX12_isLetter_12 (v := 1) rfl ?_
      refine a_goto C dX12_isLetter_13 (tgt := 17) rfl ?_
      exact a_iret Rt dX12_isLetter_17 (nar_z (by decide)).1 (ret_eq (h.trans (congrArg some hR.symm)))
set_option maxHeartbeats 4000000 in
set_option maxRecDepth 100000 in
theorem Z_X12_token {l : Launch} {D : va_G} {ids : List Nat} {ad : Nat → Nat} {ca : Nat → ClassId} {σ : HS} {x1 : Int32} {x2 : Int32} {x3 : Int32} {x4 : Int64} {s0 : HS} (hid : ∀ i, i < 277 → i ∈ ids) (h : f_X12_token x1 x2 x3 x4 σ = some s0) : Kv l D ids ad ca yX12_token cX12_token 6 0 0 [.ref (ad 236), .int x1, .int x2, .int x3, .long x4] σ (fun σ1 => σ1 = s0) := by
  obtain ⟨R, hR⟩ : ∃ R, s0 = R := ⟨_, rfl⟩
  replace h := h.trans (congrArg some hR)
  refine Kv.of (by decide) (Nat.le_of_ble_eq_true rfl) 0 (fun Γ C Rt => ?_)
  show AW ids ad ca Γ 0 [some (.ref (ad 236)), some (.int x1), some (.int x2), some (.int x3), some (.long x4), none] [] σ
  unfold f_X12_token at h
  refine a_aload_n C dX12_token_0 (i := 0) rfl rfl ?_
  refine a_get C fl_RX12_20 (i := 236) kd_236 (hid 236 (by decide)) (v := .ref (ad 239)) rfl dX12_token_1 ?_
  refine a_aload_n C dX12_token_4 (i := 0) rfl rfl ?_
  refine a_get C fl_RX12_169 (i := 236) kd_236 (hid 236 (by decide)) (v := .int (σ.1 236 10)) rfl dX12_token_5 ?_
  refine a_iload_n C dX12_token_8 (i := 1) rfl rfl ?_
  refine p_iast C (i := 239) (show rowOK 239 from ⟨kd_239, by decide⟩) hid (by rw [al_239]; rfl) dX12_token_9 h (fun σ1 h => ?_)
  refine a_aload_n C dX12_token_10 (i := 0) rfl rfl ?_
  refine a_get C fl_RX12_24 (i := 236) kd_236 (hid 236 (by decide)) (v := .ref (ad 240)) rfl dX12_token_11 ?_
  refine a_aload_n C dX12_token_14 (i := 0) rfl rfl ?_
  refine a_get C fl_RX12_169 (i := 236) kd_236 (hid 236 (by decide)) (v := .int (σ1.1 236 10)) rfl dX12_token_15 ?_
  refine a_iload_n C dX12_token_18 (i := 2) rfl rfl ?_
  refine p_iast C (i := 240) (show rowOK 240 from ⟨kd_240, by decide⟩) hid (by rw [al_240]; rfl) dX12_token_19 h (fun σ2 h => ?_)
  refine a_aload_n C dX12_token_20 (i := 0) rfl rfl ?_
  refine a_get C fl_RX12_27 (i := 236) kd_236 (hid 236 (by decide)) (v := .ref (ad 241)) rfl dX12_token_21 ?_
  refine a_aload_n C dX12_token_24 (i := 0) rfl rfl ?_
  refine a_get C fl_RX12_169 (i := 236) kd_236 (hid 236 (by decide)) (v := .int (σ2.1 236 10)) rfl dX12_token_25 ?_
  refine a_iload_n C dX12_token_28 (i := 3) rfl rfl ?_
  refine p_iast C (i := 241) (show rowOK 241 from ⟨kd_241, by decide⟩) hid (by rw [al_241]; rfl) dX12_token_29 h (fun σ3 h => ?_)
  refine a_aload_n C dX12_token_30 (i := 0) rfl rfl ?_
  refine a_get C fl_RX12_30 (i := 236) kd_236 (hid 236 (by decide)) (v := .ref (ad 242)) rfl dX12_token_31 ?_
  refine a_aload_n C dX12_token_34 (i := 0) rfl rfl ?_
  refine a_get C fl_RX12_169 (i := 236) kd_236 (hid 236 (by decide)) (v := .int (σ3.1 236 10)) rfl dX12_token_35 ?_
  refine a_lload C dX12_token_38 rfl ?_
  refine p_last C (i := 242) kd_242 (hid 242 (by decide)) (by rw [al_242]; rfl) dX12_token_40 h (fun σ4 h => ?_)
  refine a_aload_n C dX12_token_41 (i := 0) rfl rfl ?_
  refine a_dup C dX12_token_42 rfl ?_
  refine a_get C fl_RX12_169 (i := 236) kd_236 (hid 236 (by decide)) (v := .int (σ4.1 236 10)) rfl dX12_token_43 ?_
  refine a_iconst C dX12_token_46 (v := 1) rfl ?_
  refine a_iadd C dX12_token_47 ?_
  refine p_put C fp_RX12_169 (i := 236) kd_236 (hid 236 (by decide)) rfl rfl dX12_token_48 h (fun σ5 h => ?_)
  exact a_vret Rt dX12_token_51 (retv_eq (h.trans (congrArg some hR.symm)))
set_option maxHeartbeats 4000000 in
set_option maxRecDepth 100000 in
theorem Z_X12_sign {l : Launch} {D : va_G} {ids : List Nat} {ad : Nat → Nat} {ca : Nat → ClassId} {σ : HS} {x1 : Int32} {x2 : Int32} {x3 : Int32} {r0 : Int32} {s0 : HS} (hid : ∀ i, i < 277 → i ∈ ids) (h : f_X12_sign x1 x2 x3 σ = some (r0, s0)) : Ki l D ids ad ca yX12_sign cX12_sign 5 .int 1 25 [.ref (ad 236), .int x1, .int x2, .int x3] σ (fun r σ1 => r = r0 ∧ σ1 = s0) := by
  obtain ⟨R, hR⟩ : ∃ R, (r0, s0) = R := ⟨_, rfl⟩
  replace h := h.trans (congrArg some hR)
  refine Ki.of (by decide) (Nat.le_of_ble_eq_true rfl) 1 (fun Γ C Rt => ?_)
  show AW ids ad ca Γ 0 [some (.ref (ad 236)), some (.int x1), some (.int x2), some (.int x3), none] [] σ
  unfold f_X12_sign at h
  have j95 : ∀ (y1 : Int32) (y4 : Int32) (σ : HS), f_X12_sign_95 y1 y4 σ = some R → AW ids ad ca Γ 95 [some (.ref (ad 236)), some (.int y1), none, none, some (.int y4)] [] σ := by
    intro y1 y4 σ h
    unfold f_X12_sign_95 at h
    refine a_aload_n C dX12_sign_95 (i := 0) rfl rfl ?_
    refine a_iload C dX12_sign_96 rfl ?_
    refine a_iload_n C dX12_sign_98 (i := 1) rfl rfl ?_
    refine a_iconst C dX12_sign_99 (v := 0) rfl ?_
    refine a_lconst C dX12_sign_100 (v := 0) rfl ?_
    refine p_callVv C (As := [.int y4, .int y1, .int 0, .long 0]) (i := 236) kd_236 (hid 236 (by decide)) ⟨_, _, rfl⟩ (by decide) h (fun _ e => Z_X12_token hid e) mi_X12_token ml_RX12_176 rfl rfl (Nat.le_of_ble_eq_true rfl) (Nat.le_of_ble_eq_true rfl) (Nat.le_of_ble_eq_true rfl) dX12_sign_101 (fun σ1 h => ?_)
    refine a_iconst C dX12_sign_104 (v := 1) rfl ?_
    exact a_iret Rt dX12_sign_105 rfl (ret_eq (h.trans (congrArg some hR.symm)))
  have j85 : ∀ (y1 : Int32) (y2 : Int32) (y4 : Int32) (σ : HS), f_X12_sign_85 y1 y2 y4 σ = some R → AW ids ad ca Γ 85 [some (.ref (ad 236)), some (.int y1), some (.int y2), none, some (.int y4)] [] σ := by
    intro y1 y2 y4 σ h
    unfold f_X12_sign_85 at h
    refine a_iload_n C dX12_sign_85 (i := 2) rfl rfl ?_
    refine a_bipush C dX12_sign_86 (v := 60) rfl ?_
    refine p_ic_ne C (X := y2.toInt) (Y := 60) rfl (by decide) dX12_sign_88 (tgt := 95) rfl h (fun h => ?_) (fun h => ?_)
    ·
      refine AW.sub (vs' := [some (.ref (ad 236)), some (.int y1), none, none, some (.int y4)]) (lsub_of (by simp [lsubB])) ?_
      exact j95 _ _ _ h
    ·
      refine a_bipush C dX12_sign_91 (v := 13) rfl ?_
      refine a_istore C dX12_sign_93 (by decide) rfl (vs1 := [some (.ref (ad 236)), some (.int y1), some (.int y2), none, some (.int 13)]) rfl ?_
      refine AW.sub (vs' := [some (.ref (ad 236)), some (.int y1), none, none, some (.int 13)]) (lsub_of (by simp [lsubB])) ?_
      exact j95 _ _ _ h
  have j75 : ∀ (y1 : Int32) (y2 : Int32) (y4 : Int32) (σ : HS), f_X12_sign_75 y1 y2 y4 σ = some R → AW ids ad ca Γ 75 [some (.ref (ad 236)), some (.int y1), some (.int y2), none, some (.int y4)] [] σ := by
    intro y1 y2 y4 σ h
    unfold f_X12_sign_75 at h
    refine a_iload_n C dX12_sign_75 (i := 2) rfl rfl ?_
    refine a_bipush C dX12_sign_76 (v := 47) rfl ?_
    refine p_ic_ne C (X := y2.toInt) (Y := 47) rfl (by decide) dX12_sign_78 (tgt := 85) rfl h (fun h => ?_) (fun h => ?_)
    ·
      exact j85 _ _ _ _ h
    ·
      refine a_bipush C dX12_sign_81 (v := 15) rfl ?_
      refine a_istore C dX12_sign_83 (by decide) rfl (vs1 := [some (.ref (ad 236)), some (.int y1), some (.int y2), none, some (.int 15)]) rfl ?_
      exact j85 _ _ _ _ h
  have j65 : ∀ (y1 : Int32) (y2 : Int32) (y4 : Int32) (σ : HS), f_X12_sign_65 y1 y2 y4 σ = some R → AW ids ad ca Γ 65 [some (.ref (ad 236)), some (.int y1), some (.int y2), none, some (.int y4)] [] σ := by
    intro y1 y2 y4 σ h
    unfold f_X12_sign_65 at h
    refine a_iload_n C dX12_sign_65 (i := 2) rfl rfl ?_
    refine a_bipush C dX12_sign_66 (v := 42) rfl ?_
    refine p_ic_ne C (X := y2.toInt) (Y := 42) rfl (by decide) dX12_sign_68 (tgt := 75) rfl h (fun h => ?_) (fun h => ?_)
    ·
      exact j75 _ _ _ _ h
    ·
      refine a_bipush C dX12_sign_71 (v := 10) rfl ?_
      refine a_istore C dX12_sign_73 (by decide) rfl (vs1 := [some (.ref (ad 236)), some (.int y1), some (.int y2), none, some (.int 10)]) rfl ?_
      exact j75 _ _ _ _ h
  have j55 : ∀ (y1 : Int32) (y2 : Int32) (y4 : Int32) (σ : HS), f_X12_sign_55 y1 y2 y4 σ = some R → AW ids ad ca Γ 55 [some (.ref (ad 236)), some (.int y1), some (.int y2), none, some (.int y4)] [] σ := by
    intro y1 y2 y4 σ h
    unfold f_X12_sign_55 at h
    refine a_iload_n C dX12_sign_55 (i := 2) rfl rfl ?_
    refine a_bipush C dX12_sign_56 (v := 45) rfl ?_
    refine p_ic_ne C (X := y2.toInt) (Y := 45) rfl (by decide) dX12_sign_58 (tgt := 65) rfl h (fun h => ?_) (fun h => ?_)
    ·
      exact j65 _ _ _ _ h
    ·
      refine a_bipush C dX12_sign_61 (v := 9) rfl ?_
      refine a_istore C dX12_sign_63 (by decide) rfl (vs1 := [some (.ref (ad 236)), some (.int y1), some (.int y2), none, some (.int 9)]) rfl ?_
      exact j65 _ _ _ _ h
  have j43 : ∀ (y1 : Int32) (y2 : Int32) (v0 : Int32) (σ : HS), f_X12_sign_43 y1 y2 v0 σ = some R → AW ids ad ca Γ 43 [some (.ref (ad 236)), some (.int y1), some (.int y2), none, none] [.int v0] σ := by
    intro y1 y2 v0 σ h
    unfold f_X12_sign_43 at h
    refine a_istore C dX12_sign_43 (by decide) rfl (vs1 := [some (.ref (ad 236)), some (.int y1), some (.int y2), none, some (.int v0)]) rfl ?_
    refine a_iload_n C dX12_sign_45 (i := 2) rfl rfl ?_
    refine a_bipush C dX12_sign_46 (v := 43) rfl ?_
    refine p_ic_ne C (X := y2.toInt) (Y := 43) rfl (by decide) dX12_sign_48 (tgt := 55) rfl h (fun h => ?_) (fun h => ?_)
    ·
      exact j55 _ _ _ _ h
    ·
      refine a_bipush C dX12_sign_51 (v := 8) rfl ?_
      refine a_istore C dX12_sign_53 (by decide) rfl (vs1 := [some (.ref (ad 236)), some (.int y1), some (.int y2), none, some (.int 8)]) rfl ?_
      exact j55 _ _ _ _ h
  refine a_iload_n C dX12_sign_0 (i := 2) rfl rfl ?_
  refine a_bipush C dX12_sign_1 (v := 59) rfl ?_
  refine p_ic_ne C (X := x2.toInt) (Y := 59) rfl (by decide) dX12_sign_3 (tgt := 10) rfl h (fun h => ?_) (fun h => ?_)
  ·
    refine a_iload_n C dX12_sign_10 (i := 2) rfl rfl ?_
    refine a_bipush C dX12_sign_11 (v := 61) rfl ?_
    refine p_ic_ne C (X := x2.toInt) (Y := 61) rfl (by decide) dX12_sign_13 (tgt := 20) rfl h (fun h => ?_) (fun h => ?_)
    ·
      refine a_iload_n C dX12_sign_20 (i := 2) rfl rfl ?_
      refine a_bipush C dX12_sign_21 (v := 40) rfl ?_
      refine p_ic_ne C (X := x2.toInt) (Y := 40) rfl (by decide) dX12_sign_23 (tgt := 31) rfl h (fun h => ?_) (fun h => ?_)
      ·
        refine a_iload_n C dX12_sign_31 (i := 2) rfl rfl ?_
        refine a_bipush C dX12_sign_32 (v := 41) rfl ?_
        refine p_ic_ne C (X := x2.toInt) (Y := 41) rfl (by decide) dX12_sign_34 (tgt := 42) rfl h (fun h => ?_) (fun h => ?_)
        ·
          refine a_iconst C dX12_sign_42 (v := 3) rfl ?_
          refine AW.sub (vs' := [some (.ref (ad 236)), some (.int x1), some (.int x2), none, none]) (lsub_of (by simp [lsubB])) ?_
          exact j43 _ _ _ _ h
        ·
          refine a_bipush C dX12_sign_37 (v := 7) rfl ?_
          refine a_goto C dX12_sign_39 (tgt := 43) rfl ?_
          refine AW.sub (vs' := [some (.ref (ad 236)), some (.int x1), some (.int x2), none, none]) (lsub_of (by simp [lsubB])) ?_
          exact j43 _ _ _ _ h
      ·
        refine a_bipush C dX12_sign_26 (v := 6) rfl ?_
        refine a_goto C dX12_sign_28 (tgt := 43) rfl ?_
        refine AW.sub (vs' := [some (.ref (ad 236)), some (.int x1), some (.int x2), none, none]) (lsub_of (by simp [lsubB])) ?_
        exact j43 _ _ _ _ h
    ·
      refine a_iconst C dX12_sign_16 (v := 5) rfl ?_
      refine a_goto C dX12_sign_17 (tgt := 43) rfl ?_
      refine AW.sub (vs' := [some (.ref (ad 236)), some (.int x1), some (.int x2), none, none]) (lsub_of (by simp [lsubB])) ?_
      exact j43 _ _ _ _ h
  ·
    refine a_iconst C dX12_sign_6 (v := 4) rfl ?_
    refine a_goto C dX12_sign_7 (tgt := 43) rfl ?_
    refine AW.sub (vs' := [some (.ref (ad 236)), some (.int x1), some (.int x2), none, none]) (lsub_of (by simp [lsubB])) ?_
    exact j43 _ _ _ _ h
set_option maxHeartbeats 4000000 in
set_option maxRecDepth 100000 in
theorem Z_X12_appends {l : Launch} {D : va_G} {ids : List Nat} {ad : Nat → Nat} {ca : Nat → ClassId} {σ : HS} {x1 : Int64} {x2 : Int32} {r0 : Int64} {s0 : HS} (hid : ∀ i, i < 277 → i ∈ ids) (h : f_X12_appends x1 x2 σ = some (r0, s0)) : Kl l D ids ad ca yX12_appends cX12_appends 3 0 0 [.long x1, .int x2] σ (fun r σ1 => r = r0 ∧ σ1 = s0) := by
  obtain ⟨R, hR⟩ : ∃ R, (r0, s0) = R := ⟨_, rfl⟩
  replace h := h.trans (congrArg some hR)
  refine Kl.of (by decide) (Nat.le_of_ble_eq_true rfl) 0 (fun Γ C Rt => ?_)
  show AW ids ad ca Γ 0 [some (.long x1), none, some (.int x2)] [] σ
  unfold f_X12_appends at h
  have j21 : ∀ (v0 : Int64) (σ : HS), f_X12_appends_21 v0 σ = some R → AW ids ad ca Γ 21 [none, none, none] [.long v0] σ := by
    intro v0 σ h
    unfold f_X12_appends_21 at h
    exact a_lret Rt dX12_appends_21 (ret_eq (h.trans (congrArg some hR.symm)))
  refine a_iload_n C dX12_appends_0 (i := 2) rfl rfl ?_
  refine p_if_ne C (X := x2.toInt) rfl dX12_appends_1 (tgt := 8) rfl h (fun h => ?_) (fun h => ?_)
  ·
    refine a_ldc2 C dX12_appends_8 ko_RX12_163 ?_
    refine a_lload_n C dX12_appends_11 (i := 0) rfl rfl ?_
    refine a_lmul C dX12_appends_12 ?_
    refine a_iload_n C dX12_appends_13 (i := 2) rfl rfl ?_
    refine a_bipush C dX12_appends_14 (v := 97) rfl ?_
    refine a_isub C dX12_appends_16 ?_
    refine a_iconst C dX12_appends_17 (v := 1) rfl ?_
    refine a_iadd C dX12_appends_18 ?_
    refine a_i2l C dX12_appends_19 ?_
    refine a_ladd C dX12_appends_20 ?_
    refine AW.sub (vs' := [none, none, none]) (lsub_of (by simp [lsubB])) ?_
    exact j21 _ _ h
  ·
    refine a_lload_n C dX12_appends_4 (i := 0) rfl rfl ?_
    refine a_goto C dX12_appends_5 (tgt := 21) rfl ?_
    refine AW.sub (vs' := [none, none, none]) (lsub_of (by simp [lsubB])) ?_
    exact j21 _ _ h

set_option maxHeartbeats 4000000 in
set_option maxRecDepth 100000 in
theorem Z_X12_cut {l : Launch} {D : va_G} {ids : List Nat} {ad : Nat → Nat} {ca : Nat → ClassId} {σ : HS} {s0 : HS} (hid : ∀ i, i < 277 → i ∈ ids) (h : f_X12_cut σ = some s0) : Kv l D ids ad ca yX12_cut cX12_cut 8 2 49 [.ref (ad 236)] σ (fun σ1 => σ1 = s0) := by
  obtain ⟨R, hR⟩ : ∃ R, s0 = R := ⟨_, rfl⟩
  replace h := h.trans (congrArg some hR)
  refine Kv.of (by decide) (Nat.le_of_ble_eq_true rfl) 7 (fun Γ C Rt => ?_)
  show AW ids ad ca Γ 0 [some (.ref (ad 236)), none, none, none, none, none, none, none] [] σ
  unfold f_X12_cut at h
  have j291 : ∀ (k7 : Int32 → HS → Option (HS)) (hk7 : ∀ (y1 : Int32) (σ : HS), k7 y1 σ = some R → AW ids ad ca Γ 7 [some (.ref (ad 236)), some (.int y1), none, none, none, none, none, none] [] σ) (y1 : Int32) (σ : HS), f_X12_cut_291 k7 y1 σ = some R → AW ids ad ca Γ 291 [some (.ref (ad 236)), some (.int y1), none, none, none, none, none, none] [] σ := by
    intro k7 hk7 y1 σ h
    unfold f_X12_cut_291 at h
    refine a_goto C dX12_cut_291 (tgt := 7) rfl ?_
    exact hk7 _ _ h
  have j67 : ∀ (k7 : Int32 → HS → Option (HS)) (hk7 : ∀ (y1 : Int32) (σ : HS), k7 y1 σ = some R → AW ids ad ca Γ 7 [some (.ref (ad 236)), some (.int y1), none, none, none, none, none, none] [] σ) (y1 : Int32) (σ : HS), f_X12_cut_67 k7 y1 σ = some R → AW ids ad ca Γ 67 [some (.ref (ad 236)), some (.int y1), none, none, none, none, none, none] [] σ := by
    intro k7 hk7 y1 σ h
    unfold f_X12_cut_67 at h
    refine p_iinc C (y := (y1 + 1)) (fun z1 => [some (.ref (ad 236)), some (.int z1), none, none, none, none, none, none]) dX12_cut_67 rfl rfl (by decide) rfl (fun _ => rfl) h (fun z1 h => ?_)
    refine a_goto C dX12_cut_70 (tgt := 291) rfl ?_
    exact j291 k7 hk7 _ _ h
  have j261 : ∀ (k7 : Int32 → HS → Option (HS)) (hk7 : ∀ (y1 : Int32) (σ : HS), k7 y1 σ = some R → AW ids ad ca Γ 7 [some (.ref (ad 236)), some (.int y1), none, none, none, none, none, none] [] σ) (y1 : Int32) (y3 : Int32) (y4 : Int32) (v0 : Int32) (σ : HS), f_X12_cut_261 k7 y1 y3 y4 v0 σ = some R → AW ids ad ca Γ 261 [some (.ref (ad 236)), some (.int y1), none, some (.int y3), some (.int y4), none, none, none] [.int v0, .ref (ad 236)] σ := by
    intro k7 hk7 y1 y3 y4 v0 σ h
    unfold f_X12_cut_261 at h
    refine a_iload_n C dX12_cut_261 (i := 1) rfl rfl ?_
    refine a_iload C dX12_cut_262 rfl ?_
    refine a_lconst C dX12_cut_264 (v := 0) rfl ?_
    refine p_callVv C (As := [.int v0, .int y1, .int y4, .long 0]) (i := 236) kd_236 (hid 236 (by decide)) ⟨_, _, rfl⟩ (by decide) h (fun _ e => Z_X12_token hid e) mi_X12_token ml_RX12_176 rfl rfl (Nat.le_of_ble_eq_true rfl) (Nat.le_of_ble_eq_true rfl) (Nat.le_of_ble_eq_true rfl) dX12_cut_265 (fun σ1 h => ?_)
    refine a_iload_n C dX12_cut_268 (i := 1) rfl rfl ?_
    refine a_iload_n C dX12_cut_269 (i := 3) rfl rfl ?_
    refine a_iadd C dX12_cut_270 ?_
    refine p_istore_n C (fun z3 => [some (.ref (ad 236)), some (.int z3), none, some (.int y3), some (.int y4), none, none, none]) dX12_cut_271 (i := 1) rfl (by decide) rfl (fun _ => rfl) h (fun z3 h => ?_)
    refine a_goto C dX12_cut_272 (tgt := 291) rfl ?_
    refine AW.sub (vs' := [some (.ref (ad 236)), some (.int z3), none, none, none, none, none, none]) (lsub_of (by simp [lsubB])) ?_
    exact j291 k7 hk7 _ _ h
  have j244 : ∀ (k7 : Int32 → HS → Option (HS)) (hk7 : ∀ (y1 : Int32) (σ : HS), k7 y1 σ = some R → AW ids ad ca Γ 7 [some (.ref (ad 236)), some (.int y1), none, none, none, none, none, none] [] σ) (k208 : Int32 → Int32 → Int32 → HS → Option (HS)) (hk208 : ∀ (y1 : Int32) (y3 : Int32) (y4 : Int32) (σ : HS), k208 y1 y3 y4 σ = some R → AW ids ad ca Γ 208 [some (.ref (ad 236)), some (.int y1), none, some (.int y3), some (.int y4), none, none, none] [] σ) (y1 : Int32) (y3 : Int32) (y4 : Int32) (σ : HS), f_X12_cut_244 k7 k208 y1 y3 y4 σ = some R → AW ids ad ca Γ 244 [some (.ref (ad 236)), some (.int y1), none, some (.int y3), some (.int y4), none, none, none] [] σ := by
    intro k7 hk7 k208 hk208 y1 y3 y4 σ h
    unfold f_X12_cut_244 at h
    refine p_iinc C (y := (y3 + 1)) (fun z1 => [some (.ref (ad 236)), some (.int y1), none, some (.int z1), some (.int y4), none, none, none]) dX12_cut_244 rfl rfl (by decide) rfl (fun _ => rfl) h (fun z1 h => ?_)
    refine a_goto C dX12_cut_247 (tgt := 208) rfl ?_
    exact hk208 _ _ _ _ h
  have j208 : ∀ (k7 : Int32 → HS → Option (HS)) (hk7 : ∀ (y1 : Int32) (σ : HS), k7 y1 σ = some R → AW ids ad ca Γ 7 [some (.ref (ad 236)), some (.int y1), none, none, none, none, none, none] [] σ) (n : Nat) (y1 : Int32) (y3 : Int32) (y4 : Int32) (σ : HS), f_X12_cut_208 k7 n y1 y3 y4 σ = some R → AW ids ad ca Γ 208 [some (.ref (ad 236)), some (.int y1), none, some (.int y3), some (.int y4), none, none, none] [] σ := by
    intro k7 hk7 n
    induction n with
    | zero => intro y1 y3 y4 σ h; exact nn h
    | succ n ih =>
      intro y1 y3 y4 σ h
      have h : b_X12_cut_208 k7 (f_X12_cut_208 k7 n) y1 y3 y4 σ = some R := h
      unfold b_X12_cut_208 at h
      refine a_aload_n C dX12_cut_208 (i := 0) rfl rfl ?_
      refine a_iload_n C dX12_cut_209 (i := 1) rfl rfl ?_
      refine a_iload_n C dX12_cut_210 (i := 3) rfl rfl ?_
      refine a_iadd C dX12_cut_211 ?_
      refine p_callVi C (As := [.int (y1 + y3)]) (i := 236) kd_236 (hid 236 (by decide)) ⟨_, _, rfl⟩ (by decide) h (fun _ _ e => Z_X12_byteAt hid e) mi_X12_byteAt ml_RX12_172 rfl rfl (Nat.le_of_ble_eq_true rfl) (Nat.le_of_ble_eq_true rfl) (Nat.le_of_ble_eq_true rfl) dX12_cut_212 (fun r2 σ1 h => ?_)
      refine p_callSi C (As := [.int r2]) h (fun _ _ e => Z_X12_isDigit hid e) ms_X12_isDigit ml_RX12_184 rfl rfl (Nat.le_of_ble_eq_true rfl) (Nat.le_of_ble_eq_true rfl) (Nat.le_of_ble_eq_true rfl) dX12_cut_215 (fun r4 σ3 h => ?_)
      refine p_if_eq C (X := r4.toInt) rfl dX12_cut_218 (tgt := 250) rfl h (fun h => ?_) (fun h => ?_)
      ·
        refine a_aload_n C dX12_cut_250 (i := 0) rfl rfl ?_
        refine a_iload_n C dX12_cut_251 (i := 3) rfl rfl ?_
        refine a_iconst C dX12_cut_252 (v := 4) rfl ?_
        refine p_ic_le C (X := y3.toInt) (Y := 4) rfl (by decide) dX12_cut_253 (tgt := 260) rfl h (fun h => ?_) (fun h => ?_)
        ·
          refine a_iconst C dX12_cut_260 (v := 2) rfl ?_
          exact j261 k7 hk7 _ _ _ _ _ h
        ·
          refine a_iconst C dX12_cut_256 (v := 3) rfl ?_
          refine a_goto C dX12_cut_257 (tgt := 261) rfl ?_
          exact j261 k7 hk7 _ _ _ _ _ h
      ·
        refine a_iload_n C dX12_cut_221 (i := 3) rfl rfl ?_
        refine a_iconst C dX12_cut_222 (v := 4) rfl ?_
        refine p_ic_ge C (X := y3.toInt) (Y := 4) rfl (by decide) dX12_cut_223 (tgt := 244) rfl h (fun h => ?_) (fun h => ?_)
        ·
          exact j244 k7 hk7 (f_X12_cut_208 k7 n) (fun y1 y3 y4 σ h => ih y1 y3 y4 σ h) _ _ _ _ h
        ·
          refine a_bipush C dX12_cut_226 (v := 10) rfl ?_
          refine a_iload C dX12_cut_228 rfl ?_
          refine a_imul C dX12_cut_230 ?_
          refine a_aload_n C dX12_cut_231 (i := 0) rfl rfl ?_
          refine a_iload_n C dX12_cut_232 (i := 1) rfl rfl ?_
          refine a_iload_n C dX12_cut_233 (i := 3) rfl rfl ?_
          refine a_iadd C dX12_cut_234 ?_
          refine p_callVi C (As := [.int (y1 + y3)]) (i := 236) kd_236 (hid 236 (by decide)) ⟨_, _, rfl⟩ (by decide) h (fun _ _ e => Z_X12_byteAt hid e) mi_X12_byteAt ml_RX12_172 rfl rfl (Nat.le_of_ble_eq_true rfl) (Nat.le_of_ble_eq_true rfl) (Nat.le_of_ble_eq_true rfl) dX12_cut_235 (fun r6 σ5 h => ?_)
          refine a_iadd C dX12_cut_238 ?_
          refine a_bipush C dX12_cut_239 (v := 48) rfl ?_
          refine a_isub C dX12_cut_241 ?_
          refine p_istore C (fun z7 => [some (.ref (ad 236)), some (.int y1), none, some (.int y3), some (.int z7), none, none, none]) dX12_cut_242 (by decide) rfl (fun _ => rfl) h (fun z7 h => ?_)
          exact j244 k7 hk7 (f_X12_cut_208 k7 n) (fun y1 y3 y4 σ h => ih y1 y3 y4 σ h) _ _ _ _ h
  have j179 : ∀ (k7 : Int32 → HS → Option (HS)) (hk7 : ∀ (y1 : Int32) (σ : HS), k7 y1 σ = some R → AW ids ad ca Γ 7 [some (.ref (ad 236)), some (.int y1), none, none, none, none, none, none] [] σ) (y1 : Int32) (y3 : Int32) (y4 : Int64) (y6 : Int32) (σ : HS), f_X12_cut_179 k7 y1 y3 y4 y6 σ = some R → AW ids ad ca Γ 179 [some (.ref (ad 236)), some (.int y1), none, some (.int y3), some (.long y4), none, some (.int y6), none] [] σ := by
    intro k7 hk7 y1 y3 y4 y6 σ h
    unfold f_X12_cut_179 at h
    refine a_aload_n C dX12_cut_179 (i := 0) rfl rfl ?_
    refine a_iload C dX12_cut_180 rfl ?_
    refine a_iload_n C dX12_cut_182 (i := 1) rfl rfl ?_
    refine a_iconst C dX12_cut_183 (v := 0) rfl ?_
    refine a_lload C dX12_cut_184 rfl ?_
    refine p_callVv C (As := [.int y6, .int y1, .int 0, .long y4]) (i := 236) kd_236 (hid 236 (by decide)) ⟨_, _, rfl⟩ (by decide) h (fun _ e => Z_X12_token hid e) mi_X12_token ml_RX12_176 rfl rfl (Nat.le_of_ble_eq_true rfl) (Nat.le_of_ble_eq_true rfl) (Nat.le_of_ble_eq_true rfl) dX12_cut_186 (fun σ1 h => ?_)
    refine a_iload_n C dX12_cut_189 (i := 1) rfl rfl ?_
    refine a_iload_n C dX12_cut_190 (i := 3) rfl rfl ?_
    refine a_iadd C dX12_cut_191 ?_
    refine p_istore_n C (fun z3 => [some (.ref (ad 236)), some (.int z3), none, some (.int y3), some (.long y4), none, some (.int y6), none]) dX12_cut_192 (i := 1) rfl (by decide) rfl (fun _ => rfl) h (fun z3 h => ?_)
    refine a_goto C dX12_cut_193 (tgt := 291) rfl ?_
    refine AW.sub (vs' := [some (.ref (ad 236)), some (.int z3), none, none, none, none, none, none]) (lsub_of (by simp [lsubB])) ?_
    exact j291 k7 hk7 _ _ h
  have j173 : ∀ (k7 : Int32 → HS → Option (HS)) (hk7 : ∀ (y1 : Int32) (σ : HS), k7 y1 σ = some R → AW ids ad ca Γ 7 [some (.ref (ad 236)), some (.int y1), none, none, none, none, none, none] [] σ) (k146 : Int32 → Int32 → Int64 → Int32 → Int32 → HS → Option (HS)) (hk146 : ∀ (y1 : Int32) (y3 : Int32) (y4 : Int64) (y6 : Int32) (y7 : Int32) (σ : HS), k146 y1 y3 y4 y6 y7 σ = some R → AW ids ad ca Γ 146 [some (.ref (ad 236)), some (.int y1), none, some (.int y3), some (.long y4), none, some (.int y6), some (.int y7)] [] σ) (y1 : Int32) (y3 : Int32) (y4 : Int64) (y6 : Int32) (y7 : Int32) (σ : HS), f_X12_cut_173 k7 k146 y1 y3 y4 y6 y7 σ = some R → AW ids ad ca Γ 173 [some (.ref (ad 236)), some (.int y1), none, some (.int y3), some (.long y4), none, some (.int y6), some (.int y7)] [] σ := by
    intro k7 hk7 k146 hk146 y1 y3 y4 y6 y7 σ h
    unfold f_X12_cut_173 at h
    refine p_iinc C (y := (y7 + 1)) (fun z1 => [some (.ref (ad 236)), some (.int y1), none, some (.int y3), some (.long y4), none, some (.int y6), some (.int z1)]) dX12_cut_173 rfl rfl (by decide) rfl (fun _ => rfl) h (fun z1 h => ?_)
    refine a_goto C dX12_cut_176 (tgt := 146) rfl ?_
    exact hk146 _ _ _ _ _ _ h
  have j146 : ∀ (k7 : Int32 → HS → Option (HS)) (hk7 : ∀ (y1 : Int32) (σ : HS), k7 y1 σ = some R → AW ids ad ca Γ 7 [some (.ref (ad 236)), some (.int y1), none, none, none, none, none, none] [] σ) (n : Nat) (y1 : Int32) (y3 : Int32) (y4 : Int64) (y6 : Int32) (y7 : Int32) (σ : HS), f_X12_cut_146 k7 n y1 y3 y4 y6 y7 σ = some R → AW ids ad ca Γ 146 [some (.ref (ad 236)), some (.int y1), none, some (.int y3), some (.long y4), none, some (.int y6), some (.int y7)] [] σ := by
    intro k7 hk7 n
    induction n with
    | zero => intro y1 y3 y4 y6 y7 σ h; exact nn h
    | succ n ih =>
      intro y1 y3 y4 y6 y7 σ h
      have h : b_X12_cut_146 k7 (f_X12_cut_146 k7 n) y1 y3 y4 y6 y7 σ = some R := h
      unfold b_X12_cut_146 at h
      refine a_iload C dX12_cut_146 rfl ?_
      refine a_bipush C dX12_cut_148 (v := 20) rfl ?_
      refine p_ic_ge C (X := y7.toInt) (Y := 20) rfl (by decide) dX12_cut_150 (tgt := 179) rfl h (fun h => ?_) (fun h => ?_)
      ·
        refine AW.sub (vs' := [some (.ref (ad 236)), some (.int y1), none, some (.int y3), some (.long y4), none, some (.int y6), none]) (lsub_of (by simp [lsubB])) ?_
        exact j179 k7 hk7 _ _ _ _ _ h
      ·
        refine a_aload_n C dX12_cut_153 (i := 0) rfl rfl ?_
        refine a_get C fl_RX12_34 (i := 236) kd_236 (hid 236 (by decide)) (v := .ref (ad 243)) rfl dX12_cut_154 ?_
        refine a_iload C dX12_cut_157 rfl ?_
        refine p_lald C (i := 243) kd_243 (hid 243 (by decide)) (by rw [al_243]; rfl) dX12_cut_159 h (fun h => ?_)
        refine a_lload C dX12_cut_160 rfl ?_
        refine a_lcmp C dX12_cut_162 ?_
        refine p_if_ne C (X := (lg_cmp (σ.2.1 243 y7.toInt.toNat) y4).toInt) rfl dX12_cut_163 (tgt := 173) rfl h (fun h => ?_) (fun h => ?_)
        ·
          exact j173 k7 hk7 (f_X12_cut_146 k7 n) (fun y1 y3 y4 y6 y7 σ h => ih y1 y3 y4 y6 y7 σ h) _ _ _ _ _ _ h
        ·
          refine a_bipush C dX12_cut_166 (v := 20) rfl ?_
          refine a_iload C dX12_cut_168 rfl ?_
          refine a_iadd C dX12_cut_170 ?_
          refine p_istore C (fun z1 => [some (.ref (ad 236)), some (.int y1), none, some (.int y3), some (.long y4), none, some (.int z1), some (.int y7)]) dX12_cut_171 (by decide) rfl (fun _ => rfl) h (fun z1 h => ?_)
          exact j173 k7 hk7 (f_X12_cut_146 k7 n) (fun y1 y3 y4 y6 y7 σ h => ih y1 y3 y4 y6 y7 σ h) _ _ _ _ _ _ h
  have j135 : ∀ (k7 : Int32 → HS → Option (HS)) (hk7 : ∀ (y1 : Int32) (σ : HS), k7 y1 σ = some R → AW ids ad ca Γ 7 [some (.ref (ad 236)), some (.int y1), none, none, none, none, none, none] [] σ) (y1 : Int32) (y3 : Int32) (y4 : Int64) (v0 : Int32) (σ : HS), f_X12_cut_135 k7 y1 y3 y4 v0 σ = some R → AW ids ad ca Γ 135 [some (.ref (ad 236)), some (.int y1), none, some (.int y3), some (.long y4), none, none, none] [.int v0] σ := by
    intro k7 hk7 y1 y3 y4 v0 σ h
    unfold f_X12_cut_135 at h
    refine a_istore C dX12_cut_135 (by decide) rfl (vs1 := [some (.ref (ad 236)), some (.int y1), none, some (.int y3), some (.long y4), none, some (.int v0), none]) rfl ?_
    refine a_iload_n C dX12_cut_137 (i := 3) rfl rfl ?_
    refine a_bipush C dX12_cut_138 (v := 8) rfl ?_
    refine p_ic_gt C (X := y3.toInt) (Y := 8) rfl (by decide) dX12_cut_140 (tgt := 179) rfl h (fun h => ?_) (fun h => ?_)
    ·
      exact j179 k7 hk7 _ _ _ _ _ h
    ·
      refine a_iconst C dX12_cut_143 (v := 0) rfl ?_
      refine a_istore C dX12_cut_144 (by decide) rfl (vs1 := [some (.ref (ad 236)), some (.int y1), none, some (.int y3), some (.long y4), none, some (.int v0), some (.int 0)]) rfl ?_
      exact j146 k7 hk7 _ _ _ _ _ _ _ h
  have j118 : ∀ (k7 : Int32 → HS → Option (HS)) (hk7 : ∀ (y1 : Int32) (σ : HS), k7 y1 σ = some R → AW ids ad ca Γ 7 [some (.ref (ad 236)), some (.int y1), none, none, none, none, none, none] [] σ) (k85 : Int32 → Int32 → Int64 → HS → Option (HS)) (hk85 : ∀ (y1 : Int32) (y3 : Int32) (y4 : Int64) (σ : HS), k85 y1 y3 y4 σ = some R → AW ids ad ca Γ 85 [some (.ref (ad 236)), some (.int y1), none, some (.int y3), some (.long y4), none, none, none] [] σ) (y1 : Int32) (y3 : Int32) (y4 : Int64) (σ : HS), f_X12_cut_118 k7 k85 y1 y3 y4 σ = some R → AW ids ad ca Γ 118 [some (.ref (ad 236)), some (.int y1), none, some (.int y3), some (.long y4), none, none, none] [] σ := by
    intro k7 hk7 k85 hk85 y1 y3 y4 σ h
    unfold f_X12_cut_118 at h
    refine p_iinc C (y := (y3 + 1)) (fun z1 => [some (.ref (ad 236)), some (.int y1), none, some (.int z1), some (.long y4), none, none, none]) dX12_cut_118 rfl rfl (by decide) rfl (fun _ => rfl) h (fun z1 h => ?_)
    refine a_goto C dX12_cut_121 (tgt := 85) rfl ?_
    exact hk85 _ _ _ _ h
  have j85 : ∀ (k7 : Int32 → HS → Option (HS)) (hk7 : ∀ (y1 : Int32) (σ : HS), k7 y1 σ = some R → AW ids ad ca Γ 7 [some (.ref (ad 236)), some (.int y1), none, none, none, none, none, none] [] σ) (n : Nat) (y1 : Int32) (y3 : Int32) (y4 : Int64) (σ : HS), f_X12_cut_85 k7 n y1 y3 y4 σ = some R → AW ids ad ca Γ 85 [some (.ref (ad 236)), some (.int y1), none, some (.int y3), some (.long y4), none, none, none] [] σ := by
    intro k7 hk7 n
    induction n with
    | zero => intro y1 y3 y4 σ h; exact nn h
    | succ n ih =>
      intro y1 y3 y4 σ h
      have h : b_X12_cut_85 k7 (f_X12_cut_85 k7 n) y1 y3 y4 σ = some R := h
      unfold b_X12_cut_85 at h
      refine a_aload_n C dX12_cut_85 (i := 0) rfl rfl ?_
      refine a_iload_n C dX12_cut_86 (i := 1) rfl rfl ?_
      refine a_iload_n C dX12_cut_87 (i := 3) rfl rfl ?_
      refine a_iadd C dX12_cut_88 ?_
      refine p_callVi C (As := [.int (y1 + y3)]) (i := 236) kd_236 (hid 236 (by decide)) ⟨_, _, rfl⟩ (by decide) h (fun _ _ e => Z_X12_byteAt hid e) mi_X12_byteAt ml_RX12_172 rfl rfl (Nat.le_of_ble_eq_true rfl) (Nat.le_of_ble_eq_true rfl) (Nat.le_of_ble_eq_true rfl) dX12_cut_89 (fun r2 σ1 h => ?_)
      refine p_callSi C (As := [.int r2]) h (fun _ _ e => Z_X12_isLetter hid e) ms_X12_isLetter ml_RX12_180 rfl rfl (Nat.le_of_ble_eq_true rfl) (Nat.le_of_ble_eq_true rfl) (Nat.le_of_ble_eq_true rfl) dX12_cut_92 (fun r4 σ3 h => ?_)
      refine p_if_eq C (X := r4.toInt) rfl dX12_cut_95 (tgt := 124) rfl h (fun h => ?_) (fun h => ?_)
      ·
        refine a_iload_n C dX12_cut_124 (i := 3) rfl rfl ?_
        refine a_bipush C dX12_cut_125 (v := 8) rfl ?_
        refine p_ic_le C (X := y3.toInt) (Y := 8) rfl (by decide) dX12_cut_127 (tgt := 134) rfl h (fun h => ?_) (fun h => ?_)
        ·
          refine a_iconst C dX12_cut_134 (v := 1) rfl ?_
          exact j135 k7 hk7 _ _ _ _ _ h
        ·
          refine a_iconst C dX12_cut_130 (v := 3) rfl ?_
          refine a_goto C dX12_cut_131 (tgt := 135) rfl ?_
          exact j135 k7 hk7 _ _ _ _ _ h
      ·
        refine a_iload_n C dX12_cut_98 (i := 3) rfl rfl ?_
        refine a_bipush C dX12_cut_99 (v := 8) rfl ?_
        refine p_ic_ge C (X := y3.toInt) (Y := 8) rfl (by decide) dX12_cut_101 (tgt := 118) rfl h (fun h => ?_) (fun h => ?_)
        ·
          exact j118 k7 hk7 (f_X12_cut_85 k7 n) (fun y1 y3 y4 σ h => ih y1 y3 y4 σ h) _ _ _ _ h
        ·
          refine a_lload C dX12_cut_104 rfl ?_
          refine a_aload_n C dX12_cut_106 (i := 0) rfl rfl ?_
          refine a_iload_n C dX12_cut_107 (i := 1) rfl rfl ?_
          refine a_iload_n C dX12_cut_108 (i := 3) rfl rfl ?_
          refine a_iadd C dX12_cut_109 ?_
          refine p_callVi C (As := [.int (y1 + y3)]) (i := 236) kd_236 (hid 236 (by decide)) ⟨_, _, rfl⟩ (by decide) h (fun _ _ e => Z_X12_byteAt hid e) mi_X12_byteAt ml_RX12_172 rfl rfl (Nat.le_of_ble_eq_true rfl) (Nat.le_of_ble_eq_true rfl) (Nat.le_of_ble_eq_true rfl) dX12_cut_110 (fun r6 σ5 h => ?_)
          refine p_callSl C (As := [.long y4, .int r6]) h (fun _ _ e => Z_X12_appends hid e) ms_X12_appends ml_RX12_165 rfl rfl (Nat.le_of_ble_eq_true rfl) (Nat.le_of_ble_eq_true rfl) (Nat.le_of_ble_eq_true rfl) dX12_cut_113 (fun r8 σ7 h => ?_)
          refine a_lstore C dX12_cut_116 (by decide) rfl (vs1 := [some (.ref (ad 236)), some (.int y1), none, some (.int y3), some (.long r8), none, none, none]) rfl ?_
          exact j118 k7 hk7 (f_X12_cut_85 k7 n) (fun y1 y3 y4 σ h => ih y1 y3 y4 σ h) _ _ _ _ h
  have j7 : ∀ (n : Nat) (y1 : Int32) (σ : HS), f_X12_cut_7 n y1 σ = some R → AW ids ad ca Γ 7 [some (.ref (ad 236)), some (.int y1), none, none, none, none, none, none] [] σ := by
    intro n
    induction n with
    | zero => intro y1 σ h; exact nn h
    | succ n ih =>
      intro y1 σ h
      have h : b_X12_cut_7 (f_X12_cut_7 n) y1 σ = some R := h
      unfold b_X12_cut_7 at h
      refine a_aload_n C dX12_cut_7 (i := 0) rfl rfl ?_
      refine a_get C fl_RX12_169 (i := 236) kd_236 (hid 236 (by decide)) (v := .int (σ.1 236 10)) rfl dX12_cut_8 ?_
      refine a_sipush C dX12_cut_11 (v := 400) rfl ?_
      refine p_ic_gt C (X := (σ.1 236 10).toInt) (Y := 400) rfl (by decide) dX12_cut_14 (tgt := 294) rfl h (fun h => ?_) (fun h => ?_)
      ·
        exact a_vret Rt dX12_cut_294 (retv_eq (h.trans (congrArg some hR.symm)))
      ·
        refine a_aload_n C dX12_cut_17 (i := 0) rfl rfl ?_
        refine a_iload_n C dX12_cut_18 (i := 1) rfl rfl ?_
        refine p_callVi C (As := [.int y1]) (i := 236) kd_236 (hid 236 (by decide)) ⟨_, _, rfl⟩ (by decide) h (fun _ _ e => Z_X12_byteAt hid e) mi_X12_byteAt ml_RX12_172 rfl rfl (Nat.le_of_ble_eq_true rfl) (Nat.le_of_ble_eq_true rfl) (Nat.le_of_ble_eq_true rfl) dX12_cut_19 (fun r2 σ1 h => ?_)
        refine a_istore_n C dX12_cut_22 (i := 2) rfl (by decide) rfl (vs1 := [some (.ref (ad 236)), some (.int y1), some (.int r2), none, none, none, none, none]) rfl ?_
        refine a_iload_n C dX12_cut_23 (i := 1) rfl rfl ?_
        refine a_aload_n C dX12_cut_24 (i := 0) rfl rfl ?_
        refine a_get C fl_RX12_160 (i := 236) kd_236 (hid 236 (by decide)) (v := .int (σ1.1 236 4)) rfl dX12_cut_25 ?_
        refine p_ic_lt C (X := y1.toInt) (Y := (σ1.1 236 4).toInt) rfl rfl dX12_cut_28 (tgt := 43) rfl h (fun h => ?_) (fun h => ?_)
        ·
          refine a_iload_n C dX12_cut_43 (i := 2) rfl rfl ?_
          refine a_bipush C dX12_cut_44 (v := 9) rfl ?_
          refine p_ic_eq C (X := r2.toInt) (Y := 9) rfl (by decide) dX12_cut_46 (tgt := 67) rfl h (fun h => ?_) (fun h => ?_)
          ·
            refine AW.sub (vs' := [some (.ref (ad 236)), some (.int y1), none, none, none, none, none, none]) (lsub_of (by simp [lsubB])) ?_
            exact j67 (f_X12_cut_7 n) (fun y1 σ h => ih y1 σ h) _ _ h
          ·
            refine a_iload_n C dX12_cut_49 (i := 2) rfl rfl ?_
            refine a_bipush C dX12_cut_50 (v := 10) rfl ?_
            refine p_ic_eq C (X := r2.toInt) (Y := 10) rfl (by decide) dX12_cut_52 (tgt := 67) rfl h (fun h => ?_) (fun h => ?_)
            ·
              refine AW.sub (vs' := [some (.ref (ad 236)), some (.int y1), none, none, none, none, none, none]) (lsub_of (by simp [lsubB])) ?_
              exact j67 (f_X12_cut_7 n) (fun y1 σ h => ih y1 σ h) _ _ h
            ·
              refine a_iload_n C dX12_cut_55 (i := 2) rfl rfl ?_
              refine a_bipush C dX12_cut_56 (v := 13) rfl ?_
              refine p_ic_eq C (X := r2.toInt) (Y := 13) rfl (by decide) dX12_cut_58 (tgt := 67) rfl h (fun h => ?_) (fun h => ?_)
              ·
                refine AW.sub (vs' := [some (.ref (ad 236)), some (.int y1), none, none, none, none, none, none]) (lsub_of (by simp [lsubB])) ?_
                exact j67 (f_X12_cut_7 n) (fun y1 σ h => ih y1 σ h) _ _ h
              ·
                refine a_iload_n C dX12_cut_61 (i := 2) rfl rfl ?_
                refine a_bipush C dX12_cut_62 (v := 32) rfl ?_
                refine p_ic_ne C (X := r2.toInt) (Y := 32) rfl (by decide) dX12_cut_64 (tgt := 73) rfl h (fun h => ?_) (fun h => ?_)
                ·
                  refine a_iload_n C dX12_cut_73 (i := 2) rfl rfl ?_
                  refine p_callSi C (As := [.int r2]) h (fun _ _ e => Z_X12_isLetter hid e) ms_X12_isLetter ml_RX12_180 rfl rfl (Nat.le_of_ble_eq_true rfl) (Nat.le_of_ble_eq_true rfl) (Nat.le_of_ble_eq_true rfl) dX12_cut_74 (fun r4 σ3 h => ?_)
                  refine p_if_eq C (X := r4.toInt) rfl dX12_cut_77 (tgt := 196) rfl h (fun h => ?_) (fun h => ?_)
                  ·
                    refine a_iload_n C dX12_cut_196 (i := 2) rfl rfl ?_
                    refine p_callSi C (As := [.int r2]) h (fun _ _ e => Z_X12_isDigit hid e) ms_X12_isDigit ml_RX12_184 rfl rfl (Nat.le_of_ble_eq_true rfl) (Nat.le_of_ble_eq_true rfl) (Nat.le_of_ble_eq_true rfl) dX12_cut_197 (fun r6 σ5 h => ?_)
                    refine p_if_eq C (X := r6.toInt) rfl dX12_cut_200 (tgt := 275) rfl h (fun h => ?_) (fun h => ?_)
                    ·
                      refine a_iload_n C dX12_cut_275 (i := 1) rfl rfl ?_
                      refine a_aload_n C dX12_cut_276 (i := 0) rfl rfl ?_
                      refine a_iload_n C dX12_cut_277 (i := 1) rfl rfl ?_
                      refine a_iload_n C dX12_cut_278 (i := 2) rfl rfl ?_
                      refine a_aload_n C dX12_cut_279 (i := 0) rfl rfl ?_
                      refine a_iload_n C dX12_cut_280 (i := 1) rfl rfl ?_
                      refine a_iconst C dX12_cut_281 (v := 1) rfl ?_
                      refine a_iadd C dX12_cut_282 ?_
                      refine p_callVi C (As := [.int (y1 + (1 : Int32))]) (i := 236) kd_236 (hid 236 (by decide)) ⟨_, _, rfl⟩ (by decide) h (fun _ _ e => Z_X12_byteAt hid e) mi_X12_byteAt ml_RX12_172 rfl rfl (Nat.le_of_ble_eq_true rfl) (Nat.le_of_ble_eq_true rfl) (Nat.le_of_ble_eq_true rfl) dX12_cut_283 (fun r8 σ7 h => ?_)
                      refine p_callVi C (As := [.int y1, .int r2, .int r8]) (i := 236) kd_236 (hid 236 (by decide)) ⟨_, _, rfl⟩ (by decide) h (fun _ _ e => Z_X12_sign hid e) mi_X12_sign ml_RX12_187 rfl rfl (Nat.le_of_ble_eq_true rfl) (Nat.le_of_ble_eq_true rfl) (Nat.le_of_ble_eq_true rfl) dX12_cut_286 (fun r10 σ9 h => ?_)
                      refine a_iadd C dX12_cut_289 ?_
                      refine p_istore_n C (fun z11 => [some (.ref (ad 236)), some (.int z11), some (.int r2), none, none, none, none, none]) dX12_cut_290 (i := 1) rfl (by decide) rfl (fun _ => rfl) h (fun z11 h => ?_)
                      refine AW.sub (vs' := [some (.ref (ad 236)), some (.int z11), none, none, none, none, none, none]) (lsub_of (by simp [lsubB])) ?_
                      exact j291 (f_X12_cut_7 n) (fun y1 σ h => ih y1 σ h) _ _ h
                    ·
                      refine a_iconst C dX12_cut_203 (v := 0) rfl ?_
                      refine a_istore_n C dX12_cut_204 (i := 3) rfl (by decide) rfl (vs1 := [some (.ref (ad 236)), some (.int y1), some (.int r2), some (.int 0), none, none, none, none]) rfl ?_
                      refine a_iconst C dX12_cut_205 (v := 0) rfl ?_
                      refine a_istore C dX12_cut_206 (by decide) rfl (vs1 := [some (.ref (ad 236)), some (.int y1), some (.int r2), some (.int 0), some (.int 0), none, none, none]) rfl ?_
                      refine AW.sub (vs' := [some (.ref (ad 236)), some (.int y1), none, some (.int 0), some (.int 0), none, none, none]) (lsub_of (by simp [lsubB])) ?_
                      exact j208 (f_X12_cut_7 n) (fun y1 σ h => ih y1 σ h) _ _ _ _ _ h
                  ·
                    refine a_iconst C dX12_cut_80 (v := 0) rfl ?_
                    refine a_istore_n C dX12_cut_81 (i := 3) rfl (by decide) rfl (vs1 := [some (.ref (ad 236)), some (.int y1), some (.int r2), some (.int 0), none, none, none, none]) rfl ?_
                    refine a_lconst C dX12_cut_82 (v := 0) rfl ?_
                    refine a_lstore C dX12_cut_83 (by decide) rfl (vs1 := [some (.ref (ad 236)), some (.int y1), some (.int r2), some (.int 0), some (.long 0), none, none, none]) rfl ?_
                    refine AW.sub (vs' := [some (.ref (ad 236)), some (.int y1), none, some (.int 0), some (.long 0), none, none, none]) (lsub_of (by simp [lsubB])) ?_
                    exact j85 (f_X12_cut_7 n) (fun y1 σ h => ih y1 σ h) _ _ _ _ _ h
                ·
                  refine AW.sub (vs' := [some (.ref (ad 236)), some (.int y1), none, none, none, none, none, none]) (lsub_of (by simp [lsubB])) ?_
                  exact j67 (f_X12_cut_7 n) (fun y1 σ h => ih y1 σ h) _ _ h
        ·
          refine a_aload_n C dX12_cut_31 (i := 0) rfl rfl ?_
          refine a_iconst C dX12_cut_32 (v := 0) rfl ?_
          refine a_aload_n C dX12_cut_33 (i := 0) rfl rfl ?_
          refine a_get C fl_RX12_160 (i := 236) kd_236 (hid 236 (by decide)) (v := .int (σ1.1 236 4)) rfl dX12_cut_34 ?_
          refine a_iconst C dX12_cut_37 (v := 0) rfl ?_
          refine a_lconst C dX12_cut_38 (v := 0) rfl ?_
          refine p_callVv C (As := [.int 0, .int (σ1.1 236 4), .int 0, .long 0]) (i := 236) kd_236 (hid 236 (by decide)) ⟨_, _, rfl⟩ (by decide) h (fun _ e => Z_X12_token hid e) mi_X12_token ml_RX12_176 rfl rfl (Nat.le_of_ble_eq_true rfl) (Nat.le_of_ble_eq_true rfl) (Nat.le_of_ble_eq_true rfl) dX12_cut_39 (fun σ12 h => ?_)
          exact a_vret Rt dX12_cut_42 (retv_eq (h.trans (congrArg some hR.symm)))
  refine a_aload_n C dX12_cut_0 (i := 0) rfl rfl ?_
  refine a_iconst C dX12_cut_1 (v := 0) rfl ?_
  refine p_put C fp_RX12_169 (i := 236) kd_236 (hid 236 (by decide)) rfl rfl dX12_cut_2 h (fun σ1 h => ?_)
  refine a_iconst C dX12_cut_5 (v := 0) rfl ?_
  refine a_istore_n C dX12_cut_6 (i := 1) rfl (by decide) rfl (vs1 := [some (.ref (ad 236)), some (.int 0), none, none, none, none, none, none]) rfl ?_
  exact j7 _ _ _ h
set_option maxHeartbeats 4000000 in
set_option maxRecDepth 100000 in
theorem Z_X12_is {l : Launch} {D : va_G} {ids : List Nat} {ad : Nat → Nat} {ca : Nat → ClassId} {σ : HS} {x1 : Int32} {r0 : Int32} {s0 : HS} (hid : ∀ i, i < 277 → i ∈ ids) (h : f_X12_is x1 σ = some (r0, s0)) : Ki l D ids ad ca yX12_is cX12_is 2 .boolean 0 0 [.ref (ad 236), .int x1] σ (fun r σ1 => r = r0 ∧ σ1 = s0) := by
  obtain ⟨R, hR⟩ : ∃ R, (r0, s0) = R := ⟨_, rfl⟩
  replace h := h.trans (congrArg some hR)
  refine Ki.of (by decide) (Nat.le_of_ble_eq_true rfl) 0 (fun Γ C Rt => ?_)
  show AW ids ad ca Γ 0 [some (.ref (ad 236)), some (.int x1)] [] σ
  unfold f_X12_is at h
  refine a_aload_n C dX12_is_0 (i := 0) rfl rfl ?_
  refine a_get C fl_RX12_191 (i := 236) kd_236 (hid 236 (by decide)) (v := .int (σ.1 236 13)) rfl dX12_is_1 ?_
  refine p_if_ne C (X := (σ.1 236 13).toInt) rfl dX12_is_4 (tgt := 24) rfl h (fun h => ?_) (fun h => ?_)
  ·
    refine a_iconst C dX12_is_24 (v := 0) rfl ?_
    exact a_iret Rt dX12_is_25 (nar_z (by decide)).1 (ret_eq (h.trans (congrArg some hR.symm)))
  ·
    refine a_aload_n C dX12_is_7 (i := 0) rfl rfl ?_
    refine a_get C fl_RX12_20 (i := 236) kd_236 (hid 236 (by decide)) (v := .ref (ad 239)) rfl dX12_is_8 ?_
    refine a_aload_n C dX12_is_11 (i := 0) rfl rfl ?_
    refine a_get C fl_RX12_194 (i := 236) kd_236 (hid 236 (by decide)) (v := .int (σ.1 236 11)) rfl dX12_is_12 ?_
    refine p_iald C (i := 239) (show rowOK 239 from ⟨kd_239, by decide⟩) hid (by rw [al_239]; rfl) dX12_is_15 h (fun h => ?_)
    refine a_iload_n C dX12_is_16 (i := 1) rfl rfl ?_
    refine p_ic_ne C (X := (σ.1 239 (σ.1 236 11).toInt.toNat).toInt) (Y := x1.toInt) rfl rfl dX12_is_17 (tgt := 24) rfl h (fun h => ?_) (fun h => ?_)
    ·
      refine a_iconst C dX12_is_24 (v := 0) rfl ?_
      exact a_iret Rt dX12_is_25 (nar_z (by decide)).1 (ret_eq (h.trans (congrArg some hR.symm)))
    ·
      refine a_iconst C dX12_is_20 (v := 1) rfl ?_
      refine a_goto C dX12_is_21 (tgt := 25) rfl ?_
      exact a_iret Rt dX12_is_25 (nar_z (by decide)).1 (ret_eq (h.trans (congrArg some hR.symm)))
set_option maxHeartbeats 4000000 in
set_option maxRecDepth 100000 in
theorem Z_X12_fail {l : Launch} {D : va_G} {ids : List Nat} {ad : Nat → Nat} {ca : Nat → ClassId} {σ : HS} {x1 : Int32} {s0 : HS} (hid : ∀ i, i < 277 → i ∈ ids) (h : f_X12_fail x1 σ = some s0) : Kv l D ids ad ca yX12_fail cX12_fail 2 0 0 [.ref (ad 236), .int x1] σ (fun σ1 => σ1 = s0) := by
  obtain ⟨R, hR⟩ : ∃ R, s0 = R := ⟨_, rfl⟩
  replace h := h.trans (congrArg some hR)
  refine Kv.of (by decide) (Nat.le_of_ble_eq_true rfl) 0 (fun Γ C Rt => ?_)
  show AW ids ad ca Γ 0 [some (.ref (ad 236)), some (.int x1)] [] σ
  unfold f_X12_fail at h
  refine a_aload_n C dX12_fail_0 (i := 0) rfl rfl ?_
  refine a_get C fl_RX12_191 (i := 236) kd_236 (hid 236 (by decide)) (v := .int (σ.1 236 13)) rfl dX12_fail_1 ?_
  refine p_if_le C (X := (σ.1 236 13).toInt) rfl dX12_fail_4 (tgt := 8) rfl h (fun h => ?_) (fun h => ?_)
  ·
    refine a_aload_n C dX12_fail_8 (i := 0) rfl rfl ?_
    refine a_iload_n C dX12_fail_9 (i := 1) rfl rfl ?_
    refine p_put C fp_RX12_191 (i := 236) kd_236 (hid 236 (by decide)) rfl rfl dX12_fail_10 h (fun σ1 h => ?_)
    refine a_aload_n C dX12_fail_13 (i := 0) rfl rfl ?_
    refine a_aload_n C dX12_fail_14 (i := 0) rfl rfl ?_
    refine a_get C fl_RX12_24 (i := 236) kd_236 (hid 236 (by decide)) (v := .ref (ad 240)) rfl dX12_fail_15 ?_
    refine a_aload_n C dX12_fail_18 (i := 0) rfl rfl ?_
    refine a_get C fl_RX12_194 (i := 236) kd_236 (hid 236 (by decide)) (v := .int (σ1.1 236 11)) rfl dX12_fail_19 ?_
    refine p_iald C (i := 240) (show rowOK 240 from ⟨kd_240, by decide⟩) hid (by rw [al_240]; rfl) dX12_fail_22 h (fun h => ?_)
    refine p_put C fp_RX12_197 (i := 236) kd_236 (hid 236 (by decide)) rfl rfl dX12_fail_23 h (fun σ2 h => ?_)
    exact a_vret Rt dX12_fail_26 (retv_eq (h.trans (congrArg some hR.symm)))
  ·
    exact a_vret Rt dX12_fail_7 (retv_eq (h.trans (congrArg some hR.symm)))
set_option maxHeartbeats 4000000 in
set_option maxRecDepth 100000 in
theorem Z_X12_wrong {l : Launch} {D : va_G} {ids : List Nat} {ad : Nat → Nat} {ca : Nat → ClassId} {σ : HS} {x1 : Int32} {x2 : Int32} {s0 : HS} (hid : ∀ i, i < 277 → i ∈ ids) (h : f_X12_wrong x1 x2 σ = some s0) : Kv l D ids ad ca yX12_wrong cX12_wrong 4 0 0 [.ref (ad 236), .int x1, .int x2] σ (fun σ1 => σ1 = s0) := by
  obtain ⟨R, hR⟩ : ∃ R, s0 = R := ⟨_, rfl⟩
  replace h := h.trans (congrArg some hR)
  refine Kv.of (by decide) (Nat.le_of_ble_eq_true rfl) 1 (fun Γ C Rt => ?_)
  show AW ids ad ca Γ 0 [some (.ref (ad 236)), some (.int x1), some (.int x2), none] [] σ
  unfold f_X12_wrong at h
  have j46 : ∀ (y1 : Int32) (y3 : Int32) (σ : HS), f_X12_wrong_46 y1 y3 σ = some R → AW ids ad ca Γ 46 [some (.ref (ad 236)), some (.int y1), none, some (.int y3)] [] σ := by
    intro y1 y3 σ h
    unfold f_X12_wrong_46 at h
    refine a_aload_n C dX12_wrong_46 (i := 0) rfl rfl ?_
    refine a_iload_n C dX12_wrong_47 (i := 1) rfl rfl ?_
    refine p_put C fp_RX12_200 (i := 236) kd_236 (hid 236 (by decide)) rfl rfl dX12_wrong_48 h (fun σ1 h => ?_)
    refine a_aload_n C dX12_wrong_51 (i := 0) rfl rfl ?_
    refine a_iload_n C dX12_wrong_52 (i := 3) rfl rfl ?_
    refine p_put C fp_RX12_203 (i := 236) kd_236 (hid 236 (by decide)) rfl rfl dX12_wrong_53 h (fun σ2 h => ?_)
    exact a_vret Rt dX12_wrong_56 (retv_eq (h.trans (congrArg some hR.symm)))
  refine a_aload_n C dX12_wrong_0 (i := 0) rfl rfl ?_
  refine a_get C fl_RX12_24 (i := 236) kd_236 (hid 236 (by decide)) (v := .ref (ad 240)) rfl dX12_wrong_1 ?_
  refine a_iload_n C dX12_wrong_4 (i := 2) rfl rfl ?_
  refine p_iald C (i := 240) (show rowOK 240 from ⟨kd_240, by decide⟩) hid (by rw [al_240]; rfl) dX12_wrong_5 h (fun h => ?_)
  refine p_istore_n C (fun z1 => [some (.ref (ad 236)), some (.int x1), some (.int x2), some (.int z1)]) dX12_wrong_6 (i := 3) rfl (by decide) rfl (fun _ => rfl) h (fun z1 h => ?_)
  refine a_aload_n C dX12_wrong_7 (i := 0) rfl rfl ?_
  refine a_get C fl_RX12_191 (i := 236) kd_236 (hid 236 (by decide)) (v := .int (σ.1 236 13)) rfl dX12_wrong_8 ?_
  refine p_if_gt C (X := (σ.1 236 13).toInt) rfl dX12_wrong_11 (tgt := 45) rfl h (fun h => ?_) (fun h => ?_)
  ·
    exact a_vret Rt dX12_wrong_45 (retv_eq (h.trans (congrArg some hR.symm)))
  ·
    refine a_aload_n C dX12_wrong_14 (i := 0) rfl rfl ?_
    refine a_get C fl_RX12_200 (i := 236) kd_236 (hid 236 (by decide)) (v := .int (σ.1 236 15)) rfl dX12_wrong_15 ?_
    refine p_if_eq C (X := (σ.1 236 15).toInt) rfl dX12_wrong_18 (tgt := 46) rfl h (fun h => ?_) (fun h => ?_)
    ·
      refine AW.sub (vs' := [some (.ref (ad 236)), some (.int x1), none, some (.int z1)]) (lsub_of (by simp [lsubB])) ?_
      exact j46 _ _ _ h
    ·
      refine a_iload_n C dX12_wrong_21 (i := 3) rfl rfl ?_
      refine a_aload_n C dX12_wrong_22 (i := 0) rfl rfl ?_
      refine a_get C fl_RX12_203 (i := 236) kd_236 (hid 236 (by decide)) (v := .int (σ.1 236 16)) rfl dX12_wrong_23 ?_
      refine p_ic_gt C (X := z1.toInt) (Y := (σ.1 236 16).toInt) rfl rfl dX12_wrong_26 (tgt := 45) rfl h (fun h => ?_) (fun h => ?_)
      ·
        exact a_vret Rt dX12_wrong_45 (retv_eq (h.trans (congrArg some hR.symm)))
      ·
        refine a_iload_n C dX12_wrong_29 (i := 3) rfl rfl ?_
        refine a_aload_n C dX12_wrong_30 (i := 0) rfl rfl ?_
        refine a_get C fl_RX12_203 (i := 236) kd_236 (hid 236 (by decide)) (v := .int (σ.1 236 16)) rfl dX12_wrong_31 ?_
        refine p_ic_ne C (X := z1.toInt) (Y := (σ.1 236 16).toInt) rfl rfl dX12_wrong_34 (tgt := 46) rfl h (fun h => ?_) (fun h => ?_)
        ·
          refine AW.sub (vs' := [some (.ref (ad 236)), some (.int x1), none, some (.int z1)]) (lsub_of (by simp [lsubB])) ?_
          exact j46 _ _ _ h
        ·
          refine a_iload_n C dX12_wrong_37 (i := 1) rfl rfl ?_
          refine a_aload_n C dX12_wrong_38 (i := 0) rfl rfl ?_
          refine a_get C fl_RX12_200 (i := 236) kd_236 (hid 236 (by decide)) (v := .int (σ.1 236 15)) rfl dX12_wrong_39 ?_
          refine p_ic_lt C (X := x1.toInt) (Y := (σ.1 236 15).toInt) rfl rfl dX12_wrong_42 (tgt := 46) rfl h (fun h => ?_) (fun h => ?_)
          ·
            refine AW.sub (vs' := [some (.ref (ad 236)), some (.int x1), none, some (.int z1)]) (lsub_of (by simp [lsubB])) ?_
            exact j46 _ _ _ h
          ·
            exact a_vret Rt dX12_wrong_45 (retv_eq (h.trans (congrArg some hR.symm)))
set_option maxHeartbeats 4000000 in
set_option maxRecDepth 100000 in
theorem Z_X12_goesOn {l : Launch} {D : va_G} {ids : List Nat} {ad : Nat → Nat} {ca : Nat → ClassId} {σ : HS} {s0 : HS} (hid : ∀ i, i < 277 → i ∈ ids) (h : f_X12_goesOn σ = some s0) : Kv l D ids ad ca yX12_goesOn cX12_goesOn 1 1 21 [.ref (ad 236)] σ (fun σ1 => σ1 = s0) := by
  obtain ⟨R, hR⟩ : ∃ R, s0 = R := ⟨_, rfl⟩
  replace h := h.trans (congrArg some hR)
  refine Kv.of (by decide) (Nat.le_of_ble_eq_true rfl) 0 (fun Γ C Rt => ?_)
  show AW ids ad ca Γ 0 [some (.ref (ad 236))] [] σ
  unfold f_X12_goesOn at h
  refine a_aload_n C dX12_goesOn_0 (i := 0) rfl rfl ?_
  refine a_get C fl_RX12_194 (i := 236) kd_236 (hid 236 (by decide)) (v := .int (σ.1 236 11)) rfl dX12_goesOn_1 ?_
  refine a_sipush C dX12_goesOn_4 (v := 400) rfl ?_
  refine p_ic_ne C (X := (σ.1 236 11).toInt) (Y := 400) rfl (by decide) dX12_goesOn_7 (tgt := 18) rfl h (fun h => ?_) (fun h => ?_)
  ·
    refine a_aload_n C dX12_goesOn_18 (i := 0) rfl rfl ?_
    refine a_dup C dX12_goesOn_19 rfl ?_
    refine a_get C fl_RX12_194 (i := 236) kd_236 (hid 236 (by decide)) (v := .int (σ.1 236 11)) rfl dX12_goesOn_20 ?_
    refine a_iconst C dX12_goesOn_23 (v := 1) rfl ?_
    refine a_iadd C dX12_goesOn_24 ?_
    refine p_put C fp_RX12_194 (i := 236) kd_236 (hid 236 (by decide)) rfl rfl dX12_goesOn_25 h (fun σ1 h => ?_)
    exact a_vret Rt dX12_goesOn_28 (retv_eq (h.trans (congrArg some hR.symm)))
  ·
    refine a_aload_n C dX12_goesOn_10 (i := 0) rfl rfl ?_
    refine a_iconst C dX12_goesOn_11 (v := 2) rfl ?_
    refine p_callVv C (As := [.int 2]) (i := 236) kd_236 (hid 236 (by decide)) ⟨_, _, rfl⟩ (by decide) h (fun _ e => Z_X12_fail hid e) mi_X12_fail ml_RX12_206 rfl rfl (Nat.le_of_ble_eq_true rfl) (Nat.le_of_ble_eq_true rfl) (Nat.le_of_ble_eq_true rfl) dX12_goesOn_12 (fun σ2 h => ?_)
    refine a_goto C dX12_goesOn_15 (tgt := 28) rfl ?_
    exact a_vret Rt dX12_goesOn_28 (retv_eq (h.trans (congrArg some hR.symm)))
set_option maxHeartbeats 4000000 in
set_option maxRecDepth 100000 in
theorem Z_X12_must {l : Launch} {D : va_G} {ids : List Nat} {ad : Nat → Nat} {ca : Nat → ClassId} {σ : HS} {x1 : Int32} {s0 : HS} (hid : ∀ i, i < 277 → i ∈ ids) (h : f_X12_must x1 σ = some s0) : Kv l D ids ad ca yX12_must cX12_must 2 2 41 [.ref (ad 236), .int x1] σ (fun σ1 => σ1 = s0) := by
  obtain ⟨R, hR⟩ : ∃ R, s0 = R := ⟨_, rfl⟩
  replace h := h.trans (congrArg some hR)
  refine Kv.of (by decide) (Nat.le_of_ble_eq_true rfl) 0 (fun Γ C Rt => ?_)
  show AW ids ad ca Γ 0 [some (.ref (ad 236)), some (.int x1)] [] σ
  unfold f_X12_must at h
  refine a_aload_n C dX12_must_0 (i := 0) rfl rfl ?_
  refine a_iload_n C dX12_must_1 (i := 1) rfl rfl ?_
  refine p_callVi C (As := [.int x1]) (i := 236) kd_236 (hid 236 (by decide)) ⟨_, _, rfl⟩ (by decide) h (fun _ _ e => Z_X12_is hid e) mi_X12_is ml_RX12_209 rfl rfl (Nat.le_of_ble_eq_true rfl) (Nat.le_of_ble_eq_true rfl) (Nat.le_of_ble_eq_true rfl) dX12_must_2 (fun r2 σ1 h => ?_)
  refine p_if_eq C (X := r2.toInt) rfl dX12_must_5 (tgt := 15) rfl h (fun h => ?_) (fun h => ?_)
  ·
    refine a_aload_n C dX12_must_15 (i := 0) rfl rfl ?_
    refine a_iconst C dX12_must_16 (v := 1) rfl ?_
    refine p_callVv C (As := [.int 1]) (i := 236) kd_236 (hid 236 (by decide)) ⟨_, _, rfl⟩ (by decide) h (fun _ e => Z_X12_fail hid e) mi_X12_fail ml_RX12_206 rfl rfl (Nat.le_of_ble_eq_true rfl) (Nat.le_of_ble_eq_true rfl) (Nat.le_of_ble_eq_true rfl) dX12_must_17 (fun σ3 h => ?_)
    exact a_vret Rt dX12_must_20 (retv_eq (h.trans (congrArg some hR.symm)))
  ·
    refine a_aload_n C dX12_must_8 (i := 0) rfl rfl ?_
    refine p_callVv C (As := []) (i := 236) kd_236 (hid 236 (by decide)) ⟨_, _, rfl⟩ (by decide) h (fun _ e => Z_X12_goesOn hid e) mi_X12_goesOn ml_RX12_212 rfl rfl (Nat.le_of_ble_eq_true rfl) (Nat.le_of_ble_eq_true rfl) (Nat.le_of_ble_eq_true rfl) dX12_must_9 (fun σ5 h => ?_)
    refine a_goto C dX12_must_12 (tgt := 20) rfl ?_
    exact a_vret Rt dX12_must_20 (retv_eq (h.trans (congrArg some hR.symm)))
set_option maxHeartbeats 4000000 in
set_option maxRecDepth 100000 in
theorem Z_X12_plain {l : Launch} {D : va_G} {ids : List Nat} {ad : Nat → Nat} {ca : Nat → ClassId} {σ : HS} {x1 : Int32} {s0 : HS} (hid : ∀ i, i < 277 → i ∈ ids) (h : f_X12_plain x1 σ = some s0) : Kv l D ids ad ca yX12_plain cX12_plain 3 0 0 [.ref (ad 236), .int x1] σ (fun σ1 => σ1 = s0) := by
  obtain ⟨R, hR⟩ : ∃ R, s0 = R := ⟨_, rfl⟩
  replace h := h.trans (congrArg some hR)
  refine Kv.of (by decide) (Nat.le_of_ble_eq_true rfl) 1 (fun Γ C Rt => ?_)
  show AW ids ad ca Γ 0 [some (.ref (ad 236)), some (.int x1), none] [] σ
  unfold f_X12_plain at h
  have j30 : ∀ (n : Nat) (y1 : Int32) (y2 : Int32) (σ : HS), f_X12_plain_30 n y1 y2 σ = some R → AW ids ad ca Γ 30 [some (.ref (ad 236)), some (.int y1), some (.int y2)] [] σ := by
    intro n
    induction n with
    | zero => intro y1 y2 σ h; exact nn h
    | succ n ih =>
      intro y1 y2 σ h
      have h : b_X12_plain_30 (f_X12_plain_30 n) y1 y2 σ = some R := h
      unfold b_X12_plain_30 at h
      refine a_iload_n C dX12_plain_30 (i := 2) rfl rfl ?_
      refine a_iconst C dX12_plain_31 (v := 4) rfl ?_
      refine p_ic_ge C (X := y2.toInt) (Y := 4) rfl (by decide) dX12_plain_32 (tgt := 63) rfl h (fun h => ?_) (fun h => ?_)
      ·
        exact a_vret Rt dX12_plain_63 (retv_eq (h.trans (congrArg some hR.symm)))
      ·
        refine a_aload_n C dX12_plain_35 (i := 0) rfl rfl ?_
        refine a_get C fl_RX12_70 (i := 236) kd_236 (hid 236 (by decide)) (v := .ref (ad 254)) rfl dX12_plain_36 ?_
        refine a_iconst C dX12_plain_39 (v := 4) rfl ?_
        refine a_iload_n C dX12_plain_40 (i := 1) rfl rfl ?_
        refine a_imul C dX12_plain_41 ?_
        refine a_iload_n C dX12_plain_42 (i := 2) rfl rfl ?_
        refine a_iadd C dX12_plain_43 ?_
        refine a_iconst C dX12_plain_44 (v := 0) rfl ?_
        refine p_iast C (i := 254) (show rowOK 254 from ⟨kd_254, by decide⟩) hid (by rw [al_254]; rfl) dX12_plain_45 h (fun σ1 h => ?_)
        refine a_aload_n C dX12_plain_46 (i := 0) rfl rfl ?_
        refine a_get C fl_RX12_73 (i := 236) kd_236 (hid 236 (by decide)) (v := .ref (ad 255)) rfl dX12_plain_47 ?_
        refine a_iconst C dX12_plain_50 (v := 4) rfl ?_
        refine a_iload_n C dX12_plain_51 (i := 1) rfl rfl ?_
        refine a_imul C dX12_plain_52 ?_
        refine a_iload_n C dX12_plain_53 (i := 2) rfl rfl ?_
        refine a_iadd C dX12_plain_54 ?_
        refine a_iconst C dX12_plain_55 (v := 0) rfl ?_
        refine p_iast C (i := 255) (show rowOK 255 from ⟨kd_255, by decide⟩) hid (by rw [al_255]; rfl) dX12_plain_56 h (fun σ2 h => ?_)
        refine p_iinc C (y := (y2 + 1)) (fun z3 => [some (.ref (ad 236)), some (.int y1), some (.int z3)]) dX12_plain_57 rfl rfl (by decide) rfl (fun _ => rfl) h (fun z3 h => ?_)
        refine a_goto C dX12_plain_60 (tgt := 30) rfl ?_
        exact ih _ _ _ h
  refine a_aload_n C dX12_plain_0 (i := 0) rfl rfl ?_
  refine a_get C fl_RX12_43 (i := 236) kd_236 (hid 236 (by decide)) (v := .ref (ad 245)) rfl dX12_plain_1 ?_
  refine a_iload_n C dX12_plain_4 (i := 1) rfl rfl ?_
  refine a_iconst C dX12_plain_5 (v := 0) rfl ?_
  refine p_iast C (i := 245) (show rowOK 245 from ⟨kd_245, by decide⟩) hid (by rw [al_245]; rfl) dX12_plain_6 h (fun σ1 h => ?_)
  refine a_aload_n C dX12_plain_7 (i := 0) rfl rfl ?_
  refine a_get C fl_RX12_55 (i := 236) kd_236 (hid 236 (by decide)) (v := .ref (ad 249)) rfl dX12_plain_8 ?_
  refine a_iload_n C dX12_plain_11 (i := 1) rfl rfl ?_
  refine a_iconst C dX12_plain_12 (v := 0) rfl ?_
  refine p_iast C (i := 249) (show rowOK 249 from ⟨kd_249, by decide⟩) hid (by rw [al_249]; rfl) dX12_plain_13 h (fun σ2 h => ?_)
  refine a_aload_n C dX12_plain_14 (i := 0) rfl rfl ?_
  refine a_get C fl_RX12_64 (i := 236) kd_236 (hid 236 (by decide)) (v := .ref (ad 252)) rfl dX12_plain_15 ?_
  refine a_iload_n C dX12_plain_18 (i := 1) rfl rfl ?_
  refine a_iconst C dX12_plain_19 (v := 1) rfl ?_
  refine p_iast C (i := 252) (show rowOK 252 from ⟨kd_252, by decide⟩) hid (by rw [al_252]; rfl) dX12_plain_20 h (fun σ3 h => ?_)
  refine a_aload_n C dX12_plain_21 (i := 0) rfl rfl ?_
  refine a_get C fl_RX12_67 (i := 236) kd_236 (hid 236 (by decide)) (v := .ref (ad 253)) rfl dX12_plain_22 ?_
  refine a_iload_n C dX12_plain_25 (i := 1) rfl rfl ?_
  refine a_iconst C dX12_plain_26 (v := 0) rfl ?_
  refine p_iast C (i := 253) (show rowOK 253 from ⟨kd_253, by decide⟩) hid (by rw [al_253]; rfl) dX12_plain_27 h (fun σ4 h => ?_)
  refine a_iconst C dX12_plain_28 (v := 0) rfl ?_
  refine a_istore_n C dX12_plain_29 (i := 2) rfl (by decide) rfl (vs1 := [some (.ref (ad 236)), some (.int x1), some (.int 0)]) rfl ?_
  exact j30 _ _ _ _ h
set_option maxHeartbeats 4000000 in
set_option maxRecDepth 100000 in
theorem Z_X12_begins {l : Launch} {D : va_G} {ids : List Nat} {ad : Nat → Nat} {ca : Nat → ClassId} {σ : HS} {s0 : HS} (hid : ∀ i, i < 277 → i ∈ ids) (h : f_X12_begins σ = some s0) : Kv l D ids ad ca yX12_begins cX12_begins 2 0 0 [.ref (ad 236)] σ (fun σ1 => σ1 = s0) := by
  obtain ⟨R, hR⟩ : ∃ R, s0 = R := ⟨_, rfl⟩
  replace h := h.trans (congrArg some hR)
  refine Kv.of (by decide) (Nat.le_of_ble_eq_true rfl) 1 (fun Γ C Rt => ?_)
  show AW ids ad ca Γ 0 [some (.ref (ad 236)), none] [] σ
  unfold f_X12_begins at h
  have j89 : ∀ (v0 : Int32) (v1 : Int32) (σ : HS), f_X12_begins_89 v0 v1 σ = some R → AW ids ad ca Γ 89 [some (.ref (ad 236)), none] [.int v0, .int v1, .ref (ad 267)] σ := by
    intro v0 v1 σ h
    unfold f_X12_begins_89 at h
    refine p_iast C (i := 267) (show rowOK 267 from ⟨kd_267, by decide⟩) hid (by rw [al_267]; rfl) dX12_begins_89 h (fun σ1 h => ?_)
    refine a_aload_n C dX12_begins_90 (i := 0) rfl rfl ?_
    refine a_get C fl_RX12_110 (i := 236) kd_236 (hid 236 (by decide)) (v := .ref (ad 267)) rfl dX12_begins_91 ?_
    refine a_bipush C dX12_begins_94 (v := 28) rfl ?_
    refine a_iconst C dX12_begins_96 (v := (-1)) rfl ?_
    refine p_iastc C (i := 267) 28 (show rowOK 267 from ⟨kd_267, by decide⟩) hid (by decide) (by rw [al_267]; decide) dX12_begins_97 h (fun σ2 h => ?_)
    refine a_aload_n C dX12_begins_98 (i := 0) rfl rfl ?_
    refine a_aload_n C dX12_begins_99 (i := 0) rfl rfl ?_
    refine a_get C fl_RX12_67 (i := 236) kd_236 (hid 236 (by decide)) (v := .ref (ad 253)) rfl dX12_begins_100 ?_
    refine a_aload_n C dX12_begins_103 (i := 0) rfl rfl ?_
    refine a_get C fl_RX12_221 (i := 236) kd_236 (hid 236 (by decide)) (v := .int (σ2.1 236 18)) rfl dX12_begins_104 ?_
    refine p_iald C (i := 253) (show rowOK 253 from ⟨kd_253, by decide⟩) hid (by rw [al_253]; rfl) dX12_begins_107 h (fun h => ?_)
    refine p_put C fp_RX12_305 (i := 236) kd_236 (hid 236 (by decide)) rfl rfl dX12_begins_108 h (fun σ3 h => ?_)
    refine a_aload_n C dX12_begins_111 (i := 0) rfl rfl ?_
    refine a_iconst C dX12_begins_112 (v := 0) rfl ?_
    refine p_put C fp_RX12_308 (i := 236) kd_236 (hid 236 (by decide)) (nar_z (by decide)).1 (nar_z (by decide)).2 dX12_begins_113 h (fun σ4 h => ?_)
    exact a_vret Rt dX12_begins_116 (retv_eq (h.trans (congrArg some hR.symm)))
  have j23 : ∀ (n : Nat) (y1 : Int32) (σ : HS), f_X12_begins_23 n y1 σ = some R → AW ids ad ca Γ 23 [some (.ref (ad 236)), some (.int y1)] [] σ := by
    intro n
    induction n with
    | zero => intro y1 σ h; exact nn h
    | succ n ih =>
      intro y1 σ h
      have h : b_X12_begins_23 (f_X12_begins_23 n) y1 σ = some R := h
      unfold b_X12_begins_23 at h
      refine a_iload_n C dX12_begins_23 (i := 1) rfl rfl ?_
      refine a_aload_n C dX12_begins_24 (i := 0) rfl rfl ?_
      refine a_get C fl_RX12_43 (i := 236) kd_236 (hid 236 (by decide)) (v := .ref (ad 245)) rfl dX12_begins_25 ?_
      refine a_aload_n C dX12_begins_28 (i := 0) rfl rfl ?_
      refine a_get C fl_RX12_221 (i := 236) kd_236 (hid 236 (by decide)) (v := .int (σ.1 236 18)) rfl dX12_begins_29 ?_
      refine p_iald C (i := 245) (show rowOK 245 from ⟨kd_245, by decide⟩) hid (by rw [al_245]; rfl) dX12_begins_32 h (fun h => ?_)
      refine p_ic_ge C (X := y1.toInt) (Y := (σ.1 245 (σ.1 236 18).toInt.toNat).toInt) rfl rfl dX12_begins_33 (tgt := 65) rfl h (fun h => ?_) (fun h => ?_)
      ·
        refine a_aload_n C dX12_begins_65 (i := 0) rfl rfl ?_
        refine a_get C fl_RX12_110 (i := 236) kd_236 (hid 236 (by decide)) (v := .ref (ad 267)) rfl dX12_begins_66 ?_
        refine a_bipush C dX12_begins_69 (v := 26) rfl ?_
        refine a_aload_n C dX12_begins_71 (i := 0) rfl rfl ?_
        refine a_get C fl_RX12_55 (i := 236) kd_236 (hid 236 (by decide)) (v := .ref (ad 249)) rfl dX12_begins_72 ?_
        refine a_aload_n C dX12_begins_75 (i := 0) rfl rfl ?_
        refine a_get C fl_RX12_221 (i := 236) kd_236 (hid 236 (by decide)) (v := .int (σ.1 236 18)) rfl dX12_begins_76 ?_
        refine p_iald C (i := 249) (show rowOK 249 from ⟨kd_249, by decide⟩) hid (by rw [al_249]; rfl) dX12_begins_79 h (fun h => ?_)
        refine p_if_le C (X := (σ.1 249 (σ.1 236 18).toInt.toNat).toInt) rfl dX12_begins_80 (tgt := 87) rfl h (fun h => ?_) (fun h => ?_)
        ·
          refine a_bipush C dX12_begins_87 (v := (-2)) rfl ?_
          refine AW.sub (vs' := [some (.ref (ad 236)), none]) (lsub_of (by simp [lsubB])) ?_
          exact j89 _ _ _ h
        ·
          refine a_iconst C dX12_begins_83 (v := 0) rfl ?_
          refine a_goto C dX12_begins_84 (tgt := 89) rfl ?_
          refine AW.sub (vs' := [some (.ref (ad 236)), none]) (lsub_of (by simp [lsubB])) ?_
          exact j89 _ _ _ h
      ·
        refine a_aload_n C dX12_begins_36 (i := 0) rfl rfl ?_
        refine a_get C fl_RX12_110 (i := 236) kd_236 (hid 236 (by decide)) (v := .ref (ad 267)) rfl dX12_begins_37 ?_
        refine a_bipush C dX12_begins_40 (v := 7) rfl ?_
        refine a_iload_n C dX12_begins_42 (i := 1) rfl rfl ?_
        refine a_iadd C dX12_begins_43 ?_
        refine a_aload_n C dX12_begins_44 (i := 0) rfl rfl ?_
        refine a_get C fl_RX12_52 (i := 236) kd_236 (hid 236 (by decide)) (v := .ref (ad 248)) rfl dX12_begins_45 ?_
        refine a_bipush C dX12_begins_48 (v := 7) rfl ?_
        refine a_aload_n C dX12_begins_50 (i := 0) rfl rfl ?_
        refine a_get C fl_RX12_221 (i := 236) kd_236 (hid 236 (by decide)) (v := .int (σ.1 236 18)) rfl dX12_begins_51 ?_
        refine a_imul C dX12_begins_54 ?_
        refine a_iload_n C dX12_begins_55 (i := 1) rfl rfl ?_
        refine a_iadd C dX12_begins_56 ?_
        refine p_iald C (i := 248) (show rowOK 248 from ⟨kd_248, by decide⟩) hid (by rw [al_248]; rfl) dX12_begins_57 h (fun h => ?_)
        refine p_iast C (i := 267) (show rowOK 267 from ⟨kd_267, by decide⟩) hid (by rw [al_267]; rfl) dX12_begins_58 h (fun σ1 h => ?_)
        refine p_iinc C (y := (y1 + 1)) (fun z2 => [some (.ref (ad 236)), some (.int z2)]) dX12_begins_59 rfl rfl (by decide) rfl (fun _ => rfl) h (fun z2 h => ?_)
        refine a_goto C dX12_begins_62 (tgt := 23) rfl ?_
        exact ih _ _ h
  have j2 : ∀ (n : Nat) (y1 : Int32) (σ : HS), f_X12_begins_2 n y1 σ = some R → AW ids ad ca Γ 2 [some (.ref (ad 236)), some (.int y1)] [] σ := by
    intro n
    induction n with
    | zero => intro y1 σ h; exact nn h
    | succ n ih =>
      intro y1 σ h
      have h : b_X12_begins_2 (f_X12_begins_2 n) y1 σ = some R := h
      unfold b_X12_begins_2 at h
      refine a_iload_n C dX12_begins_2 (i := 1) rfl rfl ?_
      refine a_bipush C dX12_begins_3 (v := 29) rfl ?_
      refine p_ic_ge C (X := y1.toInt) (Y := 29) rfl (by decide) dX12_begins_5 (tgt := 21) rfl h (fun h => ?_) (fun h => ?_)
      ·
        refine a_iconst C dX12_begins_21 (v := 0) rfl ?_
        refine a_istore_n C dX12_begins_22 (i := 1) rfl (by decide) rfl (vs1 := [some (.ref (ad 236)), some (.int 0)]) rfl ?_
        exact j23 _ _ _ h
      ·
        refine a_aload_n C dX12_begins_8 (i := 0) rfl rfl ?_
        refine a_get C fl_RX12_110 (i := 236) kd_236 (hid 236 (by decide)) (v := .ref (ad 267)) rfl dX12_begins_9 ?_
        refine a_iload_n C dX12_begins_12 (i := 1) rfl rfl ?_
        refine a_iconst C dX12_begins_13 (v := 0) rfl ?_
        refine p_iast C (i := 267) (show rowOK 267 from ⟨kd_267, by decide⟩) hid (by rw [al_267]; rfl) dX12_begins_14 h (fun σ1 h => ?_)
        refine p_iinc C (y := (y1 + 1)) (fun z2 => [some (.ref (ad 236)), some (.int z2)]) dX12_begins_15 rfl rfl (by decide) rfl (fun _ => rfl) h (fun z2 h => ?_)
        refine a_goto C dX12_begins_18 (tgt := 2) rfl ?_
        exact ih _ _ h
  refine a_iconst C dX12_begins_0 (v := 0) rfl ?_
  refine a_istore_n C dX12_begins_1 (i := 1) rfl (by decide) rfl (vs1 := [some (.ref (ad 236)), some (.int 0)]) rfl ?_
  exact j2 _ _ _ h
set_option maxHeartbeats 4000000 in
set_option maxRecDepth 100000 in
theorem Z_X12_keepsRow {l : Launch} {D : va_G} {ids : List Nat} {ad : Nat → Nat} {ca : Nat → ClassId} {σ : HS} {s0 : HS} (hid : ∀ i, i < 277 → i ∈ ids) (h : f_X12_keepsRow σ = some s0) : Kv l D ids ad ca yX12_keepsRow cX12_keepsRow 2 0 0 [.ref (ad 236)] σ (fun σ1 => σ1 = s0) := by
  obtain ⟨R, hR⟩ : ∃ R, s0 = R := ⟨_, rfl⟩
  replace h := h.trans (congrArg some hR)
  refine Kv.of (by decide) (Nat.le_of_ble_eq_true rfl) 1 (fun Γ C Rt => ?_)
  show AW ids ad ca Γ 0 [some (.ref (ad 236)), none] [] σ
  unfold f_X12_keepsRow at h
  have j2 : ∀ (n : Nat) (y1 : Int32) (σ : HS), f_X12_keepsRow_2 n y1 σ = some R → AW ids ad ca Γ 2 [some (.ref (ad 236)), some (.int y1)] [] σ := by
    intro n
    induction n with
    | zero => intro y1 σ h; exact nn h
    | succ n ih =>
      intro y1 σ h
      have h : b_X12_keepsRow_2 (f_X12_keepsRow_2 n) y1 σ = some R := h
      unfold b_X12_keepsRow_2 at h
      refine a_iload_n C dX12_keepsRow_2 (i := 1) rfl rfl ?_
      refine a_bipush C dX12_keepsRow_3 (v := 29) rfl ?_
      refine p_ic_ge C (X := y1.toInt) (Y := 29) rfl (by decide) dX12_keepsRow_5 (tgt := 26) rfl h (fun h => ?_) (fun h => ?_)
      ·
        exact a_vret Rt dX12_keepsRow_26 (retv_eq (h.trans (congrArg some hR.symm)))
      ·
        refine a_aload_n C dX12_keepsRow_8 (i := 0) rfl rfl ?_
        refine a_get C fl_RX12_107 (i := 236) kd_236 (hid 236 (by decide)) (v := .ref (ad 266)) rfl dX12_keepsRow_9 ?_
        refine a_iload_n C dX12_keepsRow_12 (i := 1) rfl rfl ?_
        refine a_aload_n C dX12_keepsRow_13 (i := 0) rfl rfl ?_
        refine a_get C fl_RX12_110 (i := 236) kd_236 (hid 236 (by decide)) (v := .ref (ad 267)) rfl dX12_keepsRow_14 ?_
        refine a_iload_n C dX12_keepsRow_17 (i := 1) rfl rfl ?_
        refine p_iald C (i := 267) (show rowOK 267 from ⟨kd_267, by decide⟩) hid (by rw [al_267]; rfl) dX12_keepsRow_18 h (fun h => ?_)
        refine p_iast C (i := 266) (show rowOK 266 from ⟨kd_266, by decide⟩) hid (by rw [al_266]; rfl) dX12_keepsRow_19 h (fun σ1 h => ?_)
        refine p_iinc C (y := (y1 + 1)) (fun z2 => [some (.ref (ad 236)), some (.int z2)]) dX12_keepsRow_20 rfl rfl (by decide) rfl (fun _ => rfl) h (fun z2 h => ?_)
        refine a_goto C dX12_keepsRow_23 (tgt := 2) rfl ?_
        exact ih _ _ h
  refine a_iconst C dX12_keepsRow_0 (v := 0) rfl ?_
  refine a_istore_n C dX12_keepsRow_1 (i := 1) rfl (by decide) rfl (vs1 := [some (.ref (ad 236)), some (.int 0)]) rfl ?_
  exact j2 _ _ _ h
set_option maxHeartbeats 4000000 in
set_option maxRecDepth 100000 in
theorem Z_X12_roomFor {l : Launch} {D : va_G} {ids : List Nat} {ad : Nat → Nat} {ca : Nat → ClassId} {σ : HS} {x1 : Int32} {x2 : Int32} {s0 : HS} (hid : ∀ i, i < 277 → i ∈ ids) (h : f_X12_roomFor x1 x2 σ = some s0) : Kv l D ids ad ca yX12_roomFor cX12_roomFor 3 2 41 [.ref (ad 236), .int x1, .int x2] σ (fun σ1 => σ1 = s0) := by
  obtain ⟨R, hR⟩ : ∃ R, s0 = R := ⟨_, rfl⟩
  replace h := h.trans (congrArg some hR)
  refine Kv.of (by decide) (Nat.le_of_ble_eq_true rfl) 0 (fun Γ C Rt => ?_)
  show AW ids ad ca Γ 0 [some (.ref (ad 236)), some (.int x1), some (.int x2)] [] σ
  unfold f_X12_roomFor at h
  have j10 : ∀ (σ : HS), f_X12_roomFor_10 σ = some R → AW ids ad ca Γ 10 [some (.ref (ad 236)), none, none] [] σ := by
    intro σ h
    unfold f_X12_roomFor_10 at h
    refine a_aload_n C dX12_roomFor_10 (i := 0) rfl rfl ?_
    refine a_get C fl_RX12_191 (i := 236) kd_236 (hid 236 (by decide)) (v := .int (σ.1 236 13)) rfl dX12_roomFor_11 ?_
    refine p_if_ne C (X := (σ.1 236 13).toInt) rfl dX12_roomFor_14 (tgt := 21) rfl h (fun h => ?_) (fun h => ?_)
    ·
      exact a_vret Rt dX12_roomFor_21 (retv_eq (h.trans (congrArg some hR.symm)))
    ·
      refine a_aload_n C dX12_roomFor_17 (i := 0) rfl rfl ?_
      refine p_callVv C (As := []) (i := 236) kd_236 (hid 236 (by decide)) ⟨_, _, rfl⟩ (by decide) h (fun _ e => Z_X12_goesOn hid e) mi_X12_goesOn ml_RX12_212 rfl rfl (Nat.le_of_ble_eq_true rfl) (Nat.le_of_ble_eq_true rfl) (Nat.le_of_ble_eq_true rfl) dX12_roomFor_18 (fun σ1 h => ?_)
      exact a_vret Rt dX12_roomFor_21 (retv_eq (h.trans (congrArg some hR.symm)))
  refine a_iload_n C dX12_roomFor_0 (i := 1) rfl rfl ?_
  refine a_iload_n C dX12_roomFor_1 (i := 2) rfl rfl ?_
  refine p_ic_ne C (X := x1.toInt) (Y := x2.toInt) rfl rfl dX12_roomFor_2 (tgt := 10) rfl h (fun h => ?_) (fun h => ?_)
  ·
    refine AW.sub (vs' := [some (.ref (ad 236)), none, none]) (lsub_of (by simp [lsubB])) ?_
    exact j10 _ h
  ·
    refine a_aload_n C dX12_roomFor_5 (i := 0) rfl rfl ?_
    refine a_iconst C dX12_roomFor_6 (v := 2) rfl ?_
    refine p_callVv C (As := [.int 2]) (i := 236) kd_236 (hid 236 (by decide)) ⟨_, _, rfl⟩ (by decide) h (fun _ e => Z_X12_fail hid e) mi_X12_fail ml_RX12_206 rfl rfl (Nat.le_of_ble_eq_true rfl) (Nat.le_of_ble_eq_true rfl) (Nat.le_of_ble_eq_true rfl) dX12_roomFor_7 (fun σ1 h => ?_)
    refine AW.sub (vs' := [some (.ref (ad 236)), none, none]) (lsub_of (by simp [lsubB])) ?_
    exact j10 _ h
set_option maxHeartbeats 4000000 in
set_option maxRecDepth 100000 in
theorem Z_X12_named {l : Launch} {D : va_G} {ids : List Nat} {ad : Nat → Nat} {ca : Nat → ClassId} {σ : HS} {r0 : Int32} {s0 : HS} (hid : ∀ i, i < 277 → i ∈ ids) (h : f_X12_named σ = some (r0, s0)) : Ki l D ids ad ca yX12_named cX12_named 3 .int 3 62 [.ref (ad 236)] σ (fun r σ1 => r = r0 ∧ σ1 = s0) := by
  obtain ⟨R, hR⟩ : ∃ R, (r0, s0) = R := ⟨_, rfl⟩
  replace h := h.trans (congrArg some hR)
  refine Ki.of (by decide) (Nat.le_of_ble_eq_true rfl) 2 (fun Γ C Rt => ?_)
  show AW ids ad ca Γ 0 [some (.ref (ad 236)), none, none] [] σ
  unfold f_X12_named at h
  have j49 : ∀ (k12 : Int32 → Int32 → HS → Option (Int32 × HS)) (hk12 : ∀ (y1 : Int32) (y2 : Int32) (σ : HS), k12 y1 y2 σ = some R → AW ids ad ca Γ 12 [some (.ref (ad 236)), some (.int y1), some (.int y2)] [] σ) (y1 : Int32) (y2 : Int32) (σ : HS), f_X12_named_49 k12 y1 y2 σ = some R → AW ids ad ca Γ 49 [some (.ref (ad 236)), some (.int y1), some (.int y2)] [] σ := by
    intro k12 hk12 y1 y2 σ h
    unfold f_X12_named_49 at h
    refine p_iinc C (y := (y2 + 1)) (fun z1 => [some (.ref (ad 236)), some (.int y1), some (.int z1)]) dX12_named_49 rfl rfl (by decide) rfl (fun _ => rfl) h (fun z1 h => ?_)
    refine a_goto C dX12_named_52 (tgt := 12) rfl ?_
    exact hk12 _ _ _ h
  have j12 : ∀ (n : Nat) (y1 : Int32) (y2 : Int32) (σ : HS), f_X12_named_12 n y1 y2 σ = some R → AW ids ad ca Γ 12 [some (.ref (ad 236)), some (.int y1), some (.int y2)] [] σ := by
    intro n
    induction n with
    | zero => intro y1 y2 σ h; exact nn h
    | succ n ih =>
      intro y1 y2 σ h
      have h : b_X12_named_12 (f_X12_named_12 n) y1 y2 σ = some R := h
      unfold b_X12_named_12 at h
      refine a_iload_n C dX12_named_12 (i := 2) rfl rfl ?_
      refine a_aload_n C dX12_named_13 (i := 0) rfl rfl ?_
      refine a_get C fl_RX12_227 (i := 236) kd_236 (hid 236 (by decide)) (v := .int (σ.1 236 20)) rfl dX12_named_14 ?_
      refine p_ic_ge C (X := y2.toInt) (Y := (σ.1 236 20).toInt) rfl rfl dX12_named_17 (tgt := 55) rfl h (fun h => ?_) (fun h => ?_)
      ·
        refine a_iload_n C dX12_named_55 (i := 1) rfl rfl ?_
        exact a_iret Rt dX12_named_56 rfl (ret_eq (h.trans (congrArg some hR.symm)))
      ·
        refine a_aload_n C dX12_named_20 (i := 0) rfl rfl ?_
        refine a_get C fl_RX12_191 (i := 236) kd_236 (hid 236 (by decide)) (v := .int (σ.1 236 13)) rfl dX12_named_21 ?_
        refine p_if_ne C (X := (σ.1 236 13).toInt) rfl dX12_named_24 (tgt := 55) rfl h (fun h => ?_) (fun h => ?_)
        ·
          refine a_iload_n C dX12_named_55 (i := 1) rfl rfl ?_
          exact a_iret Rt dX12_named_56 rfl (ret_eq (h.trans (congrArg some hR.symm)))
        ·
          refine a_aload_n C dX12_named_27 (i := 0) rfl rfl ?_
          refine a_get C fl_RX12_40 (i := 236) kd_236 (hid 236 (by decide)) (v := .ref (ad 244)) rfl dX12_named_28 ?_
          refine a_iload_n C dX12_named_31 (i := 2) rfl rfl ?_
          refine p_lald C (i := 244) kd_244 (hid 244 (by decide)) (by rw [al_244]; rfl) dX12_named_32 h (fun h => ?_)
          refine a_aload_n C dX12_named_33 (i := 0) rfl rfl ?_
          refine a_get C fl_RX12_30 (i := 236) kd_236 (hid 236 (by decide)) (v := .ref (ad 242)) rfl dX12_named_34 ?_
          refine a_iload_n C dX12_named_37 (i := 1) rfl rfl ?_
          refine p_lald C (i := 242) kd_242 (hid 242 (by decide)) (by rw [al_242]; rfl) dX12_named_38 h (fun h => ?_)
          refine a_lcmp C dX12_named_39 ?_
          refine p_if_ne C (X := (lg_cmp (σ.2.1 244 y2.toInt.toNat) (σ.2.1 242 y1.toInt.toNat)).toInt) rfl dX12_named_40 (tgt := 49) rfl h (fun h => ?_) (fun h => ?_)
          ·
            exact j49 (f_X12_named_12 n) (fun y1 y2 σ h => ih y1 y2 σ h) _ _ _ h
          ·
            refine a_aload_n C dX12_named_43 (i := 0) rfl rfl ?_
            refine a_iconst C dX12_named_44 (v := 3) rfl ?_
            refine a_iload_n C dX12_named_45 (i := 1) rfl rfl ?_
            refine p_callVv C (As := [.int 3, .int y1]) (i := 236) kd_236 (hid 236 (by decide)) ⟨_, _, rfl⟩ (by decide) h (fun _ e => Z_X12_wrong hid e) mi_X12_wrong ml_RX12_268 rfl rfl (Nat.le_of_ble_eq_true rfl) (Nat.le_of_ble_eq_true rfl) (Nat.le_of_ble_eq_true rfl) dX12_named_46 (fun σ1 h => ?_)
            exact j49 (f_X12_named_12 n) (fun y1 y2 σ h => ih y1 y2 σ h) _ _ _ h
  refine a_aload_n C dX12_named_0 (i := 0) rfl rfl ?_
  refine a_get C fl_RX12_194 (i := 236) kd_236 (hid 236 (by decide)) (v := .int (σ.1 236 11)) rfl dX12_named_1 ?_
  refine p_istore_n C (fun z1 => [some (.ref (ad 236)), some (.int z1), none]) dX12_named_4 (i := 1) rfl (by decide) rfl (fun _ => rfl) h (fun z1 h => ?_)
  refine a_aload_n C dX12_named_5 (i := 0) rfl rfl ?_
  refine a_iconst C dX12_named_6 (v := 1) rfl ?_
  refine p_callVv C (As := [.int 1]) (i := 236) kd_236 (hid 236 (by decide)) ⟨_, _, rfl⟩ (by decide) h (fun _ e => Z_X12_must hid e) mi_X12_must ml_RX12_249 rfl rfl (Nat.le_of_ble_eq_true rfl) (Nat.le_of_ble_eq_true rfl) (Nat.le_of_ble_eq_true rfl) dX12_named_7 (fun σ2 h => ?_)
  refine a_iconst C dX12_named_10 (v := 0) rfl ?_
  refine a_istore_n C dX12_named_11 (i := 2) rfl (by decide) rfl (vs1 := [some (.ref (ad 236)), some (.int z1), some (.int 0)]) rfl ?_
  exact j12 _ _ _ _ h
set_option maxHeartbeats 4000000 in
set_option maxRecDepth 100000 in
theorem Z_X12_bounded {l : Launch} {D : va_G} {ids : List Nat} {ad : Nat → Nat} {ca : Nat → ClassId} {σ : HS} {x1 : Int32} {x2 : Int32} {r0 : Int32} {s0 : HS} (hid : ∀ i, i < 277 → i ∈ ids) (h : f_X12_bounded x1 x2 σ = some (r0, s0)) : Ki l D ids ad ca yX12_bounded cX12_bounded 4 .int 2 41 [.ref (ad 236), .int x1, .int x2] σ (fun r σ1 => r = r0 ∧ σ1 = s0) := by
  obtain ⟨R, hR⟩ : ∃ R, (r0, s0) = R := ⟨_, rfl⟩
  replace h := h.trans (congrArg some hR)
  refine Ki.of (by decide) (Nat.le_of_ble_eq_true rfl) 1 (fun Γ C Rt => ?_)
  show AW ids ad ca Γ 0 [some (.ref (ad 236)), some (.int x1), some (.int x2), none] [] σ
  unfold f_X12_bounded at h
  have j15 : ∀ (y1 : Int32) (σ : HS), f_X12_bounded_15 y1 σ = some R → AW ids ad ca Γ 15 [some (.ref (ad 236)), some (.int y1), none, none] [] σ := by
    intro y1 σ h
    unfold f_X12_bounded_15 at h
    refine a_aload_n C dX12_bounded_15 (i := 0) rfl rfl ?_
    refine a_iconst C dX12_bounded_16 (v := 1) rfl ?_
    refine p_callVv C (As := [.int 1]) (i := 236) kd_236 (hid 236 (by decide)) ⟨_, _, rfl⟩ (by decide) h (fun _ e => Z_X12_fail hid e) mi_X12_fail ml_RX12_206 rfl rfl (Nat.le_of_ble_eq_true rfl) (Nat.le_of_ble_eq_true rfl) (Nat.le_of_ble_eq_true rfl) dX12_bounded_17 (fun σ1 h => ?_)
    refine a_iload_n C dX12_bounded_20 (i := 1) rfl rfl ?_
    exact a_iret Rt dX12_bounded_21 rfl (ret_eq (h.trans (congrArg some hR.symm)))
  have j51 : ∀ (y3 : Int32) (σ : HS), f_X12_bounded_51 y3 σ = some R → AW ids ad ca Γ 51 [some (.ref (ad 236)), none, none, some (.int y3)] [] σ := by
    intro y3 σ h
    unfold f_X12_bounded_51 at h
    refine a_aload_n C dX12_bounded_51 (i := 0) rfl rfl ?_
    refine p_callVv C (As := []) (i := 236) kd_236 (hid 236 (by decide)) ⟨_, _, rfl⟩ (by decide) h (fun _ e => Z_X12_goesOn hid e) mi_X12_goesOn ml_RX12_212 rfl rfl (Nat.le_of_ble_eq_true rfl) (Nat.le_of_ble_eq_true rfl) (Nat.le_of_ble_eq_true rfl) dX12_bounded_52 (fun σ1 h => ?_)
    refine a_iload_n C dX12_bounded_55 (i := 3) rfl rfl ?_
    exact a_iret Rt dX12_bounded_56 rfl (ret_eq (h.trans (congrArg some hR.symm)))
  have j42 : ∀ (y3 : Int32) (σ : HS), f_X12_bounded_42 y3 σ = some R → AW ids ad ca Γ 42 [some (.ref (ad 236)), none, none, some (.int y3)] [] σ := by
    intro y3 σ h
    unfold f_X12_bounded_42 at h
    refine a_aload_n C dX12_bounded_42 (i := 0) rfl rfl ?_
    refine a_iconst C dX12_bounded_43 (v := 5) rfl ?_
    refine a_aload_n C dX12_bounded_44 (i := 0) rfl rfl ?_
    refine a_get C fl_RX12_194 (i := 236) kd_236 (hid 236 (by decide)) (v := .int (σ.1 236 11)) rfl dX12_bounded_45 ?_
    refine p_callVv C (As := [.int 5, .int (σ.1 236 11)]) (i := 236) kd_236 (hid 236 (by decide)) ⟨_, _, rfl⟩ (by decide) h (fun _ e => Z_X12_wrong hid e) mi_X12_wrong ml_RX12_268 rfl rfl (Nat.le_of_ble_eq_true rfl) (Nat.le_of_ble_eq_true rfl) (Nat.le_of_ble_eq_true rfl) dX12_bounded_48 (fun σ1 h => ?_)
    exact j51 _ _ h
  refine a_aload_n C dX12_bounded_0 (i := 0) rfl rfl ?_
  refine a_get C fl_RX12_191 (i := 236) kd_236 (hid 236 (by decide)) (v := .int (σ.1 236 13)) rfl dX12_bounded_1 ?_
  refine p_if_gt C (X := (σ.1 236 13).toInt) rfl dX12_bounded_4 (tgt := 15) rfl h (fun h => ?_) (fun h => ?_)
  ·
    refine AW.sub (vs' := [some (.ref (ad 236)), some (.int x1), none, none]) (lsub_of (by simp [lsubB])) ?_
    exact j15 _ _ h
  ·
    refine a_aload_n C dX12_bounded_7 (i := 0) rfl rfl ?_
    refine a_iconst C dX12_bounded_8 (v := 2) rfl ?_
    refine p_callVi C (As := [.int 2]) (i := 236) kd_236 (hid 236 (by decide)) ⟨_, _, rfl⟩ (by decide) h (fun _ _ e => Z_X12_is hid e) mi_X12_is ml_RX12_209 rfl rfl (Nat.le_of_ble_eq_true rfl) (Nat.le_of_ble_eq_true rfl) (Nat.le_of_ble_eq_true rfl) dX12_bounded_9 (fun r2 σ1 h => ?_)
    refine p_if_ne C (X := r2.toInt) rfl dX12_bounded_12 (tgt := 22) rfl h (fun h => ?_) (fun h => ?_)
    ·
      refine a_aload_n C dX12_bounded_22 (i := 0) rfl rfl ?_
      refine a_get C fl_RX12_27 (i := 236) kd_236 (hid 236 (by decide)) (v := .ref (ad 241)) rfl dX12_bounded_23 ?_
      refine a_aload_n C dX12_bounded_26 (i := 0) rfl rfl ?_
      refine a_get C fl_RX12_194 (i := 236) kd_236 (hid 236 (by decide)) (v := .int (σ1.1 236 11)) rfl dX12_bounded_27 ?_
      refine p_iald C (i := 241) (show rowOK 241 from ⟨kd_241, by decide⟩) hid (by rw [al_241]; rfl) dX12_bounded_30 h (fun h => ?_)
      refine p_istore_n C (fun z3 => [some (.ref (ad 236)), some (.int x1), some (.int x2), some (.int z3)]) dX12_bounded_31 (i := 3) rfl (by decide) rfl (fun _ => rfl) h (fun z3 h => ?_)
      refine a_iload_n C dX12_bounded_32 (i := 3) rfl rfl ?_
      refine a_iload_n C dX12_bounded_33 (i := 1) rfl rfl ?_
      refine p_ic_lt C (X := z3.toInt) (Y := x1.toInt) rfl rfl dX12_bounded_34 (tgt := 42) rfl h (fun h => ?_) (fun h => ?_)
      ·
        refine AW.sub (vs' := [some (.ref (ad 236)), none, none, some (.int z3)]) (lsub_of (by simp [lsubB])) ?_
        exact j42 _ _ h
      ·
        refine a_iload_n C dX12_bounded_37 (i := 3) rfl rfl ?_
        refine a_iload_n C dX12_bounded_38 (i := 2) rfl rfl ?_
        refine p_ic_le C (X := z3.toInt) (Y := x2.toInt) rfl rfl dX12_bounded_39 (tgt := 51) rfl h (fun h => ?_) (fun h => ?_)
        ·
          refine AW.sub (vs' := [some (.ref (ad 236)), none, none, some (.int z3)]) (lsub_of (by simp [lsubB])) ?_
          exact j51 _ _ h
        ·
          refine AW.sub (vs' := [some (.ref (ad 236)), none, none, some (.int z3)]) (lsub_of (by simp [lsubB])) ?_
          exact j42 _ _ h
    ·
      refine AW.sub (vs' := [some (.ref (ad 236)), some (.int x1), none, none]) (lsub_of (by simp [lsubB])) ?_
      exact j15 _ _ h
set_option maxHeartbeats 4000000 in
set_option maxRecDepth 100000 in
theorem Z_X12_ends {l : Launch} {D : va_G} {ids : List Nat} {ad : Nat → Nat} {ca : Nat → ClassId} {σ : HS} {x1 : Int32} {s0 : HS} (hid : ∀ i, i < 277 → i ∈ ids) (h : f_X12_ends x1 σ = some s0) : Kv l D ids ad ca yX12_ends cX12_ends 2 3 62 [.ref (ad 236), .int x1] σ (fun σ1 => σ1 = s0) := by
  obtain ⟨R, hR⟩ : ∃ R, s0 = R := ⟨_, rfl⟩
  replace h := h.trans (congrArg some hR)
  refine Kv.of (by decide) (Nat.le_of_ble_eq_true rfl) 0 (fun Γ C Rt => ?_)
  show AW ids ad ca Γ 0 [some (.ref (ad 236)), some (.int x1)] [] σ
  unfold f_X12_ends at h
  refine a_aload_n C dX12_ends_0 (i := 0) rfl rfl ?_
  refine a_iconst C dX12_ends_1 (v := 4) rfl ?_
  refine p_callVv C (As := [.int 4]) (i := 236) kd_236 (hid 236 (by decide)) ⟨_, _, rfl⟩ (by decide) h (fun _ e => Z_X12_must hid e) mi_X12_must ml_RX12_249 rfl rfl (Nat.le_of_ble_eq_true rfl) (Nat.le_of_ble_eq_true rfl) (Nat.le_of_ble_eq_true rfl) dX12_ends_2 (fun σ1 h => ?_)
  refine a_aload_n C dX12_ends_5 (i := 0) rfl rfl ?_
  refine a_get C fl_RX12_191 (i := 236) kd_236 (hid 236 (by decide)) (v := .int (σ1.1 236 13)) rfl dX12_ends_6 ?_
  refine p_if_le C (X := (σ1.1 236 13).toInt) rfl dX12_ends_9 (tgt := 13) rfl h (fun h => ?_) (fun h => ?_)
  ·
    refine a_aload_n C dX12_ends_13 (i := 0) rfl rfl ?_
    refine a_get C fl_RX12_40 (i := 236) kd_236 (hid 236 (by decide)) (v := .ref (ad 244)) rfl dX12_ends_14 ?_
    refine a_aload_n C dX12_ends_17 (i := 0) rfl rfl ?_
    refine a_get C fl_RX12_227 (i := 236) kd_236 (hid 236 (by decide)) (v := .int (σ1.1 236 20)) rfl dX12_ends_18 ?_
    refine a_aload_n C dX12_ends_21 (i := 0) rfl rfl ?_
    refine a_get C fl_RX12_30 (i := 236) kd_236 (hid 236 (by decide)) (v := .ref (ad 242)) rfl dX12_ends_22 ?_
    refine a_iload_n C dX12_ends_25 (i := 1) rfl rfl ?_
    refine p_lald C (i := 242) kd_242 (hid 242 (by decide)) (by rw [al_242]; rfl) dX12_ends_26 h (fun h => ?_)
    refine p_last C (i := 244) kd_244 (hid 244 (by decide)) (by rw [al_244]; rfl) dX12_ends_27 h (fun σ3 h => ?_)
    refine a_aload_n C dX12_ends_28 (i := 0) rfl rfl ?_
    refine a_dup C dX12_ends_29 rfl ?_
    refine a_get C fl_RX12_227 (i := 236) kd_236 (hid 236 (by decide)) (v := .int (σ3.1 236 20)) rfl dX12_ends_30 ?_
    refine a_iconst C dX12_ends_33 (v := 1) rfl ?_
    refine a_iadd C dX12_ends_34 ?_
    refine p_put C fp_RX12_227 (i := 236) kd_236 (hid 236 (by decide)) rfl rfl dX12_ends_35 h (fun σ4 h => ?_)
    exact a_vret Rt dX12_ends_38 (retv_eq (h.trans (congrArg some hR.symm)))
  ·
    exact a_vret Rt dX12_ends_12 (retv_eq (h.trans (congrArg some hR.symm)))
set_option maxHeartbeats 4000000 in
set_option maxRecDepth 100000 in
theorem Z_X12_tellThing {l : Launch} {D : va_G} {ids : List Nat} {ad : Nat → Nat} {ca : Nat → ClassId} {σ : HS} {s0 : HS} (hid : ∀ i, i < 277 → i ∈ ids) (h : f_X12_tellThing σ = some s0) : Kv l D ids ad ca yX12_tellThing cX12_tellThing 3 4 84 [.ref (ad 236)] σ (fun σ1 => σ1 = s0) := by
  obtain ⟨R, hR⟩ : ∃ R, s0 = R := ⟨_, rfl⟩
  replace h := h.trans (congrArg some hR)
  refine Kv.of (by decide) (Nat.le_of_ble_eq_true rfl) 2 (fun Γ C Rt => ?_)
  show AW ids ad ca Γ 0 [some (.ref (ad 236)), none, none] [] σ
  unfold f_X12_tellThing at h
  refine a_bipush C dX12_tellThing_0 (v := 7) rfl ?_
  refine a_aload_n C dX12_tellThing_2 (i := 0) rfl rfl ?_
  refine a_get C fl_RX12_224 (i := 236) kd_236 (hid 236 (by decide)) (v := .int (σ.1 236 19)) rfl dX12_tellThing_3 ?_
  refine a_imul C dX12_tellThing_6 ?_
  refine a_aload_n C dX12_tellThing_7 (i := 0) rfl rfl ?_
  refine a_get C fl_RX12_43 (i := 236) kd_236 (hid 236 (by decide)) (v := .ref (ad 245)) rfl dX12_tellThing_8 ?_
  refine a_aload_n C dX12_tellThing_11 (i := 0) rfl rfl ?_
  refine a_get C fl_RX12_224 (i := 236) kd_236 (hid 236 (by decide)) (v := .int (σ.1 236 19)) rfl dX12_tellThing_12 ?_
  refine p_iald C (i := 245) (show rowOK 245 from ⟨kd_245, by decide⟩) hid (by rw [al_245]; rfl) dX12_tellThing_15 h (fun h => ?_)
  refine a_iadd C dX12_tellThing_16 ?_
  refine p_istore_n C (fun z1 => [some (.ref (ad 236)), some (.int z1), none]) dX12_tellThing_17 (i := 1) rfl (by decide) rfl (fun _ => rfl) h (fun z1 h => ?_)
  refine a_aload_n C dX12_tellThing_18 (i := 0) rfl rfl ?_
  refine p_callVi C (As := []) (i := 236) kd_236 (hid 236 (by decide)) ⟨_, _, rfl⟩ (by decide) h (fun _ _ e => Z_X12_named hid e) mi_X12_named ml_RX12_271 rfl rfl (Nat.le_of_ble_eq_true rfl) (Nat.le_of_ble_eq_true rfl) (Nat.le_of_ble_eq_true rfl) dX12_tellThing_19 (fun r3 σ2 h => ?_)
  refine a_istore_n C dX12_tellThing_22 (i := 2) rfl (by decide) rfl (vs1 := [some (.ref (ad 236)), some (.int z1), some (.int r3)]) rfl ?_
  refine a_aload_n C dX12_tellThing_23 (i := 0) rfl rfl ?_
  refine a_get C fl_RX12_46 (i := 236) kd_236 (hid 236 (by decide)) (v := .ref (ad 246)) rfl dX12_tellThing_24 ?_
  refine a_iload_n C dX12_tellThing_27 (i := 1) rfl rfl ?_
  refine a_aload_n C dX12_tellThing_28 (i := 0) rfl rfl ?_
  refine a_iconst C dX12_tellThing_29 (v := 1) rfl ?_
  refine a_bipush C dX12_tellThing_30 (v := 9) rfl ?_
  refine p_callVi C (As := [.int 1, .int 9]) (i := 236) kd_236 (hid 236 (by decide)) ⟨_, _, rfl⟩ (by decide) h (fun _ _ e => Z_X12_bounded hid e) mi_X12_bounded ml_RX12_245 rfl rfl (Nat.le_of_ble_eq_true rfl) (Nat.le_of_ble_eq_true rfl) (Nat.le_of_ble_eq_true rfl) dX12_tellThing_32 (fun r5 σ4 h => ?_)
  refine p_iast C (i := 246) (show rowOK 246 from ⟨kd_246, by decide⟩) hid (by rw [al_246]; rfl) dX12_tellThing_35 h (fun σ6 h => ?_)
  refine a_aload_n C dX12_tellThing_36 (i := 0) rfl rfl ?_
  refine a_get C fl_RX12_49 (i := 236) kd_236 (hid 236 (by decide)) (v := .ref (ad 247)) rfl dX12_tellThing_37 ?_
  refine a_iload_n C dX12_tellThing_40 (i := 1) rfl rfl ?_
  refine a_aload_n C dX12_tellThing_41 (i := 0) rfl rfl ?_
  refine a_iconst C dX12_tellThing_42 (v := 0) rfl ?_
  refine a_bipush C dX12_tellThing_43 (v := 9) rfl ?_
  refine p_callVi C (As := [.int 0, .int 9]) (i := 236) kd_236 (hid 236 (by decide)) ⟨_, _, rfl⟩ (by decide) h (fun _ _ e => Z_X12_bounded hid e) mi_X12_bounded ml_RX12_245 rfl rfl (Nat.le_of_ble_eq_true rfl) (Nat.le_of_ble_eq_true rfl) (Nat.le_of_ble_eq_true rfl) dX12_tellThing_45 (fun r8 σ7 h => ?_)
  refine p_iast C (i := 247) (show rowOK 247 from ⟨kd_247, by decide⟩) hid (by rw [al_247]; rfl) dX12_tellThing_48 h (fun σ9 h => ?_)
  refine a_aload_n C dX12_tellThing_49 (i := 0) rfl rfl ?_
  refine a_get C fl_RX12_52 (i := 236) kd_236 (hid 236 (by decide)) (v := .ref (ad 248)) rfl dX12_tellThing_50 ?_
  refine a_iload_n C dX12_tellThing_53 (i := 1) rfl rfl ?_
  refine a_aload_n C dX12_tellThing_54 (i := 0) rfl rfl ?_
  refine a_iconst C dX12_tellThing_55 (v := 0) rfl ?_
  refine a_bipush C dX12_tellThing_56 (v := 9) rfl ?_
  refine p_callVi C (As := [.int 0, .int 9]) (i := 236) kd_236 (hid 236 (by decide)) ⟨_, _, rfl⟩ (by decide) h (fun _ _ e => Z_X12_bounded hid e) mi_X12_bounded ml_RX12_245 rfl rfl (Nat.le_of_ble_eq_true rfl) (Nat.le_of_ble_eq_true rfl) (Nat.le_of_ble_eq_true rfl) dX12_tellThing_58 (fun r11 σ10 h => ?_)
  refine p_iast C (i := 248) (show rowOK 248 from ⟨kd_248, by decide⟩) hid (by rw [al_248]; rfl) dX12_tellThing_61 h (fun σ12 h => ?_)
  refine a_aload_n C dX12_tellThing_62 (i := 0) rfl rfl ?_
  refine a_iload_n C dX12_tellThing_63 (i := 2) rfl rfl ?_
  refine p_callVv C (As := [.int r3]) (i := 236) kd_236 (hid 236 (by decide)) ⟨_, _, rfl⟩ (by decide) h (fun _ e => Z_X12_ends hid e) mi_X12_ends ml_RX12_275 rfl rfl (Nat.le_of_ble_eq_true rfl) (Nat.le_of_ble_eq_true rfl) (Nat.le_of_ble_eq_true rfl) dX12_tellThing_64 (fun σ13 h => ?_)
  refine a_aload_n C dX12_tellThing_67 (i := 0) rfl rfl ?_
  refine a_get C fl_RX12_191 (i := 236) kd_236 (hid 236 (by decide)) (v := .int (σ13.1 236 13)) rfl dX12_tellThing_68 ?_
  refine p_if_ne C (X := (σ13.1 236 13).toInt) rfl dX12_tellThing_71 (tgt := 87) rfl h (fun h => ?_) (fun h => ?_)
  ·
    exact a_vret Rt dX12_tellThing_87 (retv_eq (h.trans (congrArg some hR.symm)))
  ·
    refine a_aload_n C dX12_tellThing_74 (i := 0) rfl rfl ?_
    refine a_get C fl_RX12_43 (i := 236) kd_236 (hid 236 (by decide)) (v := .ref (ad 245)) rfl dX12_tellThing_75 ?_
    refine a_aload_n C dX12_tellThing_78 (i := 0) rfl rfl ?_
    refine a_get C fl_RX12_224 (i := 236) kd_236 (hid 236 (by decide)) (v := .int (σ13.1 236 19)) rfl dX12_tellThing_79 ?_
    refine a_dup2 C dX12_tellThing_82 rfl rfl ?_
    refine p_iald C (i := 245) (show rowOK 245 from ⟨kd_245, by decide⟩) hid (by rw [al_245]; rfl) dX12_tellThing_83 h (fun h => ?_)
    refine a_iconst C dX12_tellThing_84 (v := 1) rfl ?_
    refine a_iadd C dX12_tellThing_85 ?_
    refine p_iast C (i := 245) (show rowOK 245 from ⟨kd_245, by decide⟩) hid (by rw [al_245]; rfl) dX12_tellThing_86 h (fun σ15 h => ?_)
    exact a_vret Rt dX12_tellThing_87 (retv_eq (h.trans (congrArg some hR.symm)))
set_option maxHeartbeats 4000000 in
set_option maxRecDepth 100000 in
theorem Z_X12_tellPattern {l : Launch} {D : va_G} {ids : List Nat} {ad : Nat → Nat} {ca : Nat → ClassId} {σ : HS} {s0 : HS} (hid : ∀ i, i < 277 → i ∈ ids) (h : f_X12_tellPattern σ = some s0) : Kv l D ids ad ca yX12_tellPattern cX12_tellPattern 3 4 84 [.ref (ad 236)] σ (fun σ1 => σ1 = s0) := by
  obtain ⟨R, hR⟩ : ∃ R, s0 = R := ⟨_, rfl⟩
  replace h := h.trans (congrArg some hR)
  refine Kv.of (by decide) (Nat.le_of_ble_eq_true rfl) 2 (fun Γ C Rt => ?_)
  show AW ids ad ca Γ 0 [some (.ref (ad 236)), none, none] [] σ
  unfold f_X12_tellPattern at h
  have j120 : ∀ (y2 : Int32) (σ : HS), f_X12_tellPattern_120 y2 σ = some R → AW ids ad ca Γ 120 [some (.ref (ad 236)), none, some (.int y2)] [] σ := by
    intro y2 σ h
    unfold f_X12_tellPattern_120 at h
    refine a_aload_n C dX12_tellPattern_120 (i := 0) rfl rfl ?_
    refine a_iload_n C dX12_tellPattern_121 (i := 2) rfl rfl ?_
    refine p_callVv C (As := [.int y2]) (i := 236) kd_236 (hid 236 (by decide)) ⟨_, _, rfl⟩ (by decide) h (fun _ e => Z_X12_ends hid e) mi_X12_ends ml_RX12_275 rfl rfl (Nat.le_of_ble_eq_true rfl) (Nat.le_of_ble_eq_true rfl) (Nat.le_of_ble_eq_true rfl) dX12_tellPattern_122 (fun σ1 h => ?_)
    refine a_aload_n C dX12_tellPattern_125 (i := 0) rfl rfl ?_
    refine a_get C fl_RX12_191 (i := 236) kd_236 (hid 236 (by decide)) (v := .int (σ1.1 236 13)) rfl dX12_tellPattern_126 ?_
    refine p_if_ne C (X := (σ1.1 236 13).toInt) rfl dX12_tellPattern_129 (tgt := 145) rfl h (fun h => ?_) (fun h => ?_)
    ·
      exact a_vret Rt dX12_tellPattern_145 (retv_eq (h.trans (congrArg some hR.symm)))
    ·
      refine a_aload_n C dX12_tellPattern_132 (i := 0) rfl rfl ?_
      refine a_get C fl_RX12_55 (i := 236) kd_236 (hid 236 (by decide)) (v := .ref (ad 249)) rfl dX12_tellPattern_133 ?_
      refine a_aload_n C dX12_tellPattern_136 (i := 0) rfl rfl ?_
      refine a_get C fl_RX12_224 (i := 236) kd_236 (hid 236 (by decide)) (v := .int (σ1.1 236 19)) rfl dX12_tellPattern_137 ?_
      refine a_dup2 C dX12_tellPattern_140 rfl rfl ?_
      refine p_iald C (i := 249) (show rowOK 249 from ⟨kd_249, by decide⟩) hid (by rw [al_249]; rfl) dX12_tellPattern_141 h (fun h => ?_)
      refine a_iconst C dX12_tellPattern_142 (v := 1) rfl ?_
      refine a_iadd C dX12_tellPattern_143 ?_
      refine p_iast C (i := 249) (show rowOK 249 from ⟨kd_249, by decide⟩) hid (by rw [al_249]; rfl) dX12_tellPattern_144 h (fun σ3 h => ?_)
      exact a_vret Rt dX12_tellPattern_145 (retv_eq (h.trans (congrArg some hR.symm)))
  have j76 : ∀ (k45 : Int32 → Int32 → HS → Option (HS)) (hk45 : ∀ (y1 : Int32) (y2 : Int32) (σ : HS), k45 y1 y2 σ = some R → AW ids ad ca Γ 45 [some (.ref (ad 236)), some (.int y1), some (.int y2)] [] σ) (y1 : Int32) (y2 : Int32) (σ : HS), f_X12_tellPattern_76 k45 y1 y2 σ = some R → AW ids ad ca Γ 76 [some (.ref (ad 236)), some (.int y1), some (.int y2)] [] σ := by
    intro k45 hk45 y1 y2 σ h
    unfold f_X12_tellPattern_76 at h
    refine a_aload_n C dX12_tellPattern_76 (i := 0) rfl rfl ?_
    refine a_get C fl_RX12_191 (i := 236) kd_236 (hid 236 (by decide)) (v := .int (σ.1 236 13)) rfl dX12_tellPattern_77 ?_
    refine p_if_le C (X := (σ.1 236 13).toInt) rfl dX12_tellPattern_80 (tgt := 84) rfl h (fun h => ?_) (fun h => ?_)
    ·
      refine a_aload_n C dX12_tellPattern_84 (i := 0) rfl rfl ?_
      refine a_get C fl_RX12_61 (i := 236) kd_236 (hid 236 (by decide)) (v := .ref (ad 251)) rfl dX12_tellPattern_85 ?_
      refine a_bipush C dX12_tellPattern_88 (v := 8) rfl ?_
      refine a_iload_n C dX12_tellPattern_90 (i := 1) rfl rfl ?_
      refine a_imul C dX12_tellPattern_91 ?_
      refine a_aload_n C dX12_tellPattern_92 (i := 0) rfl rfl ?_
      refine a_get C fl_RX12_58 (i := 236) kd_236 (hid 236 (by decide)) (v := .ref (ad 250)) rfl dX12_tellPattern_93 ?_
      refine a_iload_n C dX12_tellPattern_96 (i := 1) rfl rfl ?_
      refine p_iald C (i := 250) (show rowOK 250 from ⟨kd_250, by decide⟩) hid (by rw [al_250]; rfl) dX12_tellPattern_97 h (fun h => ?_)
      refine a_iadd C dX12_tellPattern_98 ?_
      refine a_aload_n C dX12_tellPattern_99 (i := 0) rfl rfl ?_
      refine a_iconst C dX12_tellPattern_100 (v := 0) rfl ?_
      refine a_bipush C dX12_tellPattern_101 (v := 9) rfl ?_
      refine p_callVi C (As := [.int 0, .int 9]) (i := 236) kd_236 (hid 236 (by decide)) ⟨_, _, rfl⟩ (by decide) h (fun _ _ e => Z_X12_bounded hid e) mi_X12_bounded ml_RX12_245 rfl rfl (Nat.le_of_ble_eq_true rfl) (Nat.le_of_ble_eq_true rfl) (Nat.le_of_ble_eq_true rfl) dX12_tellPattern_103 (fun r2 σ1 h => ?_)
      refine p_iast C (i := 251) (show rowOK 251 from ⟨kd_251, by decide⟩) hid (by rw [al_251]; rfl) dX12_tellPattern_106 h (fun σ3 h => ?_)
      refine a_aload_n C dX12_tellPattern_107 (i := 0) rfl rfl ?_
      refine a_get C fl_RX12_58 (i := 236) kd_236 (hid 236 (by decide)) (v := .ref (ad 250)) rfl dX12_tellPattern_108 ?_
      refine a_iload_n C dX12_tellPattern_111 (i := 1) rfl rfl ?_
      refine a_dup2 C dX12_tellPattern_112 rfl rfl ?_
      refine p_iald C (i := 250) (show rowOK 250 from ⟨kd_250, by decide⟩) hid (by rw [al_250]; rfl) dX12_tellPattern_113 h (fun h => ?_)
      refine a_iconst C dX12_tellPattern_114 (v := 1) rfl ?_
      refine a_iadd C dX12_tellPattern_115 ?_
      refine p_iast C (i := 250) (show rowOK 250 from ⟨kd_250, by decide⟩) hid (by rw [al_250]; rfl) dX12_tellPattern_116 h (fun σ4 h => ?_)
      refine a_goto C dX12_tellPattern_117 (tgt := 45) rfl ?_
      exact hk45 _ _ _ h
    ·
      exact a_vret Rt dX12_tellPattern_83 (retv_eq (h.trans (congrArg some hR.symm)))
  have j45 : ∀ (n : Nat) (y1 : Int32) (y2 : Int32) (σ : HS), f_X12_tellPattern_45 n y1 y2 σ = some R → AW ids ad ca Γ 45 [some (.ref (ad 236)), some (.int y1), some (.int y2)] [] σ := by
    intro n
    induction n with
    | zero => intro y1 y2 σ h; exact nn h
    | succ n ih =>
      intro y1 y2 σ h
      have h : b_X12_tellPattern_45 (f_X12_tellPattern_45 n) y1 y2 σ = some R := h
      unfold b_X12_tellPattern_45 at h
      refine a_aload_n C dX12_tellPattern_45 (i := 0) rfl rfl ?_
      refine a_get C fl_RX12_191 (i := 236) kd_236 (hid 236 (by decide)) (v := .int (σ.1 236 13)) rfl dX12_tellPattern_46 ?_
      refine p_if_ne C (X := (σ.1 236 13).toInt) rfl dX12_tellPattern_49 (tgt := 120) rfl h (fun h => ?_) (fun h => ?_)
      ·
        refine AW.sub (vs' := [some (.ref (ad 236)), none, some (.int y2)]) (lsub_of (by simp [lsubB])) ?_
        exact j120 _ _ h
      ·
        refine a_aload_n C dX12_tellPattern_52 (i := 0) rfl rfl ?_
        refine a_iconst C dX12_tellPattern_53 (v := 2) rfl ?_
        refine p_callVi C (As := [.int 2]) (i := 236) kd_236 (hid 236 (by decide)) ⟨_, _, rfl⟩ (by decide) h (fun _ _ e => Z_X12_is hid e) mi_X12_is ml_RX12_209 rfl rfl (Nat.le_of_ble_eq_true rfl) (Nat.le_of_ble_eq_true rfl) (Nat.le_of_ble_eq_true rfl) dX12_tellPattern_54 (fun r2 σ1 h => ?_)
        refine p_if_eq C (X := r2.toInt) rfl dX12_tellPattern_57 (tgt := 120) rfl h (fun h => ?_) (fun h => ?_)
        ·
          refine AW.sub (vs' := [some (.ref (ad 236)), none, some (.int y2)]) (lsub_of (by simp [lsubB])) ?_
          exact j120 _ _ h
        ·
          refine a_aload_n C dX12_tellPattern_60 (i := 0) rfl rfl ?_
          refine a_get C fl_RX12_58 (i := 236) kd_236 (hid 236 (by decide)) (v := .ref (ad 250)) rfl dX12_tellPattern_61 ?_
          refine a_iload_n C dX12_tellPattern_64 (i := 1) rfl rfl ?_
          refine p_iald C (i := 250) (show rowOK 250 from ⟨kd_250, by decide⟩) hid (by rw [al_250]; rfl) dX12_tellPattern_65 h (fun h => ?_)
          refine a_bipush C dX12_tellPattern_66 (v := 8) rfl ?_
          refine p_ic_ne C (X := (σ1.1 250 y1.toInt.toNat).toInt) (Y := 8) rfl (by decide) dX12_tellPattern_68 (tgt := 76) rfl h (fun h => ?_) (fun h => ?_)
          ·
            exact j76 (f_X12_tellPattern_45 n) (fun y1 y2 σ h => ih y1 y2 σ h) _ _ _ h
          ·
            refine a_aload_n C dX12_tellPattern_71 (i := 0) rfl rfl ?_
            refine a_iconst C dX12_tellPattern_72 (v := 2) rfl ?_
            refine p_callVv C (As := [.int 2]) (i := 236) kd_236 (hid 236 (by decide)) ⟨_, _, rfl⟩ (by decide) h (fun _ e => Z_X12_fail hid e) mi_X12_fail ml_RX12_206 rfl rfl (Nat.le_of_ble_eq_true rfl) (Nat.le_of_ble_eq_true rfl) (Nat.le_of_ble_eq_true rfl) dX12_tellPattern_73 (fun σ3 h => ?_)
            exact j76 (f_X12_tellPattern_45 n) (fun y1 y2 σ h => ih y1 y2 σ h) _ _ _ h
  refine a_iconst C dX12_tellPattern_0 (v := 5) rfl ?_
  refine a_aload_n C dX12_tellPattern_1 (i := 0) rfl rfl ?_
  refine a_get C fl_RX12_224 (i := 236) kd_236 (hid 236 (by decide)) (v := .int (σ.1 236 19)) rfl dX12_tellPattern_2 ?_
  refine a_imul C dX12_tellPattern_5 ?_
  refine a_aload_n C dX12_tellPattern_6 (i := 0) rfl rfl ?_
  refine a_get C fl_RX12_55 (i := 236) kd_236 (hid 236 (by decide)) (v := .ref (ad 249)) rfl dX12_tellPattern_7 ?_
  refine a_aload_n C dX12_tellPattern_10 (i := 0) rfl rfl ?_
  refine a_get C fl_RX12_224 (i := 236) kd_236 (hid 236 (by decide)) (v := .int (σ.1 236 19)) rfl dX12_tellPattern_11 ?_
  refine p_iald C (i := 249) (show rowOK 249 from ⟨kd_249, by decide⟩) hid (by rw [al_249]; rfl) dX12_tellPattern_14 h (fun h => ?_)
  refine a_iadd C dX12_tellPattern_15 ?_
  refine p_istore_n C (fun z1 => [some (.ref (ad 236)), some (.int z1), none]) dX12_tellPattern_16 (i := 1) rfl (by decide) rfl (fun _ => rfl) h (fun z1 h => ?_)
  refine a_aload_n C dX12_tellPattern_17 (i := 0) rfl rfl ?_
  refine p_callVi C (As := []) (i := 236) kd_236 (hid 236 (by decide)) ⟨_, _, rfl⟩ (by decide) h (fun _ _ e => Z_X12_named hid e) mi_X12_named ml_RX12_271 rfl rfl (Nat.le_of_ble_eq_true rfl) (Nat.le_of_ble_eq_true rfl) (Nat.le_of_ble_eq_true rfl) dX12_tellPattern_18 (fun r3 σ2 h => ?_)
  refine a_istore_n C dX12_tellPattern_21 (i := 2) rfl (by decide) rfl (vs1 := [some (.ref (ad 236)), some (.int z1), some (.int r3)]) rfl ?_
  refine a_aload_n C dX12_tellPattern_22 (i := 0) rfl rfl ?_
  refine a_get C fl_RX12_61 (i := 236) kd_236 (hid 236 (by decide)) (v := .ref (ad 251)) rfl dX12_tellPattern_23 ?_
  refine a_bipush C dX12_tellPattern_26 (v := 8) rfl ?_
  refine a_iload_n C dX12_tellPattern_28 (i := 1) rfl rfl ?_
  refine a_imul C dX12_tellPattern_29 ?_
  refine a_aload_n C dX12_tellPattern_30 (i := 0) rfl rfl ?_
  refine a_iconst C dX12_tellPattern_31 (v := 0) rfl ?_
  refine a_bipush C dX12_tellPattern_32 (v := 9) rfl ?_
  refine p_callVi C (As := [.int 0, .int 9]) (i := 236) kd_236 (hid 236 (by decide)) ⟨_, _, rfl⟩ (by decide) h (fun _ _ e => Z_X12_bounded hid e) mi_X12_bounded ml_RX12_245 rfl rfl (Nat.le_of_ble_eq_true rfl) (Nat.le_of_ble_eq_true rfl) (Nat.le_of_ble_eq_true rfl) dX12_tellPattern_34 (fun r5 σ4 h => ?_)
  refine p_iast C (i := 251) (show rowOK 251 from ⟨kd_251, by decide⟩) hid (by rw [al_251]; rfl) dX12_tellPattern_37 h (fun σ6 h => ?_)
  refine a_aload_n C dX12_tellPattern_38 (i := 0) rfl rfl ?_
  refine a_get C fl_RX12_58 (i := 236) kd_236 (hid 236 (by decide)) (v := .ref (ad 250)) rfl dX12_tellPattern_39 ?_
  refine a_iload_n C dX12_tellPattern_42 (i := 1) rfl rfl ?_
  refine a_iconst C dX12_tellPattern_43 (v := 1) rfl ?_
  refine p_iast C (i := 250) (show rowOK 250 from ⟨kd_250, by decide⟩) hid (by rw [al_250]; rfl) dX12_tellPattern_44 h (fun σ7 h => ?_)
  exact j45 _ _ _ _ h

