set_option maxHeartbeats 4000000 in
set_option maxRecDepth 100000 in
theorem Z_X11_light {l : Launch} {D : va_G} {ids : List Nat} {ad : Nat → Nat} {ca : Nat → ClassId} {σ : HS} {x1 : Int32} {x2 : Int32} {r0 : Int32} {s0 : HS} (hid : ∀ i, i < 277 → i ∈ ids) (h : f_X11_light x1 x2 σ = some (r0, s0)) : Ki l D ids ad ca yX11_light cX11_light 6 .int 6 149 [.ref (ad 0), .int x1, .int x2] σ (fun r σ1 => r = r0 ∧ σ1 = s0) := by
  obtain ⟨R, hR⟩ : ∃ R, (r0, s0) = R := ⟨_, rfl⟩
  replace h := h.trans (congrArg some hR)
  refine Ki.of (by decide) (Nat.le_of_ble_eq_true rfl) 3 (fun Γ C Rt => ?_)
  show AW ids ad ca Γ 0 [some (.ref (ad 0)), some (.int x1), some (.int x2), none, none, none] [] σ
  unfold f_X11_light at h
  have j147 : ∀ (k28 : Int32 → Int32 → Int32 → Int32 → Int32 → HS → Option (Int32 × HS)) (hk28 : ∀ (y1 : Int32) (y2 : Int32) (y3 : Int32) (y4 : Int32) (y5 : Int32) (σ : HS), k28 y1 y2 y3 y4 y5 σ = some R → AW ids ad ca Γ 28 [some (.ref (ad 0)), some (.int y1), some (.int y2), some (.int y3), some (.int y4), some (.int y5)] [] σ) (y1 : Int32) (y2 : Int32) (y3 : Int32) (y4 : Int32) (y5 : Int32) (σ : HS), f_X11_light_147 k28 y1 y2 y3 y4 y5 σ = some R → AW ids ad ca Γ 147 [some (.ref (ad 0)), some (.int y1), some (.int y2), some (.int y3), some (.int y4), some (.int y5)] [] σ := by
    intro k28 hk28 y1 y2 y3 y4 y5 σ h
    unfold f_X11_light_147 at h
    refine p_iinc C (y := (y5 + 1)) (fun z1 => [some (.ref (ad 0)), some (.int y1), some (.int y2), some (.int y3), some (.int y4), some (.int z1)]) dX11_light_147 rfl rfl (by decide) rfl (fun _ => rfl) h (fun z1 h => ?_)
    refine a_goto C dX11_light_150 (tgt := 28) rfl ?_
    exact hk28 _ _ _ _ _ _ h
  have j135 : ∀ (k28 : Int32 → Int32 → Int32 → Int32 → Int32 → HS → Option (Int32 × HS)) (hk28 : ∀ (y1 : Int32) (y2 : Int32) (y3 : Int32) (y4 : Int32) (y5 : Int32) (σ : HS), k28 y1 y2 y3 y4 y5 σ = some R → AW ids ad ca Γ 28 [some (.ref (ad 0)), some (.int y1), some (.int y2), some (.int y3), some (.int y4), some (.int y5)] [] σ) (y1 : Int32) (y2 : Int32) (y5 : Int32) (σ : HS), f_X11_light_135 k28 y1 y2 y5 σ = some R → AW ids ad ca Γ 135 [some (.ref (ad 0)), some (.int y1), some (.int y2), none, none, some (.int y5)] [] σ := by
    intro k28 hk28 y1 y2 y5 σ h
    unfold f_X11_light_135 at h
    refine a_iload C dX11_light_135 rfl ?_
    refine a_istore_n C dX11_light_137 (i := 3) rfl (by decide) rfl (vs1 := [some (.ref (ad 0)), some (.int y1), some (.int y2), some (.int y5), none, some (.int y5)]) rfl ?_
    refine a_aload_n C dX11_light_138 (i := 0) rfl rfl ?_
    refine a_get C fl_RX11_58 (i := 0) kd_0 (hid 0 (by decide)) (v := .ref (ad 60)) rfl dX11_light_139 ?_
    refine a_get C fl_RX11_177 (i := 60) (show airOK 60 from airOK_of 1 (by decide)).1.1 (hid _ (show airOK 60 from airOK_of 1 (by decide)).1.2) (v := .int (σ.1 60 5)) rfl dX11_light_142 ?_
    refine p_istore C (fun z1 => [some (.ref (ad 0)), some (.int y1), some (.int y2), some (.int y5), some (.int z1), some (.int y5)]) dX11_light_145 (by decide) rfl (fun _ => rfl) h (fun z1 h => ?_)
    exact j147 k28 hk28 _ _ _ _ _ _ h
  have j28 : ∀ (n : Nat) (y1 : Int32) (y2 : Int32) (y3 : Int32) (y4 : Int32) (y5 : Int32) (σ : HS), f_X11_light_28 n y1 y2 y3 y4 y5 σ = some R → AW ids ad ca Γ 28 [some (.ref (ad 0)), some (.int y1), some (.int y2), some (.int y3), some (.int y4), some (.int y5)] [] σ := by
    intro n
    induction n with
    | zero => intro y1 y2 y3 y4 y5 σ h; exact nn h
    | succ n ih =>
      intro y1 y2 y3 y4 y5 σ h
      have h : b_X11_light_28 (f_X11_light_28 n) y1 y2 y3 y4 y5 σ = some R := h
      unfold b_X11_light_28 at h
      refine a_iload C dX11_light_28 rfl ?_
      refine a_aload_n C dX11_light_30 (i := 0) rfl rfl ?_
      refine p_getT C fl_RX11_82 (tx := (σ.2.2 0)) kd_0 (hid 0 (by decide)) (fun t e => by subst e; rfl) dX11_light_31 h (fun ht1 h => ?_)
      refine a_get C fl_RX11_171 (i := ((σ.2.2 0))) ht1.1.1 (hid _ ht1.1.2) (v := .int (σ.1 ((σ.2.2 0)) 4)) rfl dX11_light_34 ?_
      refine p_ic_ge C (X := y5.toInt) (Y := (σ.1 ((σ.2.2 0)) 4).toInt) rfl rfl dX11_light_37 (tgt := 153) rfl h (fun h => ?_) (fun h => ?_)
      ·
        refine a_iload_n C dX11_light_153 (i := 2) rfl rfl ?_
        refine p_if_ne C (X := y2.toInt) rfl dX11_light_154 (tgt := 161) rfl h (fun h => ?_) (fun h => ?_)
        ·
          refine a_iload C dX11_light_161 rfl ?_
          exact a_iret Rt dX11_light_163 rfl (ret_eq (h.trans (congrArg some hR.symm)))
        ·
          refine a_iload_n C dX11_light_157 (i := 3) rfl rfl ?_
          refine a_goto C dX11_light_158 (tgt := 163) rfl ?_
          exact a_iret Rt dX11_light_163 rfl (ret_eq (h.trans (congrArg some hR.symm)))
      ·
        refine a_aload_n C dX11_light_40 (i := 0) rfl rfl ?_
        refine p_getT C fl_RX11_82 (tx := (σ.2.2 0)) kd_0 (hid 0 (by decide)) (fun t e => by subst e; rfl) dX11_light_41 h (fun ht2 h => ?_)
        refine a_get C fl_RX11_149 (i := ((σ.2.2 0))) ht2.1.1 (hid _ ht2.1.2) (v := .ref (ad ((σ.2.2 0) + 4))) rfl dX11_light_44 ?_
        refine a_iload C dX11_light_47 rfl ?_
        refine p_aaldH C (t := ((σ.2.2 0))) ht2 hid dX11_light_49 h (fun hr3 h => ?_)
        refine a_aload_n C dX11_light_50 (i := 0) rfl rfl ?_
        refine p_getT C fl_RX11_82 (tx := (σ.2.2 0)) kd_0 (hid 0 (by decide)) (fun t e => by subst e; rfl) dX11_light_51 h (fun ht4 h => ?_)
        refine a_get C fl_RX11_146 (i := ((σ.2.2 0))) ht4.1.1 (hid _ ht4.1.2) (v := .ref (ad ((σ.2.2 0) + 10))) rfl dX11_light_54 ?_
        refine a_iload C dX11_light_57 rfl ?_
        refine p_iald C (i := ((σ.2.2 0) + 10)) ht4.2.2.2.2.1.1 hid (by rw [ht4.2.2.2.2.1.2]; rfl) dX11_light_59 h (fun h => ?_)
        refine a_iconst C dX11_light_60 (v := 1) rfl ?_
        refine p_callSi C (As := [.ref (ad ((σ.2.2 0) + 5 + y5.toInt.toNat)), .int (σ.1 ((σ.2.2 0) + 10) y5.toInt.toNat), .int 1]) h (fun _ _ e => Z_X11_closingOf hid hr3.1 e) ms_X11_closingOf ml_RX11_233 rfl rfl (Nat.le_of_ble_eq_true rfl) (Nat.le_of_ble_eq_true rfl) (Nat.le_of_ble_eq_true rfl) dX11_light_61 (fun r6 σ5 h => ?_)
        refine a_aload_n C dX11_light_64 (i := 0) rfl rfl ?_
        refine a_get C fl_RX11_54 (i := 0) kd_0 (hid 0 (by decide)) (v := .ref (ad 56)) rfl dX11_light_65 ?_
        refine p_callVi C (As := []) (i := 56) (show airOK 56 from airOK_of 0 (by decide)).1.1 (hid _ (show airOK 56 from airOK_of 0 (by decide)).1.2) ⟨_, _, rfl⟩ (by decide) h (fun _ _ e => Z_X0_howManyUp hid (show airOK 56 from airOK_of 0 (by decide)) e) mi_X0_howManyUp ml_RX11_156 rfl rfl (Nat.le_of_ble_eq_true rfl) (Nat.le_of_ble_eq_true rfl) (Nat.le_of_ble_eq_true rfl) dX11_light_68 (fun r8 σ7 h => ?_)
        refine p_ic_ne C (X := r6.toInt) (Y := r8.toInt) rfl rfl dX11_light_71 (tgt := 147) rfl h (fun h => ?_) (fun h => ?_)
        ·
          exact j147 (f_X11_light_28 n) (fun y1 y2 y3 y4 y5 σ h => ih y1 y2 y3 y4 y5 σ h) _ _ _ _ _ _ h
        ·
          refine a_aload_n C dX11_light_74 (i := 0) rfl rfl ?_
          refine a_get C fl_RX11_58 (i := 0) kd_0 (hid 0 (by decide)) (v := .ref (ad 60)) rfl dX11_light_75 ?_
          refine a_aload_n C dX11_light_78 (i := 0) rfl rfl ?_
          refine a_get C fl_RX11_54 (i := 0) kd_0 (hid 0 (by decide)) (v := .ref (ad 56)) rfl dX11_light_79 ?_
          refine p_callVv C (As := [.ref (ad 56)]) (i := 60) (show airOK 60 from airOK_of 1 (by decide)).1.1 (hid _ (show airOK 60 from airOK_of 1 (by decide)).1.2) ⟨_, _, rfl⟩ (by decide) h (fun _ e => Z_X0_copy hid (show airOK 60 from airOK_of 1 (by decide)) (show airOK 56 from airOK_of 0 (by decide)) e) mi_X0_copy ml_RX11_230 rfl rfl (Nat.le_of_ble_eq_true rfl) (Nat.le_of_ble_eq_true rfl) (Nat.le_of_ble_eq_true rfl) dX11_light_82 (fun σ9 h => ?_)
          refine a_aload_n C dX11_light_85 (i := 0) rfl rfl ?_
          refine a_get C fl_RX11_58 (i := 0) kd_0 (hid 0 (by decide)) (v := .ref (ad 60)) rfl dX11_light_86 ?_
          refine a_iload C dX11_light_89 rfl ?_
          refine p_callVv C (As := [.int y5]) (i := 60) (show airOK 60 from airOK_of 1 (by decide)).1.1 (hid _ (show airOK 60 from airOK_of 1 (by decide)).1.2) ⟨_, _, rfl⟩ (by decide) h (fun _ e => Z_X0_takeUp hid (show airOK 60 from airOK_of 1 (by decide)) e) mi_X0_takeUp ml_RX11_214 rfl rfl (Nat.le_of_ble_eq_true rfl) (Nat.le_of_ble_eq_true rfl) (Nat.le_of_ble_eq_true rfl) dX11_light_91 (fun σ11 h => ?_)
          refine a_aload_n C dX11_light_94 (i := 0) rfl rfl ?_
          refine a_get C fl_RX11_19 (i := 0) kd_0 (hid 0 (by decide)) (v := .ref (ad 8)) rfl dX11_light_95 ?_
          refine a_aload_n C dX11_light_98 (i := 0) rfl rfl ?_
          refine p_getT C fl_RX11_82 (tx := (σ11.2.2 0)) kd_0 (hid 0 (by decide)) (fun t e => by subst e; rfl) dX11_light_99 h (fun ht13 h => ?_)
          refine a_aload_n C dX11_light_102 (i := 0) rfl rfl ?_
          refine a_get C fl_RX11_58 (i := 0) kd_0 (hid 0 (by decide)) (v := .ref (ad 60)) rfl dX11_light_103 ?_
          refine a_iload_n C dX11_light_106 (i := 1) rfl rfl ?_
          refine a_aload_n C dX11_light_107 (i := 0) rfl rfl ?_
          refine p_getT C fl_RX11_82 (tx := (σ11.2.2 0)) kd_0 (hid 0 (by decide)) (fun t e => by subst e; rfl) dX11_light_108 h (fun ht14 h => ?_)
          refine a_get C fl_RX11_220 (i := ((σ11.2.2 0))) ht14.1.1 (hid _ ht14.1.2) (v := .int (σ11.1 ((σ11.2.2 0)) 11)) rfl dX11_light_111 ?_
          refine p_callVv C (As := [.ref (ad ((σ11.2.2 0))), .ref (ad 60), .int y1, .int (σ11.1 ((σ11.2.2 0)) 11)]) (i := 8) kd_8 (hid 8 (by decide)) ⟨_, _, rfl⟩ (by decide) h (fun _ e => Z_X4_goOn hid ht13 (show airOK 60 from airOK_of 1 (by decide)) e) mi_X4_goOn ml_RX11_223 rfl rfl (Nat.le_of_ble_eq_true rfl) (Nat.le_of_ble_eq_true rfl) (Nat.le_of_ble_eq_true rfl) dX11_light_114 (fun σ15 h => ?_)
          refine a_iload_n C dX11_light_117 (i := 3) rfl rfl ?_
          refine a_bipush C dX11_light_118 (v := (-2)) rfl ?_
          refine p_ic_eq C (X := y3.toInt) (Y := (-2)) rfl (by decide) dX11_light_120 (tgt := 135) rfl h (fun h => ?_) (fun h => ?_)
          ·
            refine AW.sub (vs' := [some (.ref (ad 0)), some (.int y1), some (.int y2), none, none, some (.int y5)]) (lsub_of (by simp [lsubB])) ?_
            exact j135 (f_X11_light_28 n) (fun y1 y2 y3 y4 y5 σ h => ih y1 y2 y3 y4 y5 σ h) _ _ _ _ h
          ·
            refine a_aload_n C dX11_light_123 (i := 0) rfl rfl ?_
            refine a_get C fl_RX11_58 (i := 0) kd_0 (hid 0 (by decide)) (v := .ref (ad 60)) rfl dX11_light_124 ?_
            refine a_get C fl_RX11_177 (i := 60) (show airOK 60 from airOK_of 1 (by decide)).1.1 (hid _ (show airOK 60 from airOK_of 1 (by decide)).1.2) (v := .int (σ15.1 60 5)) rfl dX11_light_127 ?_
            refine a_iload C dX11_light_130 rfl ?_
            refine p_ic_ge C (X := (σ15.1 60 5).toInt) (Y := y4.toInt) rfl rfl dX11_light_132 (tgt := 147) rfl h (fun h => ?_) (fun h => ?_)
            ·
              exact j147 (f_X11_light_28 n) (fun y1 y2 y3 y4 y5 σ h => ih y1 y2 y3 y4 y5 σ h) _ _ _ _ _ _ h
            ·
              refine AW.sub (vs' := [some (.ref (ad 0)), some (.int y1), some (.int y2), none, none, some (.int y5)]) (lsub_of (by simp [lsubB])) ?_
              exact j135 (f_X11_light_28 n) (fun y1 y2 y3 y4 y5 σ h => ih y1 y2 y3 y4 y5 σ h) _ _ _ _ h
  refine a_iload_n C dX11_light_0 (i := 1) rfl rfl ?_
  refine p_callSi C (As := [.int x1]) h (fun _ _ e => Z_X11_isSpan hid e) ms_X11_isSpan ml_RX11_307 rfl rfl (Nat.le_of_ble_eq_true rfl) (Nat.le_of_ble_eq_true rfl) (Nat.le_of_ble_eq_true rfl) dX11_light_1 (fun r2 σ1 h => ?_)
  refine p_if_eq C (X := r2.toInt) rfl dX11_light_4 (tgt := 16) rfl h (fun h => ?_) (fun h => ?_)
  ·
    refine a_iconst C dX11_light_16 (v := (-1)) rfl ?_
    exact a_iret Rt dX11_light_17 rfl (ret_eq (h.trans (congrArg some hR.symm)))
  ·
    refine a_iload_n C dX11_light_7 (i := 2) rfl rfl ?_
    refine p_if_lt C (X := x2.toInt) rfl dX11_light_8 (tgt := 16) rfl h (fun h => ?_) (fun h => ?_)
    ·
      refine a_iconst C dX11_light_16 (v := (-1)) rfl ?_
      exact a_iret Rt dX11_light_17 rfl (ret_eq (h.trans (congrArg some hR.symm)))
    ·
      refine a_iload_n C dX11_light_11 (i := 2) rfl rfl ?_
      refine a_iconst C dX11_light_12 (v := 1) rfl ?_
      refine p_ic_le C (X := x2.toInt) (Y := 1) rfl (by decide) dX11_light_13 (tgt := 18) rfl h (fun h => ?_) (fun h => ?_)
      ·
        refine a_bipush C dX11_light_18 (v := (-2)) rfl ?_
        refine a_istore_n C dX11_light_20 (i := 3) rfl (by decide) rfl (vs1 := [some (.ref (ad 0)), some (.int x1), some (.int x2), some (.int (-2)), none, none]) rfl ?_
        refine a_bipush C dX11_light_21 (v := (-2)) rfl ?_
        refine a_istore C dX11_light_23 (by decide) rfl (vs1 := [some (.ref (ad 0)), some (.int x1), some (.int x2), some (.int (-2)), some (.int (-2)), none]) rfl ?_
        refine a_iconst C dX11_light_25 (v := 0) rfl ?_
        refine a_istore C dX11_light_26 (by decide) rfl (vs1 := [some (.ref (ad 0)), some (.int x1), some (.int x2), some (.int (-2)), some (.int (-2)), some (.int 0)]) rfl ?_
        exact j28 _ _ _ _ _ _ _ h
      ·
        refine a_iconst C dX11_light_16 (v := (-1)) rfl ?_
        exact a_iret Rt dX11_light_17 rfl (ret_eq (h.trans (congrArg some hR.symm)))
set_option maxHeartbeats 4000000 in
set_option maxRecDepth 100000 in
theorem Z_X11_then {l : Launch} {D : va_G} {ids : List Nat} {ad : Nat → Nat} {ca : Nat → ClassId} {σ : HS} {x1 : Int32} {x2 : Int32} {r0 : Int32} {s0 : HS} (hid : ∀ i, i < 277 → i ∈ ids) (h : f_X11_then x1 x2 σ = some (r0, s0)) : Ki l D ids ad ca yX11_then cX11_then 3 .int 6 149 [.ref (ad 0), .int x1, .int x2] σ (fun r σ1 => r = r0 ∧ σ1 = s0) := by
  obtain ⟨R, hR⟩ : ∃ R, (r0, s0) = R := ⟨_, rfl⟩
  replace h := h.trans (congrArg some hR)
  refine Ki.of (by decide) (Nat.le_of_ble_eq_true rfl) 0 (fun Γ C Rt => ?_)
  show AW ids ad ca Γ 0 [some (.ref (ad 0)), some (.int x1), some (.int x2)] [] σ
  unfold f_X11_then at h
  refine a_iload_n C dX11_then_0 (i := 1) rfl rfl ?_
  refine p_if_lt C (X := x1.toInt) rfl dX11_then_1 (tgt := 19) rfl h (fun h => ?_) (fun h => ?_)
  ·
    refine a_iconst C dX11_then_19 (v := (-1)) rfl ?_
    exact a_iret Rt dX11_then_20 rfl (ret_eq (h.trans (congrArg some hR.symm)))
  ·
    refine a_iload_n C dX11_then_4 (i := 1) rfl rfl ?_
    refine a_bipush C dX11_then_5 (v := 60) rfl ?_
    refine p_ic_gt C (X := x1.toInt) (Y := 60) rfl (by decide) dX11_then_7 (tgt := 19) rfl h (fun h => ?_) (fun h => ?_)
    ·
      refine a_iconst C dX11_then_19 (v := (-1)) rfl ?_
      exact a_iret Rt dX11_then_20 rfl (ret_eq (h.trans (congrArg some hR.symm)))
    ·
      refine a_iload_n C dX11_then_10 (i := 2) rfl rfl ?_
      refine p_if_lt C (X := x2.toInt) rfl dX11_then_11 (tgt := 19) rfl h (fun h => ?_) (fun h => ?_)
      ·
        refine a_iconst C dX11_then_19 (v := (-1)) rfl ?_
        exact a_iret Rt dX11_then_20 rfl (ret_eq (h.trans (congrArg some hR.symm)))
      ·
        refine a_iload_n C dX11_then_14 (i := 2) rfl rfl ?_
        refine a_iconst C dX11_then_15 (v := 3) rfl ?_
        refine p_ic_le C (X := x2.toInt) (Y := 3) rfl (by decide) dX11_then_16 (tgt := 21) rfl h (fun h => ?_) (fun h => ?_)
        ·
          refine a_aload_n C dX11_then_21 (i := 0) rfl rfl ?_
          refine a_get C fl_RX11_58 (i := 0) kd_0 (hid 0 (by decide)) (v := .ref (ad 60)) rfl dX11_then_22 ?_
          refine a_aload_n C dX11_then_25 (i := 0) rfl rfl ?_
          refine a_get C fl_RX11_54 (i := 0) kd_0 (hid 0 (by decide)) (v := .ref (ad 56)) rfl dX11_then_26 ?_
          refine p_callVv C (As := [.ref (ad 56)]) (i := 60) (show airOK 60 from airOK_of 1 (by decide)).1.1 (hid _ (show airOK 60 from airOK_of 1 (by decide)).1.2) ⟨_, _, rfl⟩ (by decide) h (fun _ e => Z_X0_copy hid (show airOK 60 from airOK_of 1 (by decide)) (show airOK 56 from airOK_of 0 (by decide)) e) mi_X0_copy ml_RX11_230 rfl rfl (Nat.le_of_ble_eq_true rfl) (Nat.le_of_ble_eq_true rfl) (Nat.le_of_ble_eq_true rfl) dX11_then_29 (fun σ1 h => ?_)
          refine a_aload_n C dX11_then_32 (i := 0) rfl rfl ?_
          refine a_get C fl_RX11_19 (i := 0) kd_0 (hid 0 (by decide)) (v := .ref (ad 8)) rfl dX11_then_33 ?_
          refine a_aload_n C dX11_then_36 (i := 0) rfl rfl ?_
          refine p_getT C fl_RX11_82 (tx := (σ1.2.2 0)) kd_0 (hid 0 (by decide)) (fun t e => by subst e; rfl) dX11_then_37 h (fun ht3 h => ?_)
          refine a_aload_n C dX11_then_40 (i := 0) rfl rfl ?_
          refine a_get C fl_RX11_58 (i := 0) kd_0 (hid 0 (by decide)) (v := .ref (ad 60)) rfl dX11_then_41 ?_
          refine a_iload_n C dX11_then_44 (i := 1) rfl rfl ?_
          refine a_aload_n C dX11_then_45 (i := 0) rfl rfl ?_
          refine p_getT C fl_RX11_82 (tx := (σ1.2.2 0)) kd_0 (hid 0 (by decide)) (fun t e => by subst e; rfl) dX11_then_46 h (fun ht4 h => ?_)
          refine a_get C fl_RX11_220 (i := ((σ1.2.2 0))) ht4.1.1 (hid _ ht4.1.2) (v := .int (σ1.1 ((σ1.2.2 0)) 11)) rfl dX11_then_49 ?_
          refine p_callVv C (As := [.ref (ad ((σ1.2.2 0))), .ref (ad 60), .int x1, .int (σ1.1 ((σ1.2.2 0)) 11)]) (i := 8) kd_8 (hid 8 (by decide)) ⟨_, _, rfl⟩ (by decide) h (fun _ e => Z_X4_goOn hid ht3 (show airOK 60 from airOK_of 1 (by decide)) e) mi_X4_goOn ml_RX11_223 rfl rfl (Nat.le_of_ble_eq_true rfl) (Nat.le_of_ble_eq_true rfl) (Nat.le_of_ble_eq_true rfl) dX11_then_52 (fun σ5 h => ?_)
          refine a_iload_n C dX11_then_55 (i := 2) rfl rfl ?_
          refine ite_k h (fun c1 h => ?_) (fun c1 h => ?_)
          ·
            refine a_tableIn C dX11_then_56 (by omega) (by omega) (by rw [c1]; rfl) (tgt := 84) rfl ?_
            refine a_aload_n C dX11_then_84 (i := 0) rfl rfl ?_
            refine a_get C fl_RX11_58 (i := 0) kd_0 (hid 0 (by decide)) (v := .ref (ad 60)) rfl dX11_then_85 ?_
            refine a_get C fl_RX11_177 (i := 60) (show airOK 60 from airOK_of 1 (by decide)).1.1 (hid _ (show airOK 60 from airOK_of 1 (by decide)).1.2) (v := .int (σ5.1 60 5)) rfl dX11_then_88 ?_
            exact a_iret Rt dX11_then_91 rfl (ret_eq (h.trans (congrArg some hR.symm)))
          ·
            refine ite_k h (fun c2 h => ?_) (fun c2 h => ?_)
            ·
              refine a_tableIn C dX11_then_56 (by omega) (by omega) (by rw [c2]; rfl) (tgt := 92) rfl ?_
              refine a_aload_n C dX11_then_92 (i := 0) rfl rfl ?_
              refine a_get C fl_RX11_58 (i := 0) kd_0 (hid 0 (by decide)) (v := .ref (ad 60)) rfl dX11_then_93 ?_
              refine p_callVi C (As := []) (i := 60) (show airOK 60 from airOK_of 1 (by decide)).1.1 (hid _ (show airOK 60 from airOK_of 1 (by decide)).1.2) ⟨_, _, rfl⟩ (by decide) h (fun _ _ e => Z_X0_howManyUp hid (show airOK 60 from airOK_of 1 (by decide)) e) mi_X0_howManyUp ml_RX11_156 rfl rfl (Nat.le_of_ble_eq_true rfl) (Nat.le_of_ble_eq_true rfl) (Nat.le_of_ble_eq_true rfl) dX11_then_96 (fun r8 σ7 h => ?_)
              exact a_iret Rt dX11_then_99 rfl (ret_eq (h.trans (congrArg some hR.symm)))
            ·
              refine ite_k h (fun c3 h => ?_) (fun c3 h => ?_)
              ·
                refine a_tableIn C dX11_then_56 (by omega) (by omega) (by rw [c3]; rfl) (tgt := 100) rfl ?_
                refine a_aload_n C dX11_then_100 (i := 0) rfl rfl ?_
                refine a_get C fl_RX11_58 (i := 0) kd_0 (hid 0 (by decide)) (v := .ref (ad 60)) rfl dX11_then_101 ?_
                refine a_get C fl_RX11_184 (i := 60) (show airOK 60 from airOK_of 1 (by decide)).1.1 (hid _ (show airOK 60 from airOK_of 1 (by decide)).1.2) (v := .int (σ5.1 60 6)) rfl dX11_then_104 ?_
                refine a_aload_n C dX11_then_107 (i := 0) rfl rfl ?_
                refine a_get C fl_RX11_54 (i := 0) kd_0 (hid 0 (by decide)) (v := .ref (ad 56)) rfl dX11_then_108 ?_
                refine a_get C fl_RX11_184 (i := 56) (show airOK 56 from airOK_of 0 (by decide)).1.1 (hid _ (show airOK 56 from airOK_of 0 (by decide)).1.2) (v := .int (σ5.1 56 6)) rfl dX11_then_111 ?_
                refine a_isub C dX11_then_114 ?_
                exact a_iret Rt dX11_then_115 rfl (ret_eq (h.trans (congrArg some hR.symm)))
              ·
                refine a_tableOut C dX11_then_56 (by omega) (tgt := 116) rfl ?_
                refine a_aload_n C dX11_then_116 (i := 0) rfl rfl ?_
                refine a_get C fl_RX11_58 (i := 0) kd_0 (hid 0 (by decide)) (v := .ref (ad 60)) rfl dX11_then_117 ?_
                refine a_get C fl_RX11_190 (i := 60) (show airOK 60 from airOK_of 1 (by decide)).1.1 (hid _ (show airOK 60 from airOK_of 1 (by decide)).1.2) (v := .int (σ5.1 60 8)) rfl dX11_then_120 ?_
                refine a_aload_n C dX11_then_123 (i := 0) rfl rfl ?_
                refine a_get C fl_RX11_54 (i := 0) kd_0 (hid 0 (by decide)) (v := .ref (ad 56)) rfl dX11_then_124 ?_
                refine a_get C fl_RX11_190 (i := 56) (show airOK 56 from airOK_of 0 (by decide)).1.1 (hid _ (show airOK 56 from airOK_of 0 (by decide)).1.2) (v := .int (σ5.1 56 8)) rfl dX11_then_127 ?_
                refine a_isub C dX11_then_130 ?_
                exact a_iret Rt dX11_then_131 rfl (ret_eq (h.trans (congrArg some hR.symm)))
        ·
          refine a_iconst C dX11_then_19 (v := (-1)) rfl ?_
          exact a_iret Rt dX11_then_20 rfl (ret_eq (h.trans (congrArg some hR.symm)))
set_option maxHeartbeats 4000000 in
set_option maxRecDepth 100000 in
theorem Z_X11_year {l : Launch} {D : va_G} {ids : List Nat} {ad : Nat → Nat} {ca : Nat → ClassId} {σ : HS} {x1 : Int32} {x2 : Int32} {r0 : Int32} {s0 : HS} (hid : ∀ i, i < 277 → i ∈ ids) (h : f_X11_year x1 x2 σ = some (r0, s0)) : Ki l D ids ad ca yX11_year cX11_year 5 .int 6 149 [.ref (ad 0), .int x1, .int x2] σ (fun r σ1 => r = r0 ∧ σ1 = s0) := by
  obtain ⟨R, hR⟩ : ∃ R, (r0, s0) = R := ⟨_, rfl⟩
  replace h := h.trans (congrArg some hR)
  refine Ki.of (by decide) (Nat.le_of_ble_eq_true rfl) 2 (fun Γ C Rt => ?_)
  show AW ids ad ca Γ 0 [some (.ref (ad 0)), some (.int x1), some (.int x2), none, none] [] σ
  unfold f_X11_year at h
  have j91 : ∀ (k28 : Int32 → Int32 → Int32 → Int32 → HS → Option (Int32 × HS)) (hk28 : ∀ (y1 : Int32) (y2 : Int32) (y3 : Int32) (y4 : Int32) (σ : HS), k28 y1 y2 y3 y4 σ = some R → AW ids ad ca Γ 28 [some (.ref (ad 0)), some (.int y1), some (.int y2), some (.int y3), some (.int y4)] [] σ) (y1 : Int32) (y2 : Int32) (y3 : Int32) (y4 : Int32) (σ : HS), f_X11_year_91 k28 y1 y2 y3 y4 σ = some R → AW ids ad ca Γ 91 [some (.ref (ad 0)), some (.int y1), some (.int y2), some (.int y3), some (.int y4)] [] σ := by
    intro k28 hk28 y1 y2 y3 y4 σ h
    unfold f_X11_year_91 at h
    refine p_iinc C (y := (y4 + 1)) (fun z1 => [some (.ref (ad 0)), some (.int y1), some (.int y2), some (.int y3), some (.int z1)]) dX11_year_91 rfl rfl (by decide) rfl (fun _ => rfl) h (fun z1 h => ?_)
    refine a_goto C dX11_year_94 (tgt := 28) rfl ?_
    exact hk28 _ _ _ _ _ h
  have j28 : ∀ (n : Nat) (y1 : Int32) (y2 : Int32) (y3 : Int32) (y4 : Int32) (σ : HS), f_X11_year_28 n y1 y2 y3 y4 σ = some R → AW ids ad ca Γ 28 [some (.ref (ad 0)), some (.int y1), some (.int y2), some (.int y3), some (.int y4)] [] σ := by
    intro n
    induction n with
    | zero => intro y1 y2 y3 y4 σ h; exact nn h
    | succ n ih =>
      intro y1 y2 y3 y4 σ h
      have h : b_X11_year_28 (f_X11_year_28 n) y1 y2 y3 y4 σ = some R := h
      unfold b_X11_year_28 at h
      refine a_iload C dX11_year_28 rfl ?_
      refine a_iload_n C dX11_year_30 (i := 2) rfl rfl ?_
      refine p_ic_ge C (X := y4.toInt) (Y := y2.toInt) rfl rfl dX11_year_31 (tgt := 97) rfl h (fun h => ?_) (fun h => ?_)
      ·
        refine a_iload_n C dX11_year_97 (i := 3) rfl rfl ?_
        exact a_iret Rt dX11_year_98 rfl (ret_eq (h.trans (congrArg some hR.symm)))
      ·
        refine a_aload_n C dX11_year_34 (i := 0) rfl rfl ?_
        refine a_get C fl_RX11_58 (i := 0) kd_0 (hid 0 (by decide)) (v := .ref (ad 60)) rfl dX11_year_35 ?_
        refine a_aload_n C dX11_year_38 (i := 0) rfl rfl ?_
        refine a_get C fl_RX11_54 (i := 0) kd_0 (hid 0 (by decide)) (v := .ref (ad 56)) rfl dX11_year_39 ?_
        refine p_callVv C (As := [.ref (ad 56)]) (i := 60) (show airOK 60 from airOK_of 1 (by decide)).1.1 (hid _ (show airOK 60 from airOK_of 1 (by decide)).1.2) ⟨_, _, rfl⟩ (by decide) h (fun _ e => Z_X0_copy hid (show airOK 60 from airOK_of 1 (by decide)) (show airOK 56 from airOK_of 0 (by decide)) e) mi_X0_copy ml_RX11_230 rfl rfl (Nat.le_of_ble_eq_true rfl) (Nat.le_of_ble_eq_true rfl) (Nat.le_of_ble_eq_true rfl) dX11_year_42 (fun σ1 h => ?_)
        refine a_aload_n C dX11_year_45 (i := 0) rfl rfl ?_
        refine a_get C fl_RX11_19 (i := 0) kd_0 (hid 0 (by decide)) (v := .ref (ad 8)) rfl dX11_year_46 ?_
        refine a_aload_n C dX11_year_49 (i := 0) rfl rfl ?_
        refine p_getT C fl_RX11_82 (tx := (σ1.2.2 0)) kd_0 (hid 0 (by decide)) (fun t e => by subst e; rfl) dX11_year_50 h (fun ht3 h => ?_)
        refine a_aload_n C dX11_year_53 (i := 0) rfl rfl ?_
        refine a_get C fl_RX11_58 (i := 0) kd_0 (hid 0 (by decide)) (v := .ref (ad 60)) rfl dX11_year_54 ?_
        refine a_iload_n C dX11_year_57 (i := 1) rfl rfl ?_
        refine a_aload_n C dX11_year_58 (i := 0) rfl rfl ?_
        refine p_getT C fl_RX11_82 (tx := (σ1.2.2 0)) kd_0 (hid 0 (by decide)) (fun t e => by subst e; rfl) dX11_year_59 h (fun ht4 h => ?_)
        refine a_get C fl_RX11_220 (i := ((σ1.2.2 0))) ht4.1.1 (hid _ ht4.1.2) (v := .int (σ1.1 ((σ1.2.2 0)) 11)) rfl dX11_year_62 ?_
        refine a_iload C dX11_year_65 rfl ?_
        refine a_iadd C dX11_year_67 ?_
        refine p_callVv C (As := [.ref (ad ((σ1.2.2 0))), .ref (ad 60), .int y1, .int ((σ1.1 ((σ1.2.2 0)) 11) + y4)]) (i := 8) kd_8 (hid 8 (by decide)) ⟨_, _, rfl⟩ (by decide) h (fun _ e => Z_X4_goOn hid ht3 (show airOK 60 from airOK_of 1 (by decide)) e) mi_X4_goOn ml_RX11_223 rfl rfl (Nat.le_of_ble_eq_true rfl) (Nat.le_of_ble_eq_true rfl) (Nat.le_of_ble_eq_true rfl) dX11_year_68 (fun σ5 h => ?_)
        refine a_aload_n C dX11_year_71 (i := 0) rfl rfl ?_
        refine a_get C fl_RX11_58 (i := 0) kd_0 (hid 0 (by decide)) (v := .ref (ad 60)) rfl dX11_year_72 ?_
        refine a_get C fl_RX11_184 (i := 60) (show airOK 60 from airOK_of 1 (by decide)).1.1 (hid _ (show airOK 60 from airOK_of 1 (by decide)).1.2) (v := .int (σ5.1 60 6)) rfl dX11_year_75 ?_
        refine a_aload_n C dX11_year_78 (i := 0) rfl rfl ?_
        refine a_get C fl_RX11_54 (i := 0) kd_0 (hid 0 (by decide)) (v := .ref (ad 56)) rfl dX11_year_79 ?_
        refine a_get C fl_RX11_184 (i := 56) (show airOK 56 from airOK_of 0 (by decide)).1.1 (hid _ (show airOK 56 from airOK_of 0 (by decide)).1.2) (v := .int (σ5.1 56 6)) rfl dX11_year_82 ?_
        refine p_ic_ne C (X := (σ5.1 60 6).toInt) (Y := (σ5.1 56 6).toInt) rfl rfl dX11_year_85 (tgt := 91) rfl h (fun h => ?_) (fun h => ?_)
        ·
          exact j91 (f_X11_year_28 n) (fun y1 y2 y3 y4 σ h => ih y1 y2 y3 y4 σ h) _ _ _ _ _ h
        ·
          refine p_iinc C (y := (y3 + 1)) (fun z7 => [some (.ref (ad 0)), some (.int y1), some (.int y2), some (.int z7), some (.int y4)]) dX11_year_88 rfl rfl (by decide) rfl (fun _ => rfl) h (fun z7 h => ?_)
          exact j91 (f_X11_year_28 n) (fun y1 y2 y3 y4 σ h => ih y1 y2 y3 y4 σ h) _ _ _ _ _ h
  refine a_iload_n C dX11_year_0 (i := 1) rfl rfl ?_
  refine p_if_lt C (X := x1.toInt) rfl dX11_year_1 (tgt := 21) rfl h (fun h => ?_) (fun h => ?_)
  ·
    refine a_iconst C dX11_year_21 (v := (-1)) rfl ?_
    exact a_iret Rt dX11_year_22 rfl (ret_eq (h.trans (congrArg some hR.symm)))
  ·
    refine a_iload_n C dX11_year_4 (i := 1) rfl rfl ?_
    refine a_bipush C dX11_year_5 (v := 60) rfl ?_
    refine p_ic_gt C (X := x1.toInt) (Y := 60) rfl (by decide) dX11_year_7 (tgt := 21) rfl h (fun h => ?_) (fun h => ?_)
    ·
      refine a_iconst C dX11_year_21 (v := (-1)) rfl ?_
      exact a_iret Rt dX11_year_22 rfl (ret_eq (h.trans (congrArg some hR.symm)))
    ·
      refine a_iload_n C dX11_year_10 (i := 2) rfl rfl ?_
      refine a_iconst C dX11_year_11 (v := 1) rfl ?_
      refine p_ic_lt C (X := x2.toInt) (Y := 1) rfl (by decide) dX11_year_12 (tgt := 21) rfl h (fun h => ?_) (fun h => ?_)
      ·
        refine a_iconst C dX11_year_21 (v := (-1)) rfl ?_
        exact a_iret Rt dX11_year_22 rfl (ret_eq (h.trans (congrArg some hR.symm)))
      ·
        refine a_iload_n C dX11_year_15 (i := 2) rfl rfl ?_
        refine a_bipush C dX11_year_16 (v := 20) rfl ?_
        refine p_ic_le C (X := x2.toInt) (Y := 20) rfl (by decide) dX11_year_18 (tgt := 23) rfl h (fun h => ?_) (fun h => ?_)
        ·
          refine a_iconst C dX11_year_23 (v := 0) rfl ?_
          refine a_istore_n C dX11_year_24 (i := 3) rfl (by decide) rfl (vs1 := [some (.ref (ad 0)), some (.int x1), some (.int x2), some (.int 0), none]) rfl ?_
          refine a_iconst C dX11_year_25 (v := 0) rfl ?_
          refine a_istore C dX11_year_26 (by decide) rfl (vs1 := [some (.ref (ad 0)), some (.int x1), some (.int x2), some (.int 0), some (.int 0)]) rfl ?_
          exact j28 _ _ _ _ _ _ h
        ·
          refine a_iconst C dX11_year_21 (v := (-1)) rfl ?_
          exact a_iret Rt dX11_year_22 rfl (ret_eq (h.trans (congrArg some hR.symm)))
set_option maxHeartbeats 4000000 in
set_option maxRecDepth 100000 in
theorem Z_X11_tell {l : Launch} {D : va_G} {ids : List Nat} {ad : Nat → Nat} {ca : Nat → ClassId} {σ : HS} {x1 : Int32} {x2 : Int32} {r0 : Int32} {s0 : HS} (hid : ∀ i, i < 277 → i ∈ ids) (h : f_X11_tell x1 x2 σ = some (r0, s0)) : Ki l D ids ad ca yX11_tell cX11_tell 3 .int 1 22 [.ref (ad 0), .int x1, .int x2] σ (fun r σ1 => r = r0 ∧ σ1 = s0) := by
  obtain ⟨R, hR⟩ : ∃ R, (r0, s0) = R := ⟨_, rfl⟩
  replace h := h.trans (congrArg some hR)
  refine Ki.of (by decide) (Nat.le_of_ble_eq_true rfl) 0 (fun Γ C Rt => ?_)
  show AW ids ad ca Γ 0 [some (.ref (ad 0)), some (.int x1), some (.int x2)] [] σ
  unfold f_X11_tell at h
  refine a_iload_n C dX11_tell_0 (i := 1) rfl rfl ?_
  refine p_if_lt C (X := x1.toInt) rfl dX11_tell_1 (tgt := 10) rfl h (fun h => ?_) (fun h => ?_)
  ·
    refine a_iconst C dX11_tell_10 (v := (-1)) rfl ?_
    exact a_iret Rt dX11_tell_11 rfl (ret_eq (h.trans (congrArg some hR.symm)))
  ·
    refine a_iload_n C dX11_tell_4 (i := 1) rfl rfl ?_
    refine a_bipush C dX11_tell_5 (v := 40) rfl ?_
    refine p_ic_le C (X := x1.toInt) (Y := 40) rfl (by decide) dX11_tell_7 (tgt := 12) rfl h (fun h => ?_) (fun h => ?_)
    ·
      refine a_aload_n C dX11_tell_12 (i := 0) rfl rfl ?_
      refine a_get C fl_RX11_33 (i := 0) kd_0 (hid 0 (by decide)) (v := .ref (ad 14)) rfl dX11_tell_13 ?_
      refine a_iload_n C dX11_tell_16 (i := 1) rfl rfl ?_
      refine a_iload_n C dX11_tell_17 (i := 2) rfl rfl ?_
      refine p_callVi C (As := [.int x1, .int x2]) (i := 14) kd_14 (hid 14 (by decide)) ⟨_, _, rfl⟩ (by decide) h (fun _ _ e => Z_X2_add hid e) mi_X2_add ml_RX11_322 rfl rfl (Nat.le_of_ble_eq_true rfl) (Nat.le_of_ble_eq_true rfl) (Nat.le_of_ble_eq_true rfl) dX11_tell_18 (fun r2 σ1 h => ?_)
      exact a_iret Rt dX11_tell_21 rfl (ret_eq (h.trans (congrArg some hR.symm)))
    ·
      refine a_iconst C dX11_tell_10 (v := (-1)) rfl ?_
      exact a_iret Rt dX11_tell_11 rfl (ret_eq (h.trans (congrArg some hR.symm)))
set_option maxHeartbeats 4000000 in
set_option maxRecDepth 100000 in
theorem Z_X11_forget {l : Launch} {D : va_G} {ids : List Nat} {ad : Nat → Nat} {ca : Nat → ClassId} {σ : HS} {r0 : Int32} {s0 : HS} (hid : ∀ i, i < 277 → i ∈ ids) (h : f_X11_forget σ = some (r0, s0)) : Ki l D ids ad ca yX11_forget cX11_forget 2 .int 0 0 [.ref (ad 0)] σ (fun r σ1 => r = r0 ∧ σ1 = s0) := by
  obtain ⟨R, hR⟩ : ∃ R, (r0, s0) = R := ⟨_, rfl⟩
  replace h := h.trans (congrArg some hR)
  refine Ki.of (by decide) (Nat.le_of_ble_eq_true rfl) 1 (fun Γ C Rt => ?_)
  show AW ids ad ca Γ 0 [some (.ref (ad 0)), none] [] σ
  unfold f_X11_forget at h
  refine a_aload_n C dX11_forget_0 (i := 0) rfl rfl ?_
  refine a_get C fl_RX11_33 (i := 0) kd_0 (hid 0 (by decide)) (v := .ref (ad 14)) rfl dX11_forget_1 ?_
  refine a_get C fl_RX11_117 (i := 14) kd_14 (hid 14 (by decide)) (v := .int (σ.1 14 2)) rfl dX11_forget_4 ?_
  refine p_istore_n C (fun z1 => [some (.ref (ad 0)), some (.int z1)]) dX11_forget_7 (i := 1) rfl (by decide) rfl (fun _ => rfl) h (fun z1 h => ?_)
  refine a_aload_n C dX11_forget_8 (i := 0) rfl rfl ?_
  refine a_get C fl_RX11_33 (i := 0) kd_0 (hid 0 (by decide)) (v := .ref (ad 14)) rfl dX11_forget_9 ?_
  refine a_iconst C dX11_forget_12 (v := 0) rfl ?_
  refine p_put C fp_RX11_117 (i := 14) kd_14 (hid 14 (by decide)) rfl rfl dX11_forget_13 h (fun σ2 h => ?_)
  refine a_iload_n C dX11_forget_16 (i := 1) rfl rfl ?_
  exact a_iret Rt dX11_forget_17 rfl (ret_eq (h.trans (congrArg some hR.symm)))
set_option maxHeartbeats 4000000 in
set_option maxRecDepth 100000 in
theorem Z_X11_glitters {l : Launch} {D : va_G} {ids : List Nat} {ad : Nat → Nat} {ca : Nat → ClassId} {σ : HS} {x1 : Int32} {x2 : Int32} {r0 : Int32} {s0 : HS} (hid : ∀ i, i < 277 → i ∈ ids) (h : f_X11_glitters x1 x2 σ = some (r0, s0)) : Ki l D ids ad ca yX11_glitters cX11_glitters 4 .int 7 168 [.ref (ad 0), .int x1, .int x2] σ (fun r σ1 => r = r0 ∧ σ1 = s0) := by
  obtain ⟨R, hR⟩ : ∃ R, (r0, s0) = R := ⟨_, rfl⟩
  replace h := h.trans (congrArg some hR)
  refine Ki.of (by decide) (Nat.le_of_ble_eq_true rfl) 1 (fun Γ C Rt => ?_)
  show AW ids ad ca Γ 0 [some (.ref (ad 0)), some (.int x1), some (.int x2), none] [] σ
  unfold f_X11_glitters at h
  refine a_iload_n C dX11_glitters_0 (i := 1) rfl rfl ?_
  refine p_if_lt C (X := x1.toInt) rfl dX11_glitters_1 (tgt := 24) rfl h (fun h => ?_) (fun h => ?_)
  ·
    refine a_iconst C dX11_glitters_24 (v := (-1)) rfl ?_
    exact a_iret Rt dX11_glitters_25 rfl (ret_eq (h.trans (congrArg some hR.symm)))
  ·
    refine a_iload_n C dX11_glitters_4 (i := 1) rfl rfl ?_
    refine a_aload_n C dX11_glitters_5 (i := 0) rfl rfl ?_
    refine a_get C fl_RX11_33 (i := 0) kd_0 (hid 0 (by decide)) (v := .ref (ad 14)) rfl dX11_glitters_6 ?_
    refine a_get C fl_RX11_117 (i := 14) kd_14 (hid 14 (by decide)) (v := .int (σ.1 14 2)) rfl dX11_glitters_9 ?_
    refine p_ic_gt C (X := x1.toInt) (Y := (σ.1 14 2).toInt) rfl rfl dX11_glitters_12 (tgt := 24) rfl h (fun h => ?_) (fun h => ?_)
    ·
      refine a_iconst C dX11_glitters_24 (v := (-1)) rfl ?_
      exact a_iret Rt dX11_glitters_25 rfl (ret_eq (h.trans (congrArg some hR.symm)))
    ·
      refine a_iload_n C dX11_glitters_15 (i := 2) rfl rfl ?_
      refine p_if_lt C (X := x2.toInt) rfl dX11_glitters_16 (tgt := 24) rfl h (fun h => ?_) (fun h => ?_)
      ·
        refine a_iconst C dX11_glitters_24 (v := (-1)) rfl ?_
        exact a_iret Rt dX11_glitters_25 rfl (ret_eq (h.trans (congrArg some hR.symm)))
      ·
        refine a_iload_n C dX11_glitters_19 (i := 2) rfl rfl ?_
        refine a_iconst C dX11_glitters_20 (v := 1) rfl ?_
        refine p_ic_le C (X := x2.toInt) (Y := 1) rfl (by decide) dX11_glitters_21 (tgt := 26) rfl h (fun h => ?_) (fun h => ?_)
        ·
          refine a_aload_n C dX11_glitters_26 (i := 0) rfl rfl ?_
          refine a_bipush C dX11_glitters_27 (v := 41) rfl ?_
          refine p_callVv C (As := [.int 41]) (i := 0) kd_0 (hid 0 (by decide)) ⟨_, _, rfl⟩ (by decide) h (fun _ e => Z_X11_findHands hid e) mi_X11_findHands ml_RX11_279 rfl rfl (Nat.le_of_ble_eq_true rfl) (Nat.le_of_ble_eq_true rfl) (Nat.le_of_ble_eq_true rfl) dX11_glitters_29 (fun σ1 h => ?_)
          refine a_aload_n C dX11_glitters_32 (i := 0) rfl rfl ?_
          refine a_get C fl_RX11_33 (i := 0) kd_0 (hid 0 (by decide)) (v := .ref (ad 14)) rfl dX11_glitters_33 ?_
          refine a_aload_n C dX11_glitters_36 (i := 0) rfl rfl ?_
          refine a_get C fl_RX11_54 (i := 0) kd_0 (hid 0 (by decide)) (v := .ref (ad 56)) rfl dX11_glitters_37 ?_
          refine a_iconst C dX11_glitters_40 (v := 0) rfl ?_
          refine p_callVi C (As := [.int 0]) (i := 56) (show airOK 56 from airOK_of 0 (by decide)).1.1 (hid _ (show airOK 56 from airOK_of 0 (by decide)).1.2) ⟨_, _, rfl⟩ (by decide) h (fun _ _ e => Z_X0_bitsOf hid (show airOK 56 from airOK_of 0 (by decide)) e) mi_X0_bitsOf ml_RX11_180 rfl rfl (Nat.le_of_ble_eq_true rfl) (Nat.le_of_ble_eq_true rfl) (Nat.le_of_ble_eq_true rfl) dX11_glitters_41 (fun r4 σ3 h => ?_)
          refine a_iload_n C dX11_glitters_44 (i := 1) rfl rfl ?_
          refine a_aload_n C dX11_glitters_45 (i := 0) rfl rfl ?_
          refine a_get C fl_RX11_69 (i := 0) kd_0 (hid 0 (by decide)) (v := .ref (ad 27)) rfl dX11_glitters_46 ?_
          refine p_callVi C (As := [.int r4, .int x1, .ref (ad 27)]) (i := 14) kd_14 (hid 14 (by decide)) ⟨_, _, rfl⟩ (by decide) h (fun _ _ e => Z_X2_agreeing hid (show rowOK 27 from ⟨kd_27, by decide⟩) e) mi_X2_agreeing ml_RX11_326 rfl rfl (Nat.le_of_ble_eq_true rfl) (Nat.le_of_ble_eq_true rfl) (Nat.le_of_ble_eq_true rfl) dX11_glitters_49 (fun r6 σ5 h => ?_)
          refine a_istore_n C dX11_glitters_52 (i := 3) rfl (by decide) rfl (vs1 := [some (.ref (ad 0)), some (.int x1), some (.int x2), some (.int r6)]) rfl ?_
          refine a_iload_n C dX11_glitters_53 (i := 2) rfl rfl ?_
          refine p_if_ne C (X := x2.toInt) rfl dX11_glitters_54 (tgt := 64) rfl h (fun h => ?_) (fun h => ?_)
          ·
            refine a_iload_n C dX11_glitters_64 (i := 3) rfl rfl ?_
            exact a_iret Rt dX11_glitters_65 rfl (ret_eq (h.trans (congrArg some hR.symm)))
          ·
            refine a_iload_n C dX11_glitters_57 (i := 3) rfl rfl ?_
            refine p_callSi C (As := [.int r6]) h (fun _ _ e => Z_J6_bitCount_0f7a4 hid e) ms_J6_bitCount_0f7a4 ml_RX11_330 rfl rfl (Nat.le_of_ble_eq_true rfl) (Nat.le_of_ble_eq_true rfl) (Nat.le_of_ble_eq_true rfl) dX11_glitters_58 (fun r8 σ7 h => ?_)
            refine a_goto C dX11_glitters_61 (tgt := 65) rfl ?_
            exact a_iret Rt dX11_glitters_65 rfl (ret_eq (h.trans (congrArg some hR.symm)))
        ·
          refine a_iconst C dX11_glitters_24 (v := (-1)) rfl ?_
          exact a_iret Rt dX11_glitters_25 rfl (ret_eq (h.trans (congrArg some hR.symm)))
set_option maxHeartbeats 4000000 in
set_option maxRecDepth 100000 in
theorem Z_X11_watch {l : Launch} {D : va_G} {ids : List Nat} {ad : Nat → Nat} {ca : Nat → ClassId} {σ : HS} {x1 : Int32} {r0 : Int32} {s0 : HS} (hid : ∀ i, i < 277 → i ∈ ids) (h : f_X11_watch x1 σ = some (r0, s0)) : Ki l D ids ad ca yX11_watch cX11_watch 8 .int 7 168 [.ref (ad 0), .int x1] σ (fun r σ1 => r = r0 ∧ σ1 = s0) := by
  obtain ⟨R, hR⟩ : ∃ R, (r0, s0) = R := ⟨_, rfl⟩
  replace h := h.trans (congrArg some hR)
  refine Ki.of (by decide) (Nat.le_of_ble_eq_true rfl) 6 (fun Γ C Rt => ?_)
  show AW ids ad ca Γ 0 [some (.ref (ad 0)), some (.int x1), none, none, none, none, none, none] [] σ
  unfold f_X11_watch at h
  have j128 : ∀ (k60 : Int32 → Int32 → Int32 → Int32 → HS → Option (Int32 × HS)) (hk60 : ∀ (y2 : Int32) (y3 : Int32) (y4 : Int32) (y5 : Int32) (σ : HS), k60 y2 y3 y4 y5 σ = some R → AW ids ad ca Γ 60 [some (.ref (ad 0)), none, some (.int y2), some (.int y3), some (.int y4), some (.int y5), none, none] [] σ) (y2 : Int32) (y3 : Int32) (y4 : Int32) (y5 : Int32) (σ : HS), f_X11_watch_128 k60 y2 y3 y4 y5 σ = some R → AW ids ad ca Γ 128 [some (.ref (ad 0)), none, some (.int y2), some (.int y3), some (.int y4), some (.int y5), none, none] [] σ := by
    intro k60 hk60 y2 y3 y4 y5 σ h
    unfold f_X11_watch_128 at h
    refine p_iinc C (y := (y5 + 1)) (fun z1 => [some (.ref (ad 0)), none, some (.int y2), some (.int y3), some (.int y4), some (.int z1), none, none]) dX11_watch_128 rfl rfl (by decide) rfl (fun _ => rfl) h (fun z1 h => ?_)
    refine a_goto C dX11_watch_131 (tgt := 60) rfl ?_
    exact hk60 _ _ _ _ _ h
  have j91 : ∀ (k60 : Int32 → Int32 → Int32 → Int32 → HS → Option (Int32 × HS)) (hk60 : ∀ (y2 : Int32) (y3 : Int32) (y4 : Int32) (y5 : Int32) (σ : HS), k60 y2 y3 y4 y5 σ = some R → AW ids ad ca Γ 60 [some (.ref (ad 0)), none, some (.int y2), some (.int y3), some (.int y4), some (.int y5), none, none] [] σ) (y2 : Int32) (y3 : Int32) (y4 : Int32) (y5 : Int32) (v0 : Int32) (σ : HS), f_X11_watch_91 k60 y2 y3 y4 y5 v0 σ = some R → AW ids ad ca Γ 91 [some (.ref (ad 0)), none, some (.int y2), some (.int y3), some (.int y4), some (.int y5), none, none] [.int v0] σ := by
    intro k60 hk60 y2 y3 y4 y5 v0 σ h
    unfold f_X11_watch_91 at h
    refine a_istore C dX11_watch_91 (by decide) rfl (vs1 := [some (.ref (ad 0)), none, some (.int y2), some (.int y3), some (.int y4), some (.int y5), some (.int v0), none]) rfl ?_
    refine a_iload_n C dX11_watch_93 (i := 2) rfl rfl ?_
    refine a_iload C dX11_watch_94 rfl ?_
    refine a_iand C dX11_watch_96 ?_
    refine p_callSi C (As := [.int (y2 &&& v0)]) h (fun _ _ e => Z_J6_bitCount_0f7a4 hid e) ms_J6_bitCount_0f7a4 ml_RX11_330 rfl rfl (Nat.le_of_ble_eq_true rfl) (Nat.le_of_ble_eq_true rfl) (Nat.le_of_ble_eq_true rfl) dX11_watch_97 (fun r2 σ1 h => ?_)
    refine a_iload_n C dX11_watch_100 (i := 2) rfl rfl ?_
    refine a_iload C dX11_watch_101 rfl ?_
    refine a_iconst C dX11_watch_103 (v := (-1)) rfl ?_
    refine a_ixor C dX11_watch_104 ?_
    refine a_iand C dX11_watch_105 ?_
    refine p_callSi C (As := [.int (y2 &&& (v0 ^^^ ((-1) : Int32)))]) h (fun _ _ e => Z_J6_bitCount_0f7a4 hid e) ms_J6_bitCount_0f7a4 ml_RX11_330 rfl rfl (Nat.le_of_ble_eq_true rfl) (Nat.le_of_ble_eq_true rfl) (Nat.le_of_ble_eq_true rfl) dX11_watch_106 (fun r4 σ3 h => ?_)
    refine a_mmax C dX11_watch_109 mm_RX11_335 mm_max.1 mm_max.2.1 mm_max.2.2 (Nat.le_of_ble_eq_true rfl) (Nat.le_of_ble_eq_true rfl) ?_
    refine p_istore C (fun z5 => [some (.ref (ad 0)), none, some (.int y2), some (.int y3), some (.int y4), some (.int y5), some (.int v0), some (.int z5)]) dX11_watch_112 (by decide) rfl (fun _ => rfl) h (fun z5 h => ?_)
    refine a_iload C dX11_watch_114 rfl ?_
    refine a_iload C dX11_watch_116 rfl ?_
    refine p_ic_ge C (X := z5.toInt) (Y := y4.toInt) rfl rfl dX11_watch_118 (tgt := 128) rfl h (fun h => ?_) (fun h => ?_)
    ·
      refine AW.sub (vs' := [some (.ref (ad 0)), none, some (.int y2), some (.int y3), some (.int y4), some (.int y5), none, none]) (lsub_of (by simp [lsubB])) ?_
      exact j128 k60 hk60 _ _ _ _ _ h
    ·
      refine a_iload C dX11_watch_121 rfl ?_
      refine a_istore C dX11_watch_123 (by decide) rfl (vs1 := [some (.ref (ad 0)), none, some (.int y2), some (.int y3), some (.int z5), some (.int y5), some (.int v0), some (.int z5)]) rfl ?_
      refine a_iload C dX11_watch_125 rfl ?_
      refine a_istore_n C dX11_watch_127 (i := 3) rfl (by decide) rfl (vs1 := [some (.ref (ad 0)), none, some (.int y2), some (.int y5), some (.int z5), some (.int y5), some (.int v0), some (.int z5)]) rfl ?_
      refine AW.sub (vs' := [some (.ref (ad 0)), none, some (.int y2), some (.int y5), some (.int z5), some (.int y5), none, none]) (lsub_of (by simp [lsubB])) ?_
      exact j128 k60 hk60 _ _ _ _ _ h
  have j60 : ∀ (n : Nat) (y2 : Int32) (y3 : Int32) (y4 : Int32) (y5 : Int32) (σ : HS), f_X11_watch_60 n y2 y3 y4 y5 σ = some R → AW ids ad ca Γ 60 [some (.ref (ad 0)), none, some (.int y2), some (.int y3), some (.int y4), some (.int y5), none, none] [] σ := by
    intro n
    induction n with
    | zero => intro y2 y3 y4 y5 σ h; exact nn h
    | succ n ih =>
      intro y2 y3 y4 y5 σ h
      have h : b_X11_watch_60 (f_X11_watch_60 n) y2 y3 y4 y5 σ = some R := h
      unfold b_X11_watch_60 at h
      refine a_iload C dX11_watch_60 rfl ?_
      refine a_bipush C dX11_watch_62 (v := 40) rfl ?_
      refine p_ic_gt C (X := y5.toInt) (Y := 40) rfl (by decide) dX11_watch_64 (tgt := 134) rfl h (fun h => ?_) (fun h => ?_)
      ·
        refine a_iload_n C dX11_watch_134 (i := 3) rfl rfl ?_
        exact a_iret Rt dX11_watch_135 rfl (ret_eq (h.trans (congrArg some hR.symm)))
      ·
        refine a_aload_n C dX11_watch_67 (i := 0) rfl rfl ?_
        refine a_get C fl_RX11_69 (i := 0) kd_0 (hid 0 (by decide)) (v := .ref (ad 27)) rfl dX11_watch_68 ?_
        refine a_iload C dX11_watch_71 rfl ?_
        refine p_iald C (i := 27) (show rowOK 27 from ⟨kd_27, by decide⟩) hid (by rw [al_27]; rfl) dX11_watch_73 h (fun h => ?_)
        refine a_iconst C dX11_watch_74 (v := (-1)) rfl ?_
        refine p_ic_ne C (X := (σ.1 27 y5.toInt.toNat).toInt) (Y := (-1)) rfl (by decide) dX11_watch_75 (tgt := 82) rfl h (fun h => ?_) (fun h => ?_)
        ·
          refine a_iconst C dX11_watch_82 (v := 1) rfl ?_
          refine a_aload_n C dX11_watch_83 (i := 0) rfl rfl ?_
          refine a_get C fl_RX11_69 (i := 0) kd_0 (hid 0 (by decide)) (v := .ref (ad 27)) rfl dX11_watch_84 ?_
          refine a_iload C dX11_watch_87 rfl ?_
          refine p_iald C (i := 27) (show rowOK 27 from ⟨kd_27, by decide⟩) hid (by rw [al_27]; rfl) dX11_watch_89 h (fun h => ?_)
          refine a_ishl C dX11_watch_90 ?_
          exact j91 (f_X11_watch_60 n) (fun y2 y3 y4 y5 σ h => ih y2 y3 y4 y5 σ h) _ _ _ _ _ _ h
        ·
          refine a_iconst C dX11_watch_78 (v := 0) rfl ?_
          refine a_goto C dX11_watch_79 (tgt := 91) rfl ?_
          exact j91 (f_X11_watch_60 n) (fun y2 y3 y4 y5 σ h => ih y2 y3 y4 y5 σ h) _ _ _ _ _ _ h
  refine a_iload_n C dX11_watch_0 (i := 1) rfl rfl ?_
  refine p_if_lt C (X := x1.toInt) rfl dX11_watch_1 (tgt := 15) rfl h (fun h => ?_) (fun h => ?_)
  ·
    refine a_iconst C dX11_watch_15 (v := (-1)) rfl ?_
    exact a_iret Rt dX11_watch_16 rfl (ret_eq (h.trans (congrArg some hR.symm)))
  ·
    refine a_iload_n C dX11_watch_4 (i := 1) rfl rfl ?_
    refine a_aload_n C dX11_watch_5 (i := 0) rfl rfl ?_
    refine a_get C fl_RX11_33 (i := 0) kd_0 (hid 0 (by decide)) (v := .ref (ad 14)) rfl dX11_watch_6 ?_
    refine a_get C fl_RX11_117 (i := 14) kd_14 (hid 14 (by decide)) (v := .int (σ.1 14 2)) rfl dX11_watch_9 ?_
    refine p_ic_le C (X := x1.toInt) (Y := (σ.1 14 2).toInt) rfl rfl dX11_watch_12 (tgt := 17) rfl h (fun h => ?_) (fun h => ?_)
    ·
      refine a_aload_n C dX11_watch_17 (i := 0) rfl rfl ?_
      refine a_bipush C dX11_watch_18 (v := 41) rfl ?_
      refine p_callVv C (As := [.int 41]) (i := 0) kd_0 (hid 0 (by decide)) ⟨_, _, rfl⟩ (by decide) h (fun _ e => Z_X11_findHands hid e) mi_X11_findHands ml_RX11_279 rfl rfl (Nat.le_of_ble_eq_true rfl) (Nat.le_of_ble_eq_true rfl) (Nat.le_of_ble_eq_true rfl) dX11_watch_20 (fun σ1 h => ?_)
      refine a_aload_n C dX11_watch_23 (i := 0) rfl rfl ?_
      refine a_get C fl_RX11_33 (i := 0) kd_0 (hid 0 (by decide)) (v := .ref (ad 14)) rfl dX11_watch_24 ?_
      refine a_aload_n C dX11_watch_27 (i := 0) rfl rfl ?_
      refine a_get C fl_RX11_54 (i := 0) kd_0 (hid 0 (by decide)) (v := .ref (ad 56)) rfl dX11_watch_28 ?_
      refine a_iconst C dX11_watch_31 (v := 0) rfl ?_
      refine p_callVi C (As := [.int 0]) (i := 56) (show airOK 56 from airOK_of 0 (by decide)).1.1 (hid _ (show airOK 56 from airOK_of 0 (by decide)).1.2) ⟨_, _, rfl⟩ (by decide) h (fun _ _ e => Z_X0_bitsOf hid (show airOK 56 from airOK_of 0 (by decide)) e) mi_X0_bitsOf ml_RX11_180 rfl rfl (Nat.le_of_ble_eq_true rfl) (Nat.le_of_ble_eq_true rfl) (Nat.le_of_ble_eq_true rfl) dX11_watch_32 (fun r4 σ3 h => ?_)
      refine a_iload_n C dX11_watch_35 (i := 1) rfl rfl ?_
      refine a_aload_n C dX11_watch_36 (i := 0) rfl rfl ?_
      refine a_get C fl_RX11_69 (i := 0) kd_0 (hid 0 (by decide)) (v := .ref (ad 27)) rfl dX11_watch_37 ?_
      refine p_callVi C (As := [.int r4, .int x1, .ref (ad 27)]) (i := 14) kd_14 (hid 14 (by decide)) ⟨_, _, rfl⟩ (by decide) h (fun _ _ e => Z_X2_agreeing hid (show rowOK 27 from ⟨kd_27, by decide⟩) e) mi_X2_agreeing ml_RX11_326 rfl rfl (Nat.le_of_ble_eq_true rfl) (Nat.le_of_ble_eq_true rfl) (Nat.le_of_ble_eq_true rfl) dX11_watch_40 (fun r6 σ5 h => ?_)
      refine a_istore_n C dX11_watch_43 (i := 2) rfl (by decide) rfl (vs1 := [some (.ref (ad 0)), some (.int x1), some (.int r6), none, none, none, none, none]) rfl ?_
      refine a_iload_n C dX11_watch_44 (i := 2) rfl rfl ?_
      refine p_if_ne C (X := r6.toInt) rfl dX11_watch_45 (tgt := 51) rfl h (fun h => ?_) (fun h => ?_)
      ·
        refine a_iconst C dX11_watch_51 (v := 0) rfl ?_
        refine a_istore_n C dX11_watch_52 (i := 3) rfl (by decide) rfl (vs1 := [some (.ref (ad 0)), some (.int x1), some (.int r6), some (.int 0), none, none, none, none]) rfl ?_
        refine a_bipush C dX11_watch_53 (v := 8) rfl ?_
        refine a_istore C dX11_watch_55 (by decide) rfl (vs1 := [some (.ref (ad 0)), some (.int x1), some (.int r6), some (.int 0), some (.int 8), none, none, none]) rfl ?_
        refine a_iconst C dX11_watch_57 (v := 0) rfl ?_
        refine a_istore C dX11_watch_58 (by decide) rfl (vs1 := [some (.ref (ad 0)), some (.int x1), some (.int r6), some (.int 0), some (.int 8), some (.int 0), none, none]) rfl ?_
        refine AW.sub (vs' := [some (.ref (ad 0)), none, some (.int r6), some (.int 0), some (.int 8), some (.int 0), none, none]) (lsub_of (by simp [lsubB])) ?_
        exact j60 _ _ _ _ _ _ h
      ·
        refine a_bipush C dX11_watch_48 (v := (-2)) rfl ?_
        exact a_iret Rt dX11_watch_50 rfl (ret_eq (h.trans (congrArg some hR.symm)))
    ·
      refine a_iconst C dX11_watch_15 (v := (-1)) rfl ?_
      exact a_iret Rt dX11_watch_16 rfl (ret_eq (h.trans (congrArg some hR.symm)))
set_option maxHeartbeats 4000000 in
set_option maxRecDepth 100000 in
theorem Z_X12_put {l : Launch} {D : va_G} {ids : List Nat} {ad : Nat → Nat} {ca : Nat → ClassId} {σ : HS} {x1 : Int32} {s0 : HS} (hid : ∀ i, i < 277 → i ∈ ids) (h : f_X12_put x1 σ = some s0) : Kv l D ids ad ca yX12_put cX12_put 3 0 0 [.ref (ad 236), .int x1] σ (fun σ1 => σ1 = s0) := by
  obtain ⟨R, hR⟩ : ∃ R, s0 = R := ⟨_, rfl⟩
  replace h := h.trans (congrArg some hR)
  refine Kv.of (by decide) (Nat.le_of_ble_eq_true rfl) 1 (fun Γ C Rt => ?_)
  show AW ids ad ca Γ 0 [some (.ref (ad 236)), some (.int x1), none] [] σ
  unfold f_X12_put at h
  have j3 : ∀ (n : Nat) (y1 : Int32) (y2 : Int32) (σ : HS), f_X12_put_3 n y1 y2 σ = some R → AW ids ad ca Γ 3 [some (.ref (ad 236)), some (.int y1), some (.int y2)] [] σ := by
    intro n
    induction n with
    | zero => intro y1 y2 σ h; exact nn h
    | succ n ih =>
      intro y1 y2 σ h
      have h : b_X12_put_3 (f_X12_put_3 n) y1 y2 σ = some R := h
      unfold b_X12_put_3 at h
      refine a_iload_n C dX12_put_3 (i := 2) rfl rfl ?_
      refine p_if_lt C (X := y2.toInt) rfl dX12_put_4 (tgt := 36) rfl h (fun h => ?_) (fun h => ?_)
      ·
        exact a_vret Rt dX12_put_36 (retv_eq (h.trans (congrArg some hR.symm)))
      ·
        refine a_aload_n C dX12_put_7 (i := 0) rfl rfl ?_
        refine a_get C fl_RX12_13 (i := 236) kd_236 (hid 236 (by decide)) (v := .ref (ad 237)) rfl dX12_put_8 ?_
        refine a_aload_n C dX12_put_11 (i := 0) rfl rfl ?_
        refine a_get C fl_RX12_154 (i := 236) kd_236 (hid 236 (by decide)) (v := .int (σ.1 236 2)) rfl dX12_put_12 ?_
        refine a_iload_n C dX12_put_15 (i := 1) rfl rfl ?_
        refine a_iload_n C dX12_put_16 (i := 2) rfl rfl ?_
        refine a_ishr C dX12_put_17 ?_
        refine a_i2b C dX12_put_18 ?_
        refine p_bast C (i := 237) kd_237 (hid 237 (by decide)) (by rw [al_237]; rfl) dX12_put_19 h (fun σ1 h => ?_)
        refine a_aload_n C dX12_put_20 (i := 0) rfl rfl ?_
        refine a_dup C dX12_put_21 rfl ?_
        refine a_get C fl_RX12_154 (i := 236) kd_236 (hid 236 (by decide)) (v := .int (σ1.1 236 2)) rfl dX12_put_22 ?_
        refine a_iconst C dX12_put_25 (v := 1) rfl ?_
        refine a_iadd C dX12_put_26 ?_
        refine p_put C fp_RX12_154 (i := 236) kd_236 (hid 236 (by decide)) rfl rfl dX12_put_27 h (fun σ2 h => ?_)
        refine p_iinc C (y := (y2 + (-8))) (fun z3 => [some (.ref (ad 236)), some (.int y1), some (.int z3)]) dX12_put_30 rfl rfl (by decide) rfl (fun _ => rfl) h (fun z3 h => ?_)
        refine a_goto C dX12_put_33 (tgt := 3) rfl ?_
        exact ih _ _ _ h
  refine a_bipush C dX12_put_0 (v := 24) rfl ?_
  refine a_istore_n C dX12_put_2 (i := 2) rfl (by decide) rfl (vs1 := [some (.ref (ad 236)), some (.int x1), some (.int 24)]) rfl ?_
  exact j3 _ _ _ _ h
set_option maxHeartbeats 4000000 in
set_option maxRecDepth 100000 in
theorem Z_X12_feed {l : Launch} {D : va_G} {ids : List Nat} {ad : Nat → Nat} {ca : Nat → ClassId} {σ : HS} {x1 : Int32} {x2 : Int32} {x3 : Int32} {x4 : Int32} {x5 : Int32} {r0 : Int32} {s0 : HS} (hid : ∀ i, i < 277 → i ∈ ids) (h : f_X12_feed x1 x2 x3 x4 x5 σ = some (r0, s0)) : Ki l D ids ad ca yX12_feed cX12_feed 6 .int 1 22 [.ref (ad 236), .int x1, .int x2, .int x3, .int x4, .int x5] σ (fun r σ1 => r = r0 ∧ σ1 = s0) := by
  obtain ⟨R, hR⟩ : ∃ R, (r0, s0) = R := ⟨_, rfl⟩
  replace h := h.trans (congrArg some hR)
  refine Ki.of (by decide) (Nat.le_of_ble_eq_true rfl) 0 (fun Γ C Rt => ?_)
  show AW ids ad ca Γ 0 [some (.ref (ad 236)), some (.int x1), some (.int x2), some (.int x3), some (.int x4), some (.int x5)] [] σ
  unfold f_X12_feed at h
  refine a_aload_n C dX12_feed_0 (i := 0) rfl rfl ?_
  refine a_get C fl_RX12_154 (i := 236) kd_236 (hid 236 (by decide)) (v := .int (σ.1 236 2)) rfl dX12_feed_1 ?_
  refine a_bipush C dX12_feed_4 (v := 20) rfl ?_
  refine a_iadd C dX12_feed_6 ?_
  refine a_sipush C dX12_feed_7 (v := 2000) rfl ?_
  refine p_ic_le C (X := ((σ.1 236 2) + (20 : Int32)).toInt) (Y := 2000) rfl (by decide) dX12_feed_10 (tgt := 15) rfl h (fun h => ?_) (fun h => ?_)
  ·
    refine a_aload_n C dX12_feed_15 (i := 0) rfl rfl ?_
    refine a_iload_n C dX12_feed_16 (i := 1) rfl rfl ?_
    refine p_callVv C (As := [.int x1]) (i := 236) kd_236 (hid 236 (by decide)) ⟨_, _, rfl⟩ (by decide) h (fun _ e => Z_X12_put hid e) mi_X12_put ml_RX12_157 rfl rfl (Nat.le_of_ble_eq_true rfl) (Nat.le_of_ble_eq_true rfl) (Nat.le_of_ble_eq_true rfl) dX12_feed_17 (fun σ1 h => ?_)
    refine a_aload_n C dX12_feed_20 (i := 0) rfl rfl ?_
    refine a_iload_n C dX12_feed_21 (i := 2) rfl rfl ?_
    refine p_callVv C (As := [.int x2]) (i := 236) kd_236 (hid 236 (by decide)) ⟨_, _, rfl⟩ (by decide) h (fun _ e => Z_X12_put hid e) mi_X12_put ml_RX12_157 rfl rfl (Nat.le_of_ble_eq_true rfl) (Nat.le_of_ble_eq_true rfl) (Nat.le_of_ble_eq_true rfl) dX12_feed_22 (fun σ3 h => ?_)
    refine a_aload_n C dX12_feed_25 (i := 0) rfl rfl ?_
    refine a_iload_n C dX12_feed_26 (i := 3) rfl rfl ?_
    refine p_callVv C (As := [.int x3]) (i := 236) kd_236 (hid 236 (by decide)) ⟨_, _, rfl⟩ (by decide) h (fun _ e => Z_X12_put hid e) mi_X12_put ml_RX12_157 rfl rfl (Nat.le_of_ble_eq_true rfl) (Nat.le_of_ble_eq_true rfl) (Nat.le_of_ble_eq_true rfl) dX12_feed_27 (fun σ5 h => ?_)
    refine a_aload_n C dX12_feed_30 (i := 0) rfl rfl ?_
    refine a_iload C dX12_feed_31 rfl ?_
    refine p_callVv C (As := [.int x4]) (i := 236) kd_236 (hid 236 (by decide)) ⟨_, _, rfl⟩ (by decide) h (fun _ e => Z_X12_put hid e) mi_X12_put ml_RX12_157 rfl rfl (Nat.le_of_ble_eq_true rfl) (Nat.le_of_ble_eq_true rfl) (Nat.le_of_ble_eq_true rfl) dX12_feed_33 (fun σ7 h => ?_)
    refine a_aload_n C dX12_feed_36 (i := 0) rfl rfl ?_
    refine a_iload C dX12_feed_37 rfl ?_
    refine p_callVv C (As := [.int x5]) (i := 236) kd_236 (hid 236 (by decide)) ⟨_, _, rfl⟩ (by decide) h (fun _ e => Z_X12_put hid e) mi_X12_put ml_RX12_157 rfl rfl (Nat.le_of_ble_eq_true rfl) (Nat.le_of_ble_eq_true rfl) (Nat.le_of_ble_eq_true rfl) dX12_feed_39 (fun σ9 h => ?_)
    refine a_aload_n C dX12_feed_42 (i := 0) rfl rfl ?_
    refine a_get C fl_RX12_154 (i := 236) kd_236 (hid 236 (by decide)) (v := .int (σ9.1 236 2)) rfl dX12_feed_43 ?_
    exact a_iret Rt dX12_feed_46 rfl (ret_eq (h.trans (congrArg some hR.symm)))
  ·
    refine a_iconst C dX12_feed_13 (v := (-1)) rfl ?_
    exact a_iret Rt dX12_feed_14 rfl (ret_eq (h.trans (congrArg some hR.symm)))
set_option maxHeartbeats 4000000 in
set_option maxRecDepth 100000 in
theorem Z_X12_back {l : Launch} {D : va_G} {ids : List Nat} {ad : Nat → Nat} {ca : Nat → ClassId} {σ : HS} {x1 : Int32} {r0 : Int32} {s0 : HS} (hid : ∀ i, i < 277 → i ∈ ids) (h : f_X12_back x1 σ = some (r0, s0)) : Ki l D ids ad ca yX12_back cX12_back 2 .int 0 0 [.ref (ad 236), .int x1] σ (fun r σ1 => r = r0 ∧ σ1 = s0) := by
  obtain ⟨R, hR⟩ : ∃ R, (r0, s0) = R := ⟨_, rfl⟩
  replace h := h.trans (congrArg some hR)
  refine Ki.of (by decide) (Nat.le_of_ble_eq_true rfl) 0 (fun Γ C Rt => ?_)
  show AW ids ad ca Γ 0 [some (.ref (ad 236)), some (.int x1)] [] σ
  unfold f_X12_back at h
  refine a_iload_n C dX12_back_0 (i := 1) rfl rfl ?_
  refine p_if_lt C (X := x1.toInt) rfl dX12_back_1 (tgt := 12) rfl h (fun h => ?_) (fun h => ?_)
  ·
    refine a_iconst C dX12_back_12 (v := (-1)) rfl ?_
    exact a_iret Rt dX12_back_13 rfl (ret_eq (h.trans (congrArg some hR.symm)))
  ·
    refine a_iload_n C dX12_back_4 (i := 1) rfl rfl ?_
    refine a_aload_n C dX12_back_5 (i := 0) rfl rfl ?_
    refine a_get C fl_RX12_154 (i := 236) kd_236 (hid 236 (by decide)) (v := .int (σ.1 236 2)) rfl dX12_back_6 ?_
    refine p_ic_le C (X := x1.toInt) (Y := (σ.1 236 2).toInt) rfl rfl dX12_back_9 (tgt := 14) rfl h (fun h => ?_) (fun h => ?_)
    ·
      refine a_aload_n C dX12_back_14 (i := 0) rfl rfl ?_
      refine a_dup C dX12_back_15 rfl ?_
      refine a_get C fl_RX12_154 (i := 236) kd_236 (hid 236 (by decide)) (v := .int (σ.1 236 2)) rfl dX12_back_16 ?_
      refine a_iload_n C dX12_back_19 (i := 1) rfl rfl ?_
      refine a_isub C dX12_back_20 ?_
      refine p_put C fp_RX12_154 (i := 236) kd_236 (hid 236 (by decide)) rfl rfl dX12_back_21 h (fun σ1 h => ?_)
      refine a_aload_n C dX12_back_24 (i := 0) rfl rfl ?_
      refine a_get C fl_RX12_154 (i := 236) kd_236 (hid 236 (by decide)) (v := .int (σ1.1 236 2)) rfl dX12_back_25 ?_
      exact a_iret Rt dX12_back_28 rfl (ret_eq (h.trans (congrArg some hR.symm)))
    ·
      refine a_iconst C dX12_back_12 (v := (-1)) rfl ?_
      exact a_iret Rt dX12_back_13 rfl (ret_eq (h.trans (congrArg some hR.symm)))
set_option maxHeartbeats 4000000 in
set_option maxRecDepth 100000 in
theorem Z_X12_byteAt {l : Launch} {D : va_G} {ids : List Nat} {ad : Nat → Nat} {ca : Nat → ClassId} {σ : HS} {x1 : Int32} {r0 : Int32} {s0 : HS} (hid : ∀ i, i < 277 → i ∈ ids) (h : f_X12_byteAt x1 σ = some (r0, s0)) : Ki l D ids ad ca yX12_byteAt cX12_byteAt 2 .int 0 0 [.ref (ad 236), .int x1] σ (fun r σ1 => r = r0 ∧ σ1 = s0) := by
  obtain ⟨R, hR⟩ : ∃ R, (r0, s0) = R := ⟨_, rfl⟩
  replace h := h.trans (congrArg some hR)
  refine Ki.of (by decide) (Nat.le_of_ble_eq_true rfl) 0 (fun Γ C Rt => ?_)
  show AW ids ad ca Γ 0 [some (.ref (ad 236)), some (.int x1)] [] σ
  unfold f_X12_byteAt at h
  refine a_iload_n C dX12_byteAt_0 (i := 1) rfl rfl ?_
  refine a_aload_n C dX12_byteAt_1 (i := 0) rfl rfl ?_
  refine a_get C fl_RX12_160 (i := 236) kd_236 (hid 236 (by decide)) (v := .int (σ.1 236 4)) rfl dX12_byteAt_2 ?_
  refine p_ic_ge C (X := x1.toInt) (Y := (σ.1 236 4).toInt) rfl rfl dX12_byteAt_5 (tgt := 21) rfl h (fun h => ?_) (fun h => ?_)
  ·
    refine a_iconst C dX12_byteAt_21 (v := 0) rfl ?_
    exact a_iret Rt dX12_byteAt_22 rfl (ret_eq (h.trans (congrArg some hR.symm)))
  ·
    refine a_aload_n C dX12_byteAt_8 (i := 0) rfl rfl ?_
    refine a_get C fl_RX12_17 (i := 236) kd_236 (hid 236 (by decide)) (v := .ref (ad 238)) rfl dX12_byteAt_9 ?_
    refine a_iload_n C dX12_byteAt_12 (i := 1) rfl rfl ?_
    refine p_bald C (i := 238) kd_238 (hid 238 (by decide)) (by rw [al_238]; rfl) dX12_byteAt_13 h (fun h => ?_)
    refine a_sipush C dX12_byteAt_14 (v := 255) rfl ?_
    refine a_iand C dX12_byteAt_17 ?_
    refine a_goto C dX12_byteAt_18 (tgt := 22) rfl ?_
    exact a_iret Rt dX12_byteAt_22 rfl (ret_eq (h.trans (congrArg some hR.symm)))
set_option maxHeartbeats 4000000 in
set_option maxRecDepth 100000 in
theorem Z_X12_isDigit {l : Launch} {D : va_G} {ids : List Nat} {ad : Nat → Nat} {ca : Nat → ClassId} {σ : HS} {x1 : Int32} {r0 : Int32} {s0 : HS} (hid : ∀ i, i < 277 → i ∈ ids) (h : f_X12_isDigit x1 σ = some (r0, s0)) : Ki l D ids ad ca yX12_isDigit cX12_isDigit 1 .boolean 0 0 [.int x1] σ (fun r σ1 => r = r0 ∧ σ1 = s0) := by
  obtain ⟨R, hR⟩ : ∃ R, (r0, s0) = R := ⟨_, rfl⟩
  replace h := h.trans (congrArg some hR)
  refine Ki.of (by decide) (Nat.le_of_ble_eq_true rfl) 0 (fun Γ C Rt => ?_)
  show AW ids ad ca Γ 0 [some (.int x1)] [] σ
  unfold f_X12_isDigit at h
  refine a_iload_n C dX12_isDigit_0 (i := 0) rfl rfl ?_
  refine a_bipush C dX12_isDigit_1 (v := 48) rfl ?_
  refine p_ic_lt C (X := x1.toInt) (Y := 48) rfl (by decide) dX12_isDigit_3 (tgt := 16) rfl h (fun h => ?_) (fun h => ?_)
  ·
    refine a_iconst C dX12_isDigit_16 (v := 0) rfl ?_
    exact a_iret Rt dX12_isDigit_17 (nar_z (by decide)).1 (ret_eq (h.trans (congrArg some hR.symm)))
  ·
    refine a_iload_n C dX12_isDigit_6 (i := 0) rfl rfl ?_
    refine a_bipush C dX12_isDigit_7 (v := 57) rfl ?_
    refine p_ic_gt C (X := x1.toInt) (Y := 57) rfl (by decide) dX12_isDigit_9 (tgt := 16) rfl h (fun h => ?_) (fun h => ?_)
    ·
      refine a_iconst C dX12_isDigit_16 (v := 0) rfl ?_
      exact a_iret Rt dX12_isDigit_17 (nar_z (by decide)).1 (ret_eq (h.trans (congrArg some hR.symm)))
    ·
      refine a_iconst C dX12_isDigit_12 (v := 1) rfl ?_
      refine a_goto C dX12_isDigit_13 (tgt := 17) rfl ?_
      exact a_iret Rt dX12_isDigit_17 (nar_z (by decide)).1 (ret_eq (h.trans (congrArg some hR.symm)))
set_option maxHeartbeats 4000000 in
set_option maxRecDepth 100000 in
theorem Z_X12_isLetter {l : Launch} {D : va_G} {ids : List Nat} {ad : Nat → Nat} {ca : Nat → ClassId} {σ : HS} {x1 : Int32} {r0 : Int32} {s0 : HS} (hid : ∀ i, i < 277 → i ∈ ids) (h : f_X12_isLetter x1 σ = some (r0, s0)) : Ki l D ids ad ca yX12_isLetter cX12_isLetter 1 .boolean 0 0 [.int x1] σ (fun r σ1 => r = r0 ∧ σ1 = s0) := by
  obtain ⟨R, hR⟩ : ∃ R, (r0, s0) = R := ⟨_, rfl⟩
  replace h := h.trans (congrArg some hR)
  refine Ki.of (by decide) (Nat.le_of_ble_eq_true rfl) 0 (fun Γ C Rt => ?_)
  show AW ids ad ca Γ 0 [some (.int x1)] [] σ
  unfold f_X12_isLetter at h
  refine a_iload_n C dX12_isLetter_0 (i := 0) rfl rfl ?_
  refine a_bipush C dX12_isLetter_1 (v := 97) rfl ?_
  refine p_ic_lt C (X := x1.toInt) (Y := 97) rfl (by decide) dX12_isLetter_3 (tgt := 16) rfl h (fun h => ?_) (fun h => ?_)
  ·
    refine a_iconst C dX12_isLetter_16 (v := 0) rfl ?_
    exact a_iret Rt dX12_isLetter_17 (nar_z (by decide)).1 (ret_eq (h.trans (congrArg some hR.symm)))
  ·
    refine a_iload_n C dX12_isLetter_6 (i := 0) rfl rfl ?_
    refine a_bipush C dX12_isLetter_7 (v := 122) rfl ?_
    refine p_ic_gt C (X := x1.toInt) (Y := 122) rfl (by decide) dX12_isLetter_9 (tgt := 16) rfl h (fun h => ?_) (fun h => ?_)
    ·
      refine a_iconst C dX12_isLetter_16 (v := 0) rfl ?_
      exact a_iret Rt dX12_isLetter_17 (nar_z (by decide)).1 (ret_eq (h.trans (congrArg some hR.symm)))
    ·
      refine a_iconst C dX12_isLetter_12 (v := 1) rfl ?_
      refine a_goto C dX12_isLetter_13 (tgt := 17) rfl ?_
      exact a_iret Rt dX12_isLetter_17 (nar_z (by decide)).1 (ret_eq (h.trans (congrArg some hR.symm)))
set_option maxHeartbeats 4000000 in
set_option maxRecDepth 100000 in
theorem Z_X12_token {l : Launch} {D : va_G} {ids : List Nat} {ad : Nat → Nat} {ca : Nat → ClassId} {σ : HS} {x1 : Int32} {x2 : Int32} {x3 : Int32} {x4 : Int64} {s0 : HS} (hid : ∀ i, i < 277 → i ∈ ids) (h : f_X12_token x1 x2 x3 x4 σ = some s0) : Kv l D ids ad ca yX12_token cX12_token 6 0 0 [.ref (ad 236), .int x1, .int x2, .int x3, .long x4] σ (fun σ1 => σ1 = s0) := by
  obtain ⟨R, hR⟩ : ∃ R, s0 = R := ⟨_, rfl⟩
  replace h := h.trans (congrArg some hR)
  refine Kv.of (by decide) (Nat.le_of_ble_eq_true rfl) 0 (fun Γ C Rt => ?_)
  show AW ids ad ca Γ 0 [some (.ref (ad 236)), some (.int x1), some (.int x2), some (.int x3), some (.long x4), none] [] σ
  unfold f_X12_token at h
  refine a_aload_n C dX12_token_0 (i := 0) rfl rfl ?_
  refine a_get C fl_RX12_20 (i := 236) kd_236 (hid 236 (by decide)) (v := .ref (ad 239)) rfl dX12_token_1 ?_
  refine a_aload_n C dX12_token_4 (i := 0) rfl rfl ?_
  refine a_get C fl_RX12_169 (i := 236) kd_236 (hid 236 (by decide)) (v := .int (σ.1 236 10)) rfl dX12_token_5 ?_
  refine a_iload_n C dX12_token_8 (i := 1) rfl rfl ?_
  refine p_iast C (i := 239) (show rowOK 239 from ⟨kd_239, by decide⟩) hid (by rw [al_239]; rfl) dX12_token_9 h (fun σ1 h => ?_)
  refine a_aload_n C dX12_token_10 (i := 0) rfl rfl ?_
  refine a_get C fl_RX12_24 (i := 236) kd_236 (hid 236 (by decide)) (v := .ref (ad 240)) rfl dX12_token_11 ?_
  refine a_aload_n C dX12_token_14 (i := 0) rfl rfl ?_
  refine a_get C fl_RX12_169 (i := 236) kd_236 (hid 236 (by decide)) (v := .int (σ1.1 236 10)) rfl dX12_token_15 ?_
  refine a_iload_n C dX12_token_18 (i := 2) rfl rfl ?_
  refine p_iast C (i := 240) (show rowOK 240 from ⟨kd_240, by decide⟩) hid (by rw [al_240]; rfl) dX12_token_19 h (fun σ2 h => ?_)
  refine a_aload_n C dX12_token_20 (i := 0) rfl rfl ?_
  refine a_get C fl_RX12_27 (i := 236) kd_236 (hid 236 (by decide)) (v := .ref (ad 241)) rfl dX12_token_21 ?_
  refine a_aload_n C dX12_token_24 (i := 0) rfl rfl ?_
  refine a_get C fl_RX12_169 (i := 236) kd_236 (hid 236 (by decide)) (v := .int (σ2.1 236 10)) rfl dX12_token_25 ?_
  refine a_iload_n C dX12_token_28 (i := 3) rfl rfl ?_
  refine p_iast C (i := 241) (show rowOK 241 from ⟨kd_241, by decide⟩) hid (by rw [al_241]; rfl) dX12_token_29 h (fun σ3 h => ?_)
  refine a_aload_n C dX12_token_30 (i := 0) rfl rfl ?_
  refine a_get C fl_RX12_30 (i := 236) kd_236 (hid 236 (by decide)) (v := .ref (ad 242)) rfl dX12_token_31 ?_
  refine a_aload_n C dX12_token_34 (i := 0) rfl rfl ?_
  refine a_get C fl_RX12_169 (i := 236) kd_236 (hid 236 (by decide)) (v := .int (σ3.1 236 10)) rfl dX12_token_35 ?_
  refine a_lload C dX12_token_38 rfl ?_
  refine p_last C (i := 242) kd_242 (hid 242 (by decide)) (by rw [al_242]; rfl) dX12_token_40 h (fun σ4 h => ?_)
  refine a_aload_n C dX12_token_41 (i := 0) rfl rfl ?_
  refine a_dup C dX12_token_42 rfl ?_
  refine a_get C fl_RX12_169 (i := 236) kd_236 (hid 236 (by decide)) (v := .int (σ4.1 236 10)) rfl dX12_token_43 ?_
  refine a_iconst C dX12_token_46 (v := 1) rfl ?_
  refine a_iadd C dX12_token_47 ?_
  refine p_put C fp_RX12_169 (i := 236) kd_236 (hid 236 (by decide)) rfl rfl dX12_token_48 h (fun σ5 h => ?_)
  exact a_vret Rt dX12_token_51 (retv_eq (h.trans (congrArg some hR.symm)))
set_option maxHeartbeats 4000000 in
set_option maxRecDepth 100000 in
theorem Z_X12_sign {l : Launch} {D : va_G} {ids : List Nat} {ad : Nat → Nat} {ca : Nat → ClassId} {σ : HS} {x1 : Int32} {x2 : Int32} {x3 : Int32} {r0 : Int32} {s0 : HS} (hid : ∀ i, i < 277 → i ∈ ids) (h : f_X12_sign x1 x2 x3 σ = some (r0, s0)) : Ki l D ids ad ca yX12_sign cX12_sign 5 .int 1 25 [.ref (ad 236), .int x1, .int x2, .int x3] σ (fun r σ1 => r = r0 ∧ σ1 = s0) := by
  obtain ⟨R, hR⟩ : ∃ R, (r0, s0) = R := ⟨_, rfl⟩
  replace h := h.trans (congrArg some hR)
  refine Ki.of (by decide) (Nat.le_of_ble_eq_true rfl) 1 (fun Γ C Rt => ?_)
  show AW ids ad ca Γ 0 [some (.ref (ad 236)), some (.int x1), some (.int x2), some (.int x3), none] [] σ
  unfold f_X12_sign at h
  have j95 : ∀ (y1 : Int32) (y4 : Int32) (σ : HS), f_X12_sign_95 y1 y4 σ = some R → AW ids ad ca Γ 95 [some (.ref (ad 236)), some (.int y1), none, none, some (.int y4)] [] σ := by
    intro y1 y4 σ h
    unfold f_X12_sign_95 at h
    refine a_aload_n C dX12_sign_95 (i := 0) rfl rfl ?_
    refine a_iload C dX12_sign_96 rfl ?_
    refine a_iload_n C dX12_sign_98 (i := 1) rfl rfl ?_
    refine a_iconst C dX12_sign_99 (v := 0) rfl ?_
    refine a_lconst C dX12_sign_100 (v := 0) rfl ?_
    refine p_callVv C (As := [.int y4, .int y1, .int 0, .long 0]) (i := 236) kd_236 (hid 236 (by decide)) ⟨_, _, rfl⟩ (by decide) h (fun _ e => Z_X12_token hid e) mi_X12_token ml_RX12_176 rfl rfl (Nat.le_of_ble_eq_true rfl) (Nat.le_of_ble_eq_true rfl) (Nat.le_of_ble_eq_true rfl) dX12_sign_101 (fun σ1 h => ?_)
    refine a_iconst C dX12_sign_104 (v := 1) rfl ?_
    exact a_iret Rt dX12_sign_105 rfl (ret_eq (h.trans (congrArg some hR.symm)))
  have j85 : ∀ (y1 : Int32) (y2 : Int32) (y4 : Int32) (σ : HS), f_X12_sign_85 y1 y2 y4 σ = some R → AW ids ad ca Γ 85 [some (.ref (ad 236)), some (.int y1), some (.int y2), none, some (.int y4)] [] σ := by
    intro y1 y2 y4 σ h
    unfold f_X12_sign_85 at h
    refine a_iload_n C dX12_sign_85 (i := 2) rfl rfl ?_
    refine a_bipush C dX12_sign_86 (v := 60) rfl ?_
    refine p_ic_ne C (X := y2.toInt) (Y := 60) rfl (by decide) dX12_sign_88 (tgt := 95) rfl h (fun h => ?_) (fun h => ?_)
    ·
      refine AW.sub (vs' := [some (.ref (ad 236)), some (.int y1), none, none, some (.int y4)]) (lsub_of (by simp [lsubB])) ?_
      exact j95 _ _ _ h
    ·
      refine a_bipush C dX12_sign_91 (v := 13) rfl ?_
      refine a_istore C dX12_sign_93 (by decide) rfl (vs1 := [some (.ref (ad 236)), some (.int y1), some (.int y2), none, some (.int 13)]) rfl ?_
      refine AW.sub (vs' := [some (.ref (ad 236)), some (.int y1), none, none, some (.int 13)]) (lsub_of (by simp [lsubB])) ?_
      exact j95 _ _ _ h
  have j75 : ∀ (y1 : Int32) (y2 : Int32) (y4 : Int32) (σ : HS), f_X12_sign_75 y1 y2 y4 σ = some R → AW ids ad ca Γ 75 [some (.ref (ad 236)), some (.int y1), some (.int y2), none, some (.int y4)] [] σ := by
    intro y1 y2 y4 σ h
    unfold f_X12_sign_75 at h
    refine a_iload_n C dX12_sign_75 (i := 2) rfl rfl ?_
    refine a_bipush C dX12_sign_76 (v := 47) rfl ?_
    refine p_ic_ne C (X := y2.toInt) (Y := 47) rfl (by decide) dX12_sign_78 (tgt := 85) rfl h (fun h => ?_) (fun h => ?_)
    ·
      exact j85 _ _ _ _ h
    ·
      refine a_bipush C dX12_sign_81 (v := 15) rfl ?_
      refine a_istore C dX12_sign_83 (by decide) rfl (vs1 := [some (.ref (ad 236)), some (.int y1), some (.int y2), none, some (.int 15)]) rfl ?_
      exact j85 _ _ _ _ h
  have j65 : ∀ (y1 : Int32) (y2 : Int32) (y4 : Int32) (σ : HS), f_X12_sign_65 y1 y2 y4 σ = some R → AW ids ad ca Γ 65 [some (.ref (ad 236)), some (.int y1), some (.int y2), none, some (.int y4)] [] σ := by
    intro y1 y2 y4 σ h
    unfold f_X12_sign_65 at h
    refine a_iload_n C dX12_sign_65 (i := 2) rfl rfl ?_
    refine a_bipush C dX12_sign_66 (v := 42) rfl ?_
    refine p_ic_ne C (X := y2.toInt) (Y := 42) rfl (by decide) dX12_sign_68 (tgt := 75) rfl h (fun h => ?_) (fun h => ?_)
    ·
      exact j75 _ _ _ _ h
    ·
      refine a_bipush C dX12_sign_71 (v := 10) rfl ?_
      refine a_istore C dX12_sign_73 (by decide) rfl (vs1 := [some (.ref (ad 236)), some (.int y1), some (.int y2), none, some (.int 10)]) rfl ?_
      exact j75 _ _ _ _ h
  have j55 : ∀ (y1 : Int32) (y2 : Int32) (y4 : Int32) (σ : HS), f_X12_sign_55 y1 y2 y4 σ = some R → AW ids ad ca Γ 55 [some (.ref (ad 236)), some (.int y1), some (.int y2), none, some (.int y4)] [] σ := by
    intro y1 y2 y4 σ h
    unfold f_X12_sign_55 at h
    refine a_iload_n C dX12_sign_55 (i := 2) rfl rfl ?_
    refine a_bipush C dX12_sign_56 (v := 45) rfl ?_
    refine p_ic_ne C (X := y2.toInt) (Y := 45) rfl (by decide) dX12_sign_58 (tgt := 65) rfl h (fun h => ?_) (fun h => ?_)
    ·
      exact j65 _ _ _ _ h
    ·
      refine a_bipush C dX12_sign_61 (v := 9) rfl ?_
      refine a_istore C dX12_sign_63 (by decide) rfl (vs1 := [some (.ref (ad 236)), some (.int y1), some (.int y2), none, some (.int 9)]) rfl ?_
      exact j65 _ _ _ _ h
  have j43 : ∀ (y1 : Int32) (y2 : Int32) (v0 : Int32) (σ : HS), f_X12_sign_43 y1 y2 v0 σ = some R → AW ids ad ca Γ 43 [some (.ref (ad 236)), some (.int y1), some (.int y2), none, none] [.int v0] σ := by
    intro y1 y2 v0 σ h
    unfold f_X12_sign_43 at h
    refine a_istore C dX12_sign_43 (by decide) rfl (vs1 := [some (.ref (ad 236)), some (.int y1), some (.int y2), none, some (.int v0)]) rfl ?_
    refine a_iload_n C dX12_sign_45 (i := 2) rfl rfl ?_
    refine a_bipush C dX12_sign_46 (v := 43) rfl ?_
    refine p_ic_ne C (X := y2.toInt) (Y := 43) rfl (by decide) dX12_sign_48 (tgt := 55) rfl h (fun h => ?_) (fun h => ?_)
    ·
      exact j55 _ _ _ _ h
    ·
      refine a_bipush C dX12_sign_51 (v := 8) rfl ?_
      refine a_istore C dX12_sign_53 (by decide) rfl (vs1 := [some (.ref (ad 236)), some (.int y1), some (.int y2), none, some (.int 8)]) rfl ?_
      exact j55 _ _ _ _ h
  refine a_iload_n C dX12_sign_0 (i := 2) rfl rfl ?_
  refine a_bipush C dX12_sign_1 (v := 59) rfl ?_
  refine p_ic_ne C (X := x2.toInt) (Y := 59) rfl (by decide) dX12_sign_3 (tgt := 10) rfl h (fun h => ?_) (fun h => ?_)
  ·
    refine a_iload_n C dX12_sign_10 (i := 2) rfl rfl ?_
    refine a_bipush C dX12_sign_11 (v := 61) rfl ?_
    refine p_ic_ne C (X := x2.toInt) (Y := 61) rfl (by decide) dX12_sign_13 (tgt := 20) rfl h (fun h => ?_) (fun h => ?_)
    ·
      refine a_iload_n C dX12_sign_20 (i := 2) rfl rfl ?_
      refine a_bipush C dX12_sign_21 (v := 40) rfl ?_
      refine p_ic_ne C (X := x2.toInt) (Y := 40) rfl (by decide) dX12_sign_23 (tgt := 31) rfl h (fun h => ?_) (fun h => ?_)
      ·
        refine a_iload_n C dX12_sign_31 (i := 2) rfl rfl ?_
        refine a_bipush C dX12_sign_32 (v := 41) rfl ?_
        refine p_ic_ne C (X := x2.toInt) (Y := 41) rfl (by decide) dX12_sign_34 (tgt := 42) rfl h (fun h => ?_) (fun h => ?_)
        ·
          refine a_iconst C dX12_sign_42 (v := 3) rfl ?_
          refine AW.sub (vs' := [some (.ref (ad 236)), some (.int x1), some (.int x2), none, none]) (lsub_of (by simp [lsubB])) ?_
          exact j43 _ _ _ _ h
        ·
          refine a_bipush C dX12_sign_37 (v := 7) rfl ?_
          refine a_goto C dX12_sign_39 (tgt := 43) rfl ?_
          refine AW.sub (vs' := [some (.ref (ad 236)), some (.int x1), some (.int x2), none, none]) (lsub_of (by simp [lsubB])) ?_
          exact j43 _ _ _ _ h
      ·
        refine a_bipush C dX12_sign_26 (v := 6) rfl ?_
        refine a_goto C dX12_sign_28 (tgt := 43) rfl ?_
        refine AW.sub (vs' := [some (.ref (ad 236)), some (.int x1), some (.int x2), none, none]) (lsub_of (by simp [lsubB])) ?_
        exact j43 _ _ _ _ h
    ·
      refine a_iconst C dX12_sign_16 (v := 5) rfl ?_
      refine a_goto C dX12_sign_17 (tgt := 43) rfl ?_
      refine AW.sub (vs' := [some (.ref (ad 236)), some (.int x1), some (.int x2), none, none]) (lsub_of (by simp [lsubB])) ?_
      exact j43 _ _ _ _ h
  ·
    refine a_iconst C dX12_sign_6 (v := 4) rfl ?_
    refine a_goto C dX12_sign_7 (tgt := 43) rfl ?_
    refine AW.sub (vs' := [some (.ref (ad 236)), some (.int x1), some (.int x2), none, none]) (lsub_of (by simp [lsubB])) ?_
    exact j43 _ _ _ _ h
set_option maxHeartbeats 4000000 in
set_option maxRecDepth 100000 in
theorem Z_X12_appends {l : Launch} {D : va_G} {ids : List Nat} {ad : Nat → Nat} {ca : Nat → ClassId} {σ : HS} {x1 : Int64} {x2 : Int32} {r0 : Int64} {s0 : HS} (hid : ∀ i, i < 277 → i ∈ ids) (h : f_X12_appends x1 x2 σ = some (r0, s0)) : Kl l D ids ad ca yX12_appends cX12_appends 3 0 0 [.long x1, .int x2] σ (fun r σ1 => r = r0 ∧ σ1 = s0) := by
  obtain ⟨R, hR⟩ : ∃ R, (r0, s0) = R := ⟨_, rfl⟩
  replace h := h.trans (congrArg some hR)
  refine Kl.of (by decide) (Nat.le_of_ble_eq_true rfl) 0 (fun Γ C Rt => ?_)
  show AW ids ad ca Γ 0 [some (.long x1), none, some (.int x2)] [] σ
  unfold f_X12_appends at h
  have j21 : ∀ (v0 : Int64) (σ : HS), f_X12_appends_21 v0 σ = some R → AW ids ad ca Γ 21 [none, none, none] [.long v0] σ := by
    intro v0 σ h
    unfold f_X12_appends_21 at h
    exact a_lret Rt dX12_appends_21 (ret_eq (h.trans (congrArg some hR.symm)))
  refine a_iload_n C dX12_appends_0 (i := 2) rfl rfl ?_
  refine p_if_ne C (X := x2.toInt) rfl dX12_appends_1 (tgt := 8) rfl h (fun h => ?_) (fun h => ?_)
  ·
    refine a_ldc2 C dX12_appends_8 ko_RX12_163 ?_
    refine a_lload_n C dX12_appends_11 (i := 0) rfl rfl ?_
    refine a_lmul C dX12_appends_12 ?_
    refine a_iload_n C dX12_appends_13 (i := 2) rfl rfl ?_
    refine a_bipush C dX12_appends_14 (v := 97) rfl ?_
    refine a_isub C dX12_appends_16 ?_
    refine a_iconst C dX12_appends_17 (v := 1) rfl ?_
    refine a_iadd C dX12_appends_18 ?_
    refine a_i2l C dX12_appends_19 ?_
    refine a_ladd C dX12_appends_20 ?_
    refine AW.sub (vs' := [none, none, none]) (lsub_of (by simp [lsubB])) ?_
    exact j21 _ _ h
  ·
    refine a_lload_n C dX12_appends_4 (i := 0) rfl rfl ?_
    refine a_goto C dX12_appends_5 (tgt := 21) rfl ?_
    refine AW.sub (vs' := [none, none, none]) (lsub_of (by simp [lsubB])) ?_
    exact j21 _ _ h

