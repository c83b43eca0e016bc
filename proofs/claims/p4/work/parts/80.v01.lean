set_option maxHeartbeats 4000000 in
set_option maxRecDepth 100000 in
theorem Z_J7_fill_53178 {l : Launch} {D : va_G} {ids : List Nat} {ad : Nat → Nat} {ca : Nat → ClassId} {σ : HS} {p1 : Nat} {x2 : Int32} {s0 : HS} (hid : ∀ i, i < 277 → i ∈ ids) (hp1 : rowOK p1) (h : f_J7_fill_53178 p1 x2 σ = some s0) : Kv l D ids ad ca yJ7_fill_53178 cJ7_fill_53178 4 0 0 [.ref (ad p1), .int x2] σ (fun σ1 => σ1 = s0) := by
  obtain ⟨R, hR⟩ : ∃ R, s0 = R := ⟨_, rfl⟩
  replace h := h.trans (congrArg some hR)
  refine Kv.ofF (by decide +kernel) (Nat.le_of_ble_eq_true rfl) 2 (fun Γ C Rt => ?_)
  show AW ids ad ca Γ 0 [some (.ref (ad p1)), some (.int x2), none, none] [] σ
  unfold f_J7_fill_53178 at h
  have j5 : ∀ (n : Nat) (y1 : Int32) (y2 : Int32) (y3 : Int32) (σ : HS), f_J7_fill_53178_5 p1 n y1 y2 y3 σ = some R → AW ids ad ca Γ 5 [some (.ref (ad p1)), some (.int y1), some (.int y2), some (.int y3)] [] σ := by
    intro n
    induction n with
    | zero => intro y1 y2 y3 σ h; exact nn h
    | succ n ih =>
      intro y1 y2 y3 σ h
      have h : b_J7_fill_53178_5 p1 (f_J7_fill_53178_5 p1 n) y1 y2 y3 σ = some R := h
      unfold b_J7_fill_53178_5 at h
      refine a_iload_n C dJ7_fill_53178_5 (i := 2) rfl rfl ?_
      refine a_iload_n C dJ7_fill_53178_6 (i := 3) rfl rfl ?_
      refine p_ic_ge C (X := y2.toInt) (Y := y3.toInt) rfl rfl dJ7_fill_53178_7 (tgt := 20) rfl h (fun h => ?_) (fun h => ?_)
      ·
        exact a_vret Rt dJ7_fill_53178_20 (retv_eq (h.trans (congrArg some hR.symm)))
      ·
        refine a_aload_n C dJ7_fill_53178_10 (i := 0) rfl rfl ?_
        refine a_iload_n C dJ7_fill_53178_11 (i := 2) rfl rfl ?_
        refine a_iload_n C dJ7_fill_53178_12 (i := 1) rfl rfl ?_
        refine p_iast C (i := p1) hp1 hid rfl dJ7_fill_53178_13 h (fun σ1 h => ?_)
        refine p_iinc C (y := (y2 + 1)) (fun z2 => [some (.ref (ad p1)), some (.int y1), some (.int z2), some (.int y3)]) dJ7_fill_53178_14 rfl rfl (by decide) rfl (fun _ => rfl) h (fun z2 h => ?_)
        refine a_goto C dJ7_fill_53178_17 (tgt := 5) rfl ?_
        exact ih _ _ _ _ h
  refine a_iconst C dJ7_fill_53178_0 (v := 0) rfl ?_
  refine a_istore_n C dJ7_fill_53178_1 (i := 2) rfl (by decide) rfl (vs1 := [some (.ref (ad p1)), some (.int x2), some (.int 0), none]) rfl ?_
  refine a_aload_n C dJ7_fill_53178_2 (i := 0) rfl rfl ?_
  refine a_alen C (by rw [hp1.1]; decide) (hid _ hp1.2) rfl dJ7_fill_53178_3 ?_
  refine p_istore_n C (fun z1 => [some (.ref (ad p1)), some (.int x2), some (.int 0), some (.int z1)]) dJ7_fill_53178_4 (i := 3) rfl (by decide) rfl (fun _ => rfl) h (fun z1 h => ?_)
  exact j5 _ _ _ _ _ h
set_option maxHeartbeats 4000000 in
set_option maxRecDepth 100000 in
theorem Z_X0_begin {l : Launch} {D : va_G} {ids : List Nat} {ad : Nat → Nat} {ca : Nat → ClassId} {σ : HS} {a : Nat} {p1 : Nat} {s0 : HS} (hid : ∀ i, i < 277 → i ∈ ids) (ha : airOK a) (hp1 : txtOK p1) (h : f_X0_begin a p1 σ = some s0) : Kv l D ids ad ca yX0_begin cX0_begin 2 1 60 [.ref (ad a), .ref (ad p1)] σ (fun σ1 => σ1 = s0) := by
  obtain ⟨R, hR⟩ : ∃ R, s0 = R := ⟨_, rfl⟩
  replace h := h.trans (congrArg some hR)
  refine Kv.of (by decide) (Nat.le_of_ble_eq_true rfl) 0 (fun Γ C Rt => ?_)
  show AW ids ad ca Γ 0 [some (.ref (ad a)), some (.ref (ad p1))] [] σ
  unfold f_X0_begin at h
  have j77 : ∀ (v0 : Int32) (σ : HS), f_X0_begin_77 a p1 v0 σ = some R → AW ids ad ca Γ 77 [some (.ref (ad a)), none] [.int v0, .ref (ad a)] σ := by
    intro v0 σ h
    unfold f_X0_begin_77 at h
    refine p_put C fp_RX0_21 (i := a) ha.1.1 (hid _ ha.1.2) rfl rfl dX0_begin_77 h (fun σ1 h => ?_)
    refine a_aload_n C dX0_begin_80 (i := 0) rfl rfl ?_
    refine a_iconst C dX0_begin_81 (v := 0) rfl ?_
    refine p_put C fp_RX0_67 (i := a) ha.1.1 (hid _ ha.1.2) rfl rfl dX0_begin_82 h (fun σ2 h => ?_)
    refine a_aload_n C dX0_begin_85 (i := 0) rfl rfl ?_
    refine a_iconst C dX0_begin_86 (v := (-1)) rfl ?_
    refine p_put C fp_RX0_25 (i := a) ha.1.1 (hid _ ha.1.2) rfl rfl dX0_begin_87 h (fun σ3 h => ?_)
    exact a_vret Rt dX0_begin_90 (retv_eq (h.trans (congrArg some hR.symm)))
  refine a_aload_n C dX0_begin_0 (i := 0) rfl rfl ?_
  refine a_aload_n C dX0_begin_1 (i := 1) rfl rfl ?_
  refine a_get C fl_RX0_28 (i := p1) hp1.1.1 (hid _ hp1.1.2) (v := .int (σ.1 p1 0)) rfl dX0_begin_2 ?_
  refine p_put C fp_RX0_33 (i := a) ha.1.1 (hid _ ha.1.2) rfl rfl dX0_begin_5 h (fun σ1 h => ?_)
  refine a_aload_n C dX0_begin_8 (i := 0) rfl rfl ?_
  refine a_get C fl_RX0_9 (i := a) ha.1.1 (hid _ ha.1.2) (v := .ref (ad (a + 1))) rfl dX0_begin_9 ?_
  refine a_iconst C dX0_begin_12 (v := 0) rfl ?_
  refine p_callSv C (As := [.ref (ad (a + 1)), .int 0]) h (fun _ e => Z_J7_fill_53178 hid ha.2.1.1 e) ms_J7_fill_53178 ml_RX0_34 rfl rfl (Nat.le_of_ble_eq_true rfl) (Nat.le_of_ble_eq_true rfl) (Nat.le_of_ble_eq_true rfl) dX0_begin_13 (fun σ2 h => ?_)
  refine a_aload_n C dX0_begin_16 (i := 0) rfl rfl ?_
  refine a_get C fl_RX0_18 (i := a) ha.1.1 (hid _ ha.1.2) (v := .ref (ad (a + 3))) rfl dX0_begin_17 ?_
  refine a_iconst C dX0_begin_20 (v := 0) rfl ?_
  refine p_callSv C (As := [.ref (ad (a + 3)), .int 0]) h (fun _ e => Z_J7_fill_53178 hid ha.2.2.2.1 e) ms_J7_fill_53178 ml_RX0_34 rfl rfl (Nat.le_of_ble_eq_true rfl) (Nat.le_of_ble_eq_true rfl) (Nat.le_of_ble_eq_true rfl) dX0_begin_21 (fun σ4 h => ?_)
  refine a_aload_n C dX0_begin_24 (i := 1) rfl rfl ?_
  refine a_get C fl_RX0_40 (i := p1) hp1.1.1 (hid _ hp1.1.2) (v := .ref (ad (p1 + 3))) rfl dX0_begin_25 ?_
  refine a_iconst C dX0_begin_28 (v := 0) rfl ?_
  refine a_aload_n C dX0_begin_29 (i := 0) rfl rfl ?_
  refine a_get C fl_RX0_15 (i := a) ha.1.1 (hid _ ha.1.2) (v := .ref (ad (a + 2))) rfl dX0_begin_30 ?_
  refine a_iconst C dX0_begin_33 (v := 0) rfl ?_
  refine a_bipush C dX0_begin_34 (v := 7) rfl ?_
  refine p_copyi C (i0 := (p1 + 3)) (i1 := (a + 2)) (SP := 0) (DP := 0) (Z := 7) ml_RX0_43 ac_w.1 ac_w.2.1 ac_w.2.2 hp1.2.2.2.1.1 ha.2.2.1.1 hid (by rw [hp1.2.2.2.1.2]; rfl) (by rw [ha.2.2.1.2]; rfl) (by decide) (by decide) (by decide) (Nat.le_of_ble_eq_true rfl) (Nat.le_of_ble_eq_true rfl) dX0_begin_36 h (fun σ6 h => ?_)
  refine a_aload_n C dX0_begin_39 (i := 0) rfl rfl ?_
  refine a_iconst C dX0_begin_40 (v := 0) rfl ?_
  refine p_put C fp_RX0_49 (i := a) ha.1.1 (hid _ ha.1.2) rfl rfl dX0_begin_41 h (fun σ7 h => ?_)
  refine a_aload_n C dX0_begin_44 (i := 0) rfl rfl ?_
  refine a_iconst C dX0_begin_45 (v := 0) rfl ?_
  refine p_put C fp_RX0_52 (i := a) ha.1.1 (hid _ ha.1.2) rfl rfl dX0_begin_46 h (fun σ8 h => ?_)
  refine a_aload_n C dX0_begin_49 (i := 0) rfl rfl ?_
  refine a_iconst C dX0_begin_50 (v := 0) rfl ?_
  refine p_put C fp_RX0_55 (i := a) ha.1.1 (hid _ ha.1.2) rfl rfl dX0_begin_51 h (fun σ9 h => ?_)
  refine a_aload_n C dX0_begin_54 (i := 0) rfl rfl ?_
  refine a_iconst C dX0_begin_55 (v := 0) rfl ?_
  refine p_put C fp_RX0_58 (i := a) ha.1.1 (hid _ ha.1.2) rfl rfl dX0_begin_56 h (fun σ10 h => ?_)
  refine a_aload_n C dX0_begin_59 (i := 0) rfl rfl ?_
  refine a_iconst C dX0_begin_60 (v := 0) rfl ?_
  refine p_put C fp_RX0_61 (i := a) ha.1.1 (hid _ ha.1.2) rfl rfl dX0_begin_61 h (fun σ11 h => ?_)
  refine a_aload_n C dX0_begin_64 (i := 0) rfl rfl ?_
  refine a_aload_n C dX0_begin_65 (i := 1) rfl rfl ?_
  refine a_get C fl_RX0_64 (i := p1) hp1.1.1 (hid _ hp1.1.2) (v := .int (σ11.1 p1 4)) rfl dX0_begin_66 ?_
  refine p_if_le C (X := (σ11.1 p1 4).toInt) rfl dX0_begin_69 (tgt := 76) rfl h (fun h => ?_) (fun h => ?_)
  ·
    refine a_iconst C dX0_begin_76 (v := (-1)) rfl ?_
    refine AW.sub (vs' := [some (.ref (ad a)), none]) (lsub_of (by simp [lsubB])) ?_
    exact j77 _ _ h
  ·
    refine a_iconst C dX0_begin_72 (v := 0) rfl ?_
    refine a_goto C dX0_begin_73 (tgt := 77) rfl ?_
    refine AW.sub (vs' := [some (.ref (ad a)), none]) (lsub_of (by simp [lsubB])) ?_
    exact j77 _ _ h
set_option maxHeartbeats 4000000 in
set_option maxRecDepth 100000 in
theorem Z_X0_copy {l : Launch} {D : va_G} {ids : List Nat} {ad : Nat → Nat} {ca : Nat → ClassId} {σ : HS} {a : Nat} {p1 : Nat} {s0 : HS} (hid : ∀ i, i < 277 → i ∈ ids) (ha : airOK a) (hp1 : airOK p1) (h : f_X0_copy a p1 σ = some s0) : Kv l D ids ad ca yX0_copy cX0_copy 2 1 60 [.ref (ad a), .ref (ad p1)] σ (fun σ1 => σ1 = s0) := by
  obtain ⟨R, hR⟩ : ∃ R, s0 = R := ⟨_, rfl⟩
  replace h := h.trans (congrArg some hR)
  refine Kv.of (by decide) (Nat.le_of_ble_eq_true rfl) 0 (fun Γ C Rt => ?_)
  show AW ids ad ca Γ 0 [some (.ref (ad a)), some (.ref (ad p1))] [] σ
  unfold f_X0_copy at h
  refine a_aload_n C dX0_copy_0 (i := 0) rfl rfl ?_
  refine a_aload_n C dX0_copy_1 (i := 1) rfl rfl ?_
  refine a_get C fl_RX0_33 (i := p1) hp1.1.1 (hid _ hp1.1.2) (v := .int (σ.1 p1 0)) rfl dX0_copy_2 ?_
  refine p_put C fp_RX0_33 (i := a) ha.1.1 (hid _ ha.1.2) rfl rfl dX0_copy_5 h (fun σ1 h => ?_)
  refine a_aload_n C dX0_copy_8 (i := 1) rfl rfl ?_
  refine a_get C fl_RX0_9 (i := p1) hp1.1.1 (hid _ hp1.1.2) (v := .ref (ad (p1 + 1))) rfl dX0_copy_9 ?_
  refine a_iconst C dX0_copy_12 (v := 0) rfl ?_
  refine a_aload_n C dX0_copy_13 (i := 0) rfl rfl ?_
  refine a_get C fl_RX0_9 (i := a) ha.1.1 (hid _ ha.1.2) (v := .ref (ad (a + 1))) rfl dX0_copy_14 ?_
  refine a_iconst C dX0_copy_17 (v := 0) rfl ?_
  refine a_bipush C dX0_copy_18 (v := 7) rfl ?_
  refine p_copyi C (i0 := (p1 + 1)) (i1 := (a + 1)) (SP := 0) (DP := 0) (Z := 7) ml_RX0_43 ac_w.1 ac_w.2.1 ac_w.2.2 hp1.2.1.1 ha.2.1.1 hid (by rw [hp1.2.1.2]; rfl) (by rw [ha.2.1.2]; rfl) (by decide) (by decide) (by decide) (Nat.le_of_ble_eq_true rfl) (Nat.le_of_ble_eq_true rfl) dX0_copy_20 h (fun σ2 h => ?_)
  refine a_aload_n C dX0_copy_23 (i := 1) rfl rfl ?_
  refine a_get C fl_RX0_15 (i := p1) hp1.1.1 (hid _ hp1.1.2) (v := .ref (ad (p1 + 2))) rfl dX0_copy_24 ?_
  refine a_iconst C dX0_copy_27 (v := 0) rfl ?_
  refine a_aload_n C dX0_copy_28 (i := 0) rfl rfl ?_
  refine a_get C fl_RX0_15 (i := a) ha.1.1 (hid _ ha.1.2) (v := .ref (ad (a + 2))) rfl dX0_copy_29 ?_
  refine a_iconst C dX0_copy_32 (v := 0) rfl ?_
  refine a_bipush C dX0_copy_33 (v := 7) rfl ?_
  refine p_copyi C (i0 := (p1 + 2)) (i1 := (a + 2)) (SP := 0) (DP := 0) (Z := 7) ml_RX0_43 ac_w.1 ac_w.2.1 ac_w.2.2 hp1.2.2.1.1 ha.2.2.1.1 hid (by rw [hp1.2.2.1.2]; rfl) (by rw [ha.2.2.1.2]; rfl) (by decide) (by decide) (by decide) (Nat.le_of_ble_eq_true rfl) (Nat.le_of_ble_eq_true rfl) dX0_copy_35 h (fun σ3 h => ?_)
  refine a_aload_n C dX0_copy_38 (i := 1) rfl rfl ?_
  refine a_get C fl_RX0_18 (i := p1) hp1.1.1 (hid _ hp1.1.2) (v := .ref (ad (p1 + 3))) rfl dX0_copy_39 ?_
  refine a_iconst C dX0_copy_42 (v := 0) rfl ?_
  refine a_aload_n C dX0_copy_43 (i := 0) rfl rfl ?_
  refine a_get C fl_RX0_18 (i := a) ha.1.1 (hid _ ha.1.2) (v := .ref (ad (a + 3))) rfl dX0_copy_44 ?_
  refine a_iconst C dX0_copy_47 (v := 0) rfl ?_
  refine a_bipush C dX0_copy_48 (v := 7) rfl ?_
  refine p_copyi C (i0 := (p1 + 3)) (i1 := (a + 3)) (SP := 0) (DP := 0) (Z := 7) ml_RX0_43 ac_w.1 ac_w.2.1 ac_w.2.2 hp1.2.2.2.1 ha.2.2.2.1 hid (by rw [hp1.2.2.2.2]; rfl) (by rw [ha.2.2.2.2]; rfl) (by decide) (by decide) (by decide) (Nat.le_of_ble_eq_true rfl) (Nat.le_of_ble_eq_true rfl) dX0_copy_50 h (fun σ4 h => ?_)
  refine a_aload_n C dX0_copy_53 (i := 0) rfl rfl ?_
  refine a_aload_n C dX0_copy_54 (i := 1) rfl rfl ?_
  refine a_get C fl_RX0_49 (i := p1) hp1.1.1 (hid _ hp1.1.2) (v := .int (σ4.1 p1 4)) rfl dX0_copy_55 ?_
  refine p_put C fp_RX0_49 (i := a) ha.1.1 (hid _ ha.1.2) rfl rfl dX0_copy_58 h (fun σ5 h => ?_)
  refine a_aload_n C dX0_copy_61 (i := 0) rfl rfl ?_
  refine a_aload_n C dX0_copy_62 (i := 1) rfl rfl ?_
  refine a_get C fl_RX0_52 (i := p1) hp1.1.1 (hid _ hp1.1.2) (v := .int (σ5.1 p1 5)) rfl dX0_copy_63 ?_
  refine p_put C fp_RX0_52 (i := a) ha.1.1 (hid _ ha.1.2) rfl rfl dX0_copy_66 h (fun σ6 h => ?_)
  refine a_aload_n C dX0_copy_69 (i := 0) rfl rfl ?_
  refine a_aload_n C dX0_copy_70 (i := 1) rfl rfl ?_
  refine a_get C fl_RX0_55 (i := p1) hp1.1.1 (hid _ hp1.1.2) (v := .int (σ6.1 p1 6)) rfl dX0_copy_71 ?_
  refine p_put C fp_RX0_55 (i := a) ha.1.1 (hid _ ha.1.2) rfl rfl dX0_copy_74 h (fun σ7 h => ?_)
  refine a_aload_n C dX0_copy_77 (i := 0) rfl rfl ?_
  refine a_aload_n C dX0_copy_78 (i := 1) rfl rfl ?_
  refine a_get C fl_RX0_58 (i := p1) hp1.1.1 (hid _ hp1.1.2) (v := .int (σ7.1 p1 7)) rfl dX0_copy_79 ?_
  refine p_put C fp_RX0_58 (i := a) ha.1.1 (hid _ ha.1.2) rfl rfl dX0_copy_82 h (fun σ8 h => ?_)
  refine a_aload_n C dX0_copy_85 (i := 0) rfl rfl ?_
  refine a_aload_n C dX0_copy_86 (i := 1) rfl rfl ?_
  refine a_get C fl_RX0_61 (i := p1) hp1.1.1 (hid _ hp1.1.2) (v := .int (σ8.1 p1 8)) rfl dX0_copy_87 ?_
  refine p_put C fp_RX0_61 (i := a) ha.1.1 (hid _ ha.1.2) rfl rfl dX0_copy_90 h (fun σ9 h => ?_)
  refine a_aload_n C dX0_copy_93 (i := 0) rfl rfl ?_
  refine a_aload_n C dX0_copy_94 (i := 1) rfl rfl ?_
  refine a_get C fl_RX0_21 (i := p1) hp1.1.1 (hid _ hp1.1.2) (v := .int (σ9.1 p1 9)) rfl dX0_copy_95 ?_
  refine p_put C fp_RX0_21 (i := a) ha.1.1 (hid _ ha.1.2) rfl rfl dX0_copy_98 h (fun σ10 h => ?_)
  refine a_aload_n C dX0_copy_101 (i := 0) rfl rfl ?_
  refine a_aload_n C dX0_copy_102 (i := 1) rfl rfl ?_
  refine a_get C fl_RX0_67 (i := p1) hp1.1.1 (hid _ hp1.1.2) (v := .int (σ10.1 p1 10)) rfl dX0_copy_103 ?_
  refine p_put C fp_RX0_67 (i := a) ha.1.1 (hid _ ha.1.2) rfl rfl dX0_copy_106 h (fun σ11 h => ?_)
  refine a_aload_n C dX0_copy_109 (i := 0) rfl rfl ?_
  refine a_aload_n C dX0_copy_110 (i := 1) rfl rfl ?_
  refine a_get C fl_RX0_25 (i := p1) hp1.1.1 (hid _ hp1.1.2) (v := .int (σ11.1 p1 11)) rfl dX0_copy_111 ?_
  refine p_put C fp_RX0_25 (i := a) ha.1.1 (hid _ ha.1.2) rfl rfl dX0_copy_114 h (fun σ12 h => ?_)
  exact a_vret Rt dX0_copy_117 (retv_eq (h.trans (congrArg some hR.symm)))
set_option maxHeartbeats 4000000 in
set_option maxRecDepth 100000 in
theorem Z_X0_isUp {l : Launch} {D : va_G} {ids : List Nat} {ad : Nat → Nat} {ca : Nat → ClassId} {σ : HS} {a : Nat} {x1 : Int32} {r0 : Int32} {s0 : HS} (hid : ∀ i, i < 277 → i ∈ ids) (ha : airOK a) (h : f_X0_isUp a x1 σ = some (r0, s0)) : Ki l D ids ad ca yX0_isUp cX0_isUp 2 .boolean 0 0 [.ref (ad a), .int x1] σ (fun r σ1 => r = r0 ∧ σ1 = s0) := by
  obtain ⟨R, hR⟩ : ∃ R, (r0, s0) = R := ⟨_, rfl⟩
  replace h := h.trans (congrArg some hR)
  refine Ki.of (by decide) (Nat.le_of_ble_eq_true rfl) 0 (fun Γ C Rt => ?_)
  show AW ids ad ca Γ 0 [some (.ref (ad a)), some (.int x1)] [] σ
  unfold f_X0_isUp at h
  refine a_aload_n C dX0_isUp_0 (i := 0) rfl rfl ?_
  refine a_get C fl_RX0_9 (i := a) ha.1.1 (hid _ ha.1.2) (v := .ref (ad (a + 1))) rfl dX0_isUp_1 ?_
  refine a_iload_n C dX0_isUp_4 (i := 1) rfl rfl ?_
  refine p_iald C (i := (a + 1)) ha.2.1.1 hid (by rw [ha.2.1.2]; rfl) dX0_isUp_5 h (fun h => ?_)
  refine p_if_ne C (X := (σ.1 (a + 1) x1.toInt.toNat).toInt) rfl dX0_isUp_6 (tgt := 13) rfl h (fun h => ?_) (fun h => ?_)
  ·
    refine a_iconst C dX0_isUp_13 (v := 0) rfl ?_
    exact a_iret Rt dX0_isUp_14 (nar_z (by decide)).1 (ret_eq (h.trans (congrArg some hR.symm)))
  ·
    refine a_iconst C dX0_isUp_9 (v := 1) rfl ?_
    refine a_goto C dX0_isUp_10 (tgt := 14) rfl ?_
    exact a_iret Rt dX0_isUp_14 (nar_z (by decide)).1 (ret_eq (h.trans (congrArg some hR.symm)))
set_option maxHeartbeats 4000000 in
set_option maxRecDepth 100000 in
theorem Z_X0_landsNow {l : Launch} {D : va_G} {ids : List Nat} {ad : Nat → Nat} {ca : Nat → ClassId} {σ : HS} {a : Nat} {x1 : Int32} {r0 : Int32} {s0 : HS} (hid : ∀ i, i < 277 → i ∈ ids) (ha : airOK a) (h : f_X0_landsNow a x1 σ = some (r0, s0)) : Ki l D ids ad ca yX0_landsNow cX0_landsNow 2 .boolean 0 0 [.ref (ad a), .int x1] σ (fun r σ1 => r = r0 ∧ σ1 = s0) := by
  obtain ⟨R, hR⟩ : ∃ R, (r0, s0) = R := ⟨_, rfl⟩
  replace h := h.trans (congrArg some hR)
  refine Ki.of (by decide) (Nat.le_of_ble_eq_true rfl) 0 (fun Γ C Rt => ?_)
  show AW ids ad ca Γ 0 [some (.ref (ad a)), some (.int x1)] [] σ
  unfold f_X0_landsNow at h
  refine a_aload_n C dX0_landsNow_0 (i := 0) rfl rfl ?_
  refine a_get C fl_RX0_9 (i := a) ha.1.1 (hid _ ha.1.2) (v := .ref (ad (a + 1))) rfl dX0_landsNow_1 ?_
  refine a_iload_n C dX0_landsNow_4 (i := 1) rfl rfl ?_
  refine p_iald C (i := (a + 1)) ha.2.1.1 hid (by rw [ha.2.1.2]; rfl) dX0_landsNow_5 h (fun h => ?_)
  refine p_if_ne C (X := (σ.1 (a + 1) x1.toInt.toNat).toInt) rfl dX0_landsNow_6 (tgt := 22) rfl h (fun h => ?_) (fun h => ?_)
  ·
    refine a_iconst C dX0_landsNow_22 (v := 0) rfl ?_
    exact a_iret Rt dX0_landsNow_23 (nar_z (by decide)).1 (ret_eq (h.trans (congrArg some hR.symm)))
  ·
    refine a_aload_n C dX0_landsNow_9 (i := 0) rfl rfl ?_
    refine a_get C fl_RX0_15 (i := a) ha.1.1 (hid _ ha.1.2) (v := .ref (ad (a + 2))) rfl dX0_landsNow_10 ?_
    refine a_iload_n C dX0_landsNow_13 (i := 1) rfl rfl ?_
    refine p_iald C (i := (a + 2)) ha.2.2.1.1 hid (by rw [ha.2.2.1.2]; rfl) dX0_landsNow_14 h (fun h => ?_)
    refine p_if_ne C (X := (σ.1 (a + 2) x1.toInt.toNat).toInt) rfl dX0_landsNow_15 (tgt := 22) rfl h (fun h => ?_) (fun h => ?_)
    ·
      refine a_iconst C dX0_landsNow_22 (v := 0) rfl ?_
      exact a_iret Rt dX0_landsNow_23 (nar_z (by decide)).1 (ret_eq (h.trans (congrArg some hR.symm)))
    ·
      refine a_iconst C dX0_landsNow_18 (v := 1) rfl ?_
      refine a_goto C dX0_landsNow_19 (tgt := 23) rfl ?_
      exact a_iret Rt dX0_landsNow_23 (nar_z (by decide)).1 (ret_eq (h.trans (congrArg some hR.symm)))
set_option maxHeartbeats 4000000 in
set_option maxRecDepth 100000 in
theorem Z_X0_putUp {l : Launch} {D : va_G} {ids : List Nat} {ad : Nat → Nat} {ca : Nat → ClassId} {σ : HS} {a : Nat} {x1 : Int32} {x2 : Int32} {s0 : HS} (hid : ∀ i, i < 277 → i ∈ ids) (ha : airOK a) (h : f_X0_putUp a x1 x2 σ = some s0) : Kv l D ids ad ca yX0_putUp cX0_putUp 3 0 0 [.ref (ad a), .int x1, .int x2] σ (fun σ1 => σ1 = s0) := by
  obtain ⟨R, hR⟩ : ∃ R, s0 = R := ⟨_, rfl⟩
  replace h := h.trans (congrArg some hR)
  refine Kv.of (by decide) (Nat.le_of_ble_eq_true rfl) 0 (fun Γ C Rt => ?_)
  show AW ids ad ca Γ 0 [some (.ref (ad a)), some (.int x1), some (.int x2)] [] σ
  unfold f_X0_putUp at h
  refine a_aload_n C dX0_putUp_0 (i := 0) rfl rfl ?_
  refine a_get C fl_RX0_9 (i := a) ha.1.1 (hid _ ha.1.2) (v := .ref (ad (a + 1))) rfl dX0_putUp_1 ?_
  refine a_iload_n C dX0_putUp_4 (i := 1) rfl rfl ?_
  refine a_iconst C dX0_putUp_5 (v := 0) rfl ?_
  refine p_iast C (i := (a + 1)) ha.2.1.1 hid (by rw [ha.2.1.2]; rfl) dX0_putUp_6 h (fun σ1 h => ?_)
  refine a_aload_n C dX0_putUp_7 (i := 0) rfl rfl ?_
  refine a_get C fl_RX0_15 (i := a) ha.1.1 (hid _ ha.1.2) (v := .ref (ad (a + 2))) rfl dX0_putUp_8 ?_
  refine a_iload_n C dX0_putUp_11 (i := 1) rfl rfl ?_
  refine a_iload_n C dX0_putUp_12 (i := 2) rfl rfl ?_
  refine p_iast C (i := (a + 2)) ha.2.2.1.1 hid (by rw [ha.2.2.1.2]; rfl) dX0_putUp_13 h (fun σ2 h => ?_)
  exact a_vret Rt dX0_putUp_14 (retv_eq (h.trans (congrArg some hR.symm)))
set_option maxHeartbeats 4000000 in
set_option maxRecDepth 100000 in
theorem Z_X0_takeUp {l : Launch} {D : va_G} {ids : List Nat} {ad : Nat → Nat} {ca : Nat → ClassId} {σ : HS} {a : Nat} {x1 : Int32} {s0 : HS} (hid : ∀ i, i < 277 → i ∈ ids) (ha : airOK a) (h : f_X0_takeUp a x1 σ = some s0) : Kv l D ids ad ca yX0_takeUp cX0_takeUp 2 0 0 [.ref (ad a), .int x1] σ (fun σ1 => σ1 = s0) := by
  obtain ⟨R, hR⟩ : ∃ R, s0 = R := ⟨_, rfl⟩
  replace h := h.trans (congrArg some hR)
  refine Kv.of (by decide) (Nat.le_of_ble_eq_true rfl) 0 (fun Γ C Rt => ?_)
  show AW ids ad ca Γ 0 [some (.ref (ad a)), some (.int x1)] [] σ
  unfold f_X0_takeUp at h
  refine a_aload_n C dX0_takeUp_0 (i := 0) rfl rfl ?_
  refine a_iload_n C dX0_takeUp_1 (i := 1) rfl rfl ?_
  refine p_put C fp_RX0_21 (i := a) ha.1.1 (hid _ ha.1.2) rfl rfl dX0_takeUp_2 h (fun σ1 h => ?_)
  refine a_aload_n C dX0_takeUp_5 (i := 0) rfl rfl ?_
  refine a_aload_n C dX0_takeUp_6 (i := 0) rfl rfl ?_
  refine a_get C fl_RX0_49 (i := a) ha.1.1 (hid _ ha.1.2) (v := .int (σ1.1 a 4)) rfl dX0_takeUp_7 ?_
  refine p_put C fp_RX0_67 (i := a) ha.1.1 (hid _ ha.1.2) rfl rfl dX0_takeUp_10 h (fun σ2 h => ?_)
  exact a_vret Rt dX0_takeUp_13 (retv_eq (h.trans (congrArg some hR.symm)))
set_option maxHeartbeats 4000000 in
set_option maxRecDepth 100000 in
theorem Z_X0_drop {l : Launch} {D : va_G} {ids : List Nat} {ad : Nat → Nat} {ca : Nat → ClassId} {σ : HS} {a : Nat} {x1 : Int32} {s0 : HS} (hid : ∀ i, i < 277 → i ∈ ids) (ha : airOK a) (h : f_X0_drop a x1 σ = some s0) : Kv l D ids ad ca yX0_drop cX0_drop 2 0 0 [.ref (ad a), .int x1] σ (fun σ1 => σ1 = s0) := by
  obtain ⟨R, hR⟩ : ∃ R, s0 = R := ⟨_, rfl⟩
  replace h := h.trans (congrArg some hR)
  refine Kv.of (by decide) (Nat.le_of_ble_eq_true rfl) 0 (fun Γ C Rt => ?_)
  show AW ids ad ca Γ 0 [some (.ref (ad a)), some (.int x1)] [] σ
  unfold f_X0_drop at h
  refine a_aload_n C dX0_drop_0 (i := 0) rfl rfl ?_
  refine a_get C fl_RX0_9 (i := a) ha.1.1 (hid _ ha.1.2) (v := .ref (ad (a + 1))) rfl dX0_drop_1 ?_
  refine a_iload_n C dX0_drop_4 (i := 1) rfl rfl ?_
  refine a_iconst C dX0_drop_5 (v := 2) rfl ?_
  refine p_iast C (i := (a + 1)) ha.2.1.1 hid (by rw [ha.2.1.2]; rfl) dX0_drop_6 h (fun σ1 h => ?_)
  refine a_aload_n C dX0_drop_7 (i := 0) rfl rfl ?_
  refine a_dup C dX0_drop_8 rfl ?_
  refine a_get C fl_RX0_55 (i := a) ha.1.1 (hid _ ha.1.2) (v := .int (σ1.1 a 6)) rfl dX0_drop_9 ?_
  refine a_iconst C dX0_drop_12 (v := 1) rfl ?_
  refine a_iadd C dX0_drop_13 ?_
  refine p_put C fp_RX0_55 (i := a) ha.1.1 (hid _ ha.1.2) rfl rfl dX0_drop_14 h (fun σ2 h => ?_)
  exact a_vret Rt dX0_drop_17 (retv_eq (h.trans (congrArg some hR.symm)))
set_option maxHeartbeats 4000000 in
set_option maxRecDepth 100000 in
theorem Z_X0_bitsOf {l : Launch} {D : va_G} {ids : List Nat} {ad : Nat → Nat} {ca : Nat → ClassId} {σ : HS} {a : Nat} {x1 : Int32} {r0 : Int32} {s0 : HS} (hid : ∀ i, i < 277 → i ∈ ids) (ha : airOK a) (h : f_X0_bitsOf a x1 σ = some (r0, s0)) : Ki l D ids ad ca yX0_bitsOf cX0_bitsOf 4 .int 0 0 [.ref (ad a), .int x1] σ (fun r σ1 => r = r0 ∧ σ1 = s0) := by
  obtain ⟨R, hR⟩ : ∃ R, (r0, s0) = R := ⟨_, rfl⟩
  replace h := h.trans (congrArg some hR)
  refine Ki.of (by decide) (Nat.le_of_ble_eq_true rfl) 2 (fun Γ C Rt => ?_)
  show AW ids ad ca Γ 0 [some (.ref (ad a)), some (.int x1), none, none] [] σ
  unfold f_X0_bitsOf at h
  have j28 : ∀ (k4 : Int32 → Int32 → Int32 → HS → Option (Int32 × HS)) (hk4 : ∀ (y1 : Int32) (y2 : Int32) (y3 : Int32) (σ : HS), k4 y1 y2 y3 σ = some R → AW ids ad ca Γ 4 [some (.ref (ad a)), some (.int y1), some (.int y2), some (.int y3)] [] σ) (y1 : Int32) (y2 : Int32) (y3 : Int32) (σ : HS), f_X0_bitsOf_28 a k4 y1 y2 y3 σ = some R → AW ids ad ca Γ 28 [some (.ref (ad a)), some (.int y1), some (.int y2), some (.int y3)] [] σ := by
    intro k4 hk4 y1 y2 y3 σ h
    unfold f_X0_bitsOf_28 at h
    refine p_iinc C (y := (y3 + 1)) (fun z1 => [some (.ref (ad a)), some (.int y1), some (.int y2), some (.int z1)]) dX0_bitsOf_28 rfl rfl (by decide) rfl (fun _ => rfl) h (fun z1 h => ?_)
    refine a_goto C dX0_bitsOf_31 (tgt := 4) rfl ?_
    exact hk4 _ _ _ _ h
  have j4 : ∀ (n : Nat) (y1 : Int32) (y2 : Int32) (y3 : Int32) (σ : HS), f_X0_bitsOf_4 a n y1 y2 y3 σ = some R → AW ids ad ca Γ 4 [some (.ref (ad a)), some (.int y1), some (.int y2), some (.int y3)] [] σ := by
    intro n
    induction n with
    | zero => intro y1 y2 y3 σ h; exact nn h
    | succ n ih =>
      intro y1 y2 y3 σ h
      have h : b_X0_bitsOf_4 a (f_X0_bitsOf_4 a n) y1 y2 y3 σ = some R := h
      unfold b_X0_bitsOf_4 at h
      refine a_iload_n C dX0_bitsOf_4 (i := 3) rfl rfl ?_
      refine a_aload_n C dX0_bitsOf_5 (i := 0) rfl rfl ?_
      refine a_get C fl_RX0_33 (i := a) ha.1.1 (hid _ ha.1.2) (v := .int (σ.1 a 0)) rfl dX0_bitsOf_6 ?_
      refine p_ic_ge C (X := y3.toInt) (Y := (σ.1 a 0).toInt) rfl rfl dX0_bitsOf_9 (tgt := 34) rfl h (fun h => ?_) (fun h => ?_)
      ·
        refine a_iload_n C dX0_bitsOf_34 (i := 2) rfl rfl ?_
        exact a_iret Rt dX0_bitsOf_35 rfl (ret_eq (h.trans (congrArg some hR.symm)))
      ·
        refine a_aload_n C dX0_bitsOf_12 (i := 0) rfl rfl ?_
        refine a_get C fl_RX0_9 (i := a) ha.1.1 (hid _ ha.1.2) (v := .ref (ad (a + 1))) rfl dX0_bitsOf_13 ?_
        refine a_iload_n C dX0_bitsOf_16 (i := 3) rfl rfl ?_
        refine p_iald C (i := (a + 1)) ha.2.1.1 hid (by rw [ha.2.1.2]; rfl) dX0_bitsOf_17 h (fun h => ?_)
        refine a_iload_n C dX0_bitsOf_18 (i := 1) rfl rfl ?_
        refine p_ic_ne C (X := (σ.1 (a + 1) y3.toInt.toNat).toInt) (Y := y1.toInt) rfl rfl dX0_bitsOf_19 (tgt := 28) rfl h (fun h => ?_) (fun h => ?_)
        ·
          exact j28 (f_X0_bitsOf_4 a n) (fun y1 y2 y3 σ h => ih y1 y2 y3 σ h) _ _ _ _ h
        ·
          refine a_iload_n C dX0_bitsOf_22 (i := 2) rfl rfl ?_
          refine a_iconst C dX0_bitsOf_23 (v := 1) rfl ?_
          refine a_iload_n C dX0_bitsOf_24 (i := 3) rfl rfl ?_
          refine a_ishl C dX0_bitsOf_25 ?_
          refine a_ior C dX0_bitsOf_26 ?_
          refine p_istore_n C (fun z1 => [some (.ref (ad a)), some (.int y1), some (.int z1), some (.int y3)]) dX0_bitsOf_27 (i := 2) rfl (by decide) rfl (fun _ => rfl) h (fun z1 h => ?_)
          exact j28 (f_X0_bitsOf_4 a n) (fun y1 y2 y3 σ h => ih y1 y2 y3 σ h) _ _ _ _ h
  refine a_iconst C dX0_bitsOf_0 (v := 0) rfl ?_
  refine a_istore_n C dX0_bitsOf_1 (i := 2) rfl (by decide) rfl (vs1 := [some (.ref (ad a)), some (.int x1), some (.int 0), none]) rfl ?_
  refine a_iconst C dX0_bitsOf_2 (v := 0) rfl ?_
  refine a_istore_n C dX0_bitsOf_3 (i := 3) rfl (by decide) rfl (vs1 := [some (.ref (ad a)), some (.int x1), some (.int 0), some (.int 0)]) rfl ?_
  exact j4 _ _ _ _ _ h
set_option maxHeartbeats 4000000 in
set_option maxRecDepth 100000 in
theorem Z_J6_bitCount_0f7a4 {l : Launch} {D : va_G} {ids : List Nat} {ad : Nat → Nat} {ca : Nat → ClassId} {σ : HS} {x1 : Int32} {r0 : Int32} {s0 : HS} (hid : ∀ i, i < 277 → i ∈ ids) (h : f_J6_bitCount_0f7a4 x1 σ = some (r0, s0)) : Ki l D ids ad ca yJ6_bitCount_0f7a4 cJ6_bitCount_0f7a4 1 .int 0 0 [.int x1] σ (fun r σ1 => r = r0 ∧ σ1 = s0) := by
  obtain ⟨R, hR⟩ : ∃ R, (r0, s0) = R := ⟨_, rfl⟩
  replace h := h.trans (congrArg some hR)
  refine Ki.ofF (by decide +kernel) (Nat.le_of_ble_eq_true rfl) 0 (fun Γ C Rt => ?_)
  show AW ids ad ca Γ 0 [some (.int x1)] [] σ
  unfold f_J6_bitCount_0f7a4 at h
  refine a_iload_n C dJ6_bitCount_0f7a4_0 (i := 0) rfl rfl ?_
  refine a_iload_n C dJ6_bitCount_0f7a4_1 (i := 0) rfl rfl ?_
  refine a_iconst C dJ6_bitCount_0f7a4_2 (v := 1) rfl ?_
  refine a_iushr C dJ6_bitCount_0f7a4_3 ?_
  refine a_ldcw C dJ6_bitCount_0f7a4_4 ko_RJ6_265 ?_
  refine a_iand C dJ6_bitCount_0f7a4_7 ?_
  refine a_isub C dJ6_bitCount_0f7a4_8 ?_
  refine p_istore_n C (fun z1 => [some (.int z1)]) dJ6_bitCount_0f7a4_9 (i := 0) rfl (by decide) rfl (fun _ => rfl) h (fun z1 h => ?_)
  refine a_iload_n C dJ6_bitCount_0f7a4_10 (i := 0) rfl rfl ?_
  refine a_ldcw C dJ6_bitCount_0f7a4_11 ko_RJ6_266 ?_
  refine a_iand C dJ6_bitCount_0f7a4_14 ?_
  refine a_iload_n C dJ6_bitCount_0f7a4_15 (i := 0) rfl rfl ?_
  refine a_iconst C dJ6_bitCount_0f7a4_16 (v := 2) rfl ?_
  refine a_iushr C dJ6_bitCount_0f7a4_17 ?_
  refine a_ldcw C dJ6_bitCount_0f7a4_18 ko_RJ6_266 ?_
  refine a_iand C dJ6_bitCount_0f7a4_21 ?_
  refine a_iadd C dJ6_bitCount_0f7a4_22 ?_
  refine p_istore_n C (fun z2 => [some (.int z2)]) dJ6_bitCount_0f7a4_23 (i := 0) rfl (by decide) rfl (fun _ => rfl) h (fun z2 h => ?_)
  refine a_iload_n C dJ6_bitCount_0f7a4_24 (i := 0) rfl rfl ?_
  refine a_iload_n C dJ6_bitCount_0f7a4_25 (i := 0) rfl rfl ?_
  refine a_iconst C dJ6_bitCount_0f7a4_26 (v := 4) rfl ?_
  refine a_iushr C dJ6_bitCount_0f7a4_27 ?_
  refine a_iadd C dJ6_bitCount_0f7a4_28 ?_
  refine a_ldcw C dJ6_bitCount_0f7a4_29 ko_RJ6_267 ?_
  refine a_iand C dJ6_bitCount_0f7a4_32 ?_
  refine p_istore_n C (fun z3 => [some (.int z3)]) dJ6_bitCount_0f7a4_33 (i := 0) rfl (by decide) rfl (fun _ => rfl) h (fun z3 h => ?_)
  refine a_iload_n C dJ6_bitCount_0f7a4_34 (i := 0) rfl rfl ?_
  refine a_iload_n C dJ6_bitCount_0f7a4_35 (i := 0) rfl rfl ?_
  refine a_bipush C dJ6_bitCount_0f7a4_36 (v := 8) rfl ?_
  refine a_iushr C dJ6_bitCount_0f7a4_38 ?_
  refine a_iadd C dJ6_bitCount_0f7a4_39 ?_
  refine p_istore_n C (fun z4 => [some (.int z4)]) dJ6_bitCount_0f7a4_40 (i := 0) rfl (by decide) rfl (fun _ => rfl) h (fun z4 h => ?_)
  refine a_iload_n C dJ6_bitCount_0f7a4_41 (i := 0) rfl rfl ?_
  refine a_iload_n C dJ6_bitCount_0f7a4_42 (i := 0) rfl rfl ?_
  refine a_bipush C dJ6_bitCount_0f7a4_43 (v := 16) rfl ?_
  refine a_iushr C dJ6_bitCount_0f7a4_45 ?_
  refine a_iadd C dJ6_bitCount_0f7a4_46 ?_
  refine p_istore_n C (fun z5 => [some (.int z5)]) dJ6_bitCount_0f7a4_47 (i := 0) rfl (by decide) rfl (fun _ => rfl) h (fun z5 h => ?_)
  refine a_iload_n C dJ6_bitCount_0f7a4_48 (i := 0) rfl rfl ?_
  refine a_bipush C dJ6_bitCount_0f7a4_49 (v := 63) rfl ?_
  refine a_iand C dJ6_bitCount_0f7a4_51 ?_
  exact a_iret Rt dJ6_bitCount_0f7a4_52 rfl (ret_eq (h.trans (congrArg some hR.symm)))
set_option maxHeartbeats 4000000 in
set_option maxRecDepth 100000 in
theorem Z_X0_howManyUp {l : Launch} {D : va_G} {ids : List Nat} {ad : Nat → Nat} {ca : Nat → ClassId} {σ : HS} {a : Nat} {r0 : Int32} {s0 : HS} (hid : ∀ i, i < 277 → i ∈ ids) (ha : airOK a) (h : f_X0_howManyUp a σ = some (r0, s0)) : Ki l D ids ad ca yX0_howManyUp cX0_howManyUp 1 .int 1 23 [.ref (ad a)] σ (fun r σ1 => r = r0 ∧ σ1 = s0) := by
  obtain ⟨R, hR⟩ : ∃ R, (r0, s0) = R := ⟨_, rfl⟩
  replace h := h.trans (congrArg some hR)
  refine Ki.of (by decide) (Nat.le_of_ble_eq_true rfl) 0 (fun Γ C Rt => ?_)
  show AW ids ad ca Γ 0 [some (.ref (ad a))] [] σ
  unfold f_X0_howManyUp at h
  refine a_aload_n C dX0_howManyUp_0 (i := 0) rfl rfl ?_
  refine a_iconst C dX0_howManyUp_1 (v := 0) rfl ?_
  refine p_callVi C (As := [.int 0]) (i := a) ha.1.1 (hid _ ha.1.2) ⟨_, _, rfl⟩ (by decide) h (fun _ _ e => Z_X0_bitsOf hid ha e) mi_X0_bitsOf ml_RX0_70 rfl rfl (Nat.le_of_ble_eq_true rfl) (Nat.le_of_ble_eq_true rfl) (Nat.le_of_ble_eq_true rfl) dX0_howManyUp_2 (fun r2 σ1 h => ?_)
  refine p_callSi C (As := [.int r2]) h (fun _ _ e => Z_J6_bitCount_0f7a4 hid e) ms_J6_bitCount_0f7a4 ml_RX0_74 rfl rfl (Nat.le_of_ble_eq_true rfl) (Nat.le_of_ble_eq_true rfl) (Nat.le_of_ble_eq_true rfl) dX0_howManyUp_5 (fun r4 σ3 h => ?_)
  exact a_iret Rt dX0_howManyUp_8 rfl (ret_eq (h.trans (congrArg some hR.symm)))
set_option maxHeartbeats 4000000 in
set_option maxRecDepth 100000 in
theorem Z_X0_howManyLand {l : Launch} {D : va_G} {ids : List Nat} {ad : Nat → Nat} {ca : Nat → ClassId} {σ : HS} {a : Nat} {r0 : Int32} {s0 : HS} (hid : ∀ i, i < 277 → i ∈ ids) (ha : airOK a) (h : f_X0_howManyLand a σ = some (r0, s0)) : Ki l D ids ad ca yX0_howManyLand cX0_howManyLand 3 .int 1 21 [.ref (ad a)] σ (fun r σ1 => r = r0 ∧ σ1 = s0) := by
  obtain ⟨R, hR⟩ : ∃ R, (r0, s0) = R := ⟨_, rfl⟩
  replace h := h.trans (congrArg some hR)
  refine Ki.of (by decide) (Nat.le_of_ble_eq_true rfl) 2 (fun Γ C Rt => ?_)
  show AW ids ad ca Γ 0 [some (.ref (ad a)), none, none] [] σ
  unfold f_X0_howManyLand at h
  have j23 : ∀ (k4 : Int32 → Int32 → HS → Option (Int32 × HS)) (hk4 : ∀ (y1 : Int32) (y2 : Int32) (σ : HS), k4 y1 y2 σ = some R → AW ids ad ca Γ 4 [some (.ref (ad a)), some (.int y1), some (.int y2)] [] σ) (y1 : Int32) (y2 : Int32) (σ : HS), f_X0_howManyLand_23 a k4 y1 y2 σ = some R → AW ids ad ca Γ 23 [some (.ref (ad a)), some (.int y1), some (.int y2)] [] σ := by
    intro k4 hk4 y1 y2 σ h
    unfold f_X0_howManyLand_23 at h
    refine p_iinc C (y := (y2 + 1)) (fun z1 => [some (.ref (ad a)), some (.int y1), some (.int z1)]) dX0_howManyLand_23 rfl rfl (by decide) rfl (fun _ => rfl) h (fun z1 h => ?_)
    refine a_goto C dX0_howManyLand_26 (tgt := 4) rfl ?_
    exact hk4 _ _ _ h
  have j4 : ∀ (n : Nat) (y1 : Int32) (y2 : Int32) (σ : HS), f_X0_howManyLand_4 a n y1 y2 σ = some R → AW ids ad ca Γ 4 [some (.ref (ad a)), some (.int y1), some (.int y2)] [] σ := by
    intro n
    induction n with
    | zero => intro y1 y2 σ h; exact nn h
    | succ n ih =>
      intro y1 y2 σ h
      have h : b_X0_howManyLand_4 a (f_X0_howManyLand_4 a n) y1 y2 σ = some R := h
      unfold b_X0_howManyLand_4 at h
      refine a_iload_n C dX0_howManyLand_4 (i := 2) rfl rfl ?_
      refine a_aload_n C dX0_howManyLand_5 (i := 0) rfl rfl ?_
      refine a_get C fl_RX0_33 (i := a) ha.1.1 (hid _ ha.1.2) (v := .int (σ.1 a 0)) rfl dX0_howManyLand_6 ?_
      refine p_ic_ge C (X := y2.toInt) (Y := (σ.1 a 0).toInt) rfl rfl dX0_howManyLand_9 (tgt := 29) rfl h (fun h => ?_) (fun h => ?_)
      ·
        refine a_iload_n C dX0_howManyLand_29 (i := 1) rfl rfl ?_
        exact a_iret Rt dX0_howManyLand_30 rfl (ret_eq (h.trans (congrArg some hR.symm)))
      ·
        refine a_aload_n C dX0_howManyLand_12 (i := 0) rfl rfl ?_
        refine a_iload_n C dX0_howManyLand_13 (i := 2) rfl rfl ?_
        refine p_callVi C (As := [.int y2]) (i := a) ha.1.1 (hid _ ha.1.2) ⟨_, _, rfl⟩ (by decide) h (fun _ _ e => Z_X0_landsNow hid ha e) mi_X0_landsNow ml_RX0_79 rfl rfl (Nat.le_of_ble_eq_true rfl) (Nat.le_of_ble_eq_true rfl) (Nat.le_of_ble_eq_true rfl) dX0_howManyLand_14 (fun r2 σ1 h => ?_)
        refine p_if_eq C (X := r2.toInt) rfl dX0_howManyLand_17 (tgt := 23) rfl h (fun h => ?_) (fun h => ?_)
        ·
          exact j23 (f_X0_howManyLand_4 a n) (fun y1 y2 σ h => ih y1 y2 σ h) _ _ _ h
        ·
          refine p_iinc C (y := (y1 + 1)) (fun z3 => [some (.ref (ad a)), some (.int z3), some (.int y2)]) dX0_howManyLand_20 rfl rfl (by decide) rfl (fun _ => rfl) h (fun z3 h => ?_)
          exact j23 (f_X0_howManyLand_4 a n) (fun y1 y2 σ h => ih y1 y2 σ h) _ _ _ h
  refine a_iconst C dX0_howManyLand_0 (v := 0) rfl ?_
  refine a_istore_n C dX0_howManyLand_1 (i := 1) rfl (by decide) rfl (vs1 := [some (.ref (ad a)), some (.int 0), none]) rfl ?_
  refine a_iconst C dX0_howManyLand_2 (v := 0) rfl ?_
  refine a_istore_n C dX0_howManyLand_3 (i := 2) rfl (by decide) rfl (vs1 := [some (.ref (ad a)), some (.int 0), some (.int 0)]) rfl ?_
  exact j4 _ _ _ _ h
set_option maxHeartbeats 4000000 in
set_option maxRecDepth 100000 in
theorem Z_X0_firstLanding {l : Launch} {D : va_G} {ids : List Nat} {ad : Nat → Nat} {ca : Nat → ClassId} {σ : HS} {a : Nat} {r0 : Int32} {s0 : HS} (hid : ∀ i, i < 277 → i ∈ ids) (ha : airOK a) (h : f_X0_firstLanding a σ = some (r0, s0)) : Ki l D ids ad ca yX0_firstLanding cX0_firstLanding 2 .int 1 21 [.ref (ad a)] σ (fun r σ1 => r = r0 ∧ σ1 = s0) := by
  obtain ⟨R, hR⟩ : ∃ R, (r0, s0) = R := ⟨_, rfl⟩
  replace h := h.trans (congrArg some hR)
  refine Ki.of (by decide) (Nat.le_of_ble_eq_true rfl) 1 (fun Γ C Rt => ?_)
  show AW ids ad ca Γ 0 [some (.ref (ad a)), none] [] σ
  unfold f_X0_firstLanding at h
  have j2 : ∀ (n : Nat) (y1 : Int32) (σ : HS), f_X0_firstLanding_2 a n y1 σ = some R → AW ids ad ca Γ 2 [some (.ref (ad a)), some (.int y1)] [] σ := by
    intro n
    induction n with
    | zero => intro y1 σ h; exact nn h
    | succ n ih =>
      intro y1 σ h
      have h : b_X0_firstLanding_2 a (f_X0_firstLanding_2 a n) y1 σ = some R := h
      unfold b_X0_firstLanding_2 at h
      refine a_iload_n C dX0_firstLanding_2 (i := 1) rfl rfl ?_
      refine a_aload_n C dX0_firstLanding_3 (i := 0) rfl rfl ?_
      refine a_get C fl_RX0_33 (i := a) ha.1.1 (hid _ ha.1.2) (v := .int (σ.1 a 0)) rfl dX0_firstLanding_4 ?_
      refine p_ic_ge C (X := y1.toInt) (Y := (σ.1 a 0).toInt) rfl rfl dX0_firstLanding_7 (tgt := 26) rfl h (fun h => ?_) (fun h => ?_)
      ·
        refine a_iconst C dX0_firstLanding_26 (v := (-1)) rfl ?_
        exact a_iret Rt dX0_firstLanding_27 rfl (ret_eq (h.trans (congrArg some hR.symm)))
      ·
        refine a_aload_n C dX0_firstLanding_10 (i := 0) rfl rfl ?_
        refine a_iload_n C dX0_firstLanding_11 (i := 1) rfl rfl ?_
        refine p_callVi C (As := [.int y1]) (i := a) ha.1.1 (hid _ ha.1.2) ⟨_, _, rfl⟩ (by decide) h (fun _ _ e => Z_X0_landsNow hid ha e) mi_X0_landsNow ml_RX0_79 rfl rfl (Nat.le_of_ble_eq_true rfl) (Nat.le_of_ble_eq_true rfl) (Nat.le_of_ble_eq_true rfl) dX0_firstLanding_12 (fun r2 σ1 h => ?_)
        refine p_if_eq C (X := r2.toInt) rfl dX0_firstLanding_15 (tgt := 20) rfl h (fun h => ?_) (fun h => ?_)
        ·
          refine p_iinc C (y := (y1 + 1)) (fun z3 => [some (.ref (ad a)), some (.int z3)]) dX0_firstLanding_20 rfl rfl (by decide) rfl (fun _ => rfl) h (fun z3 h => ?_)
          refine a_goto C dX0_firstLanding_23 (tgt := 2) rfl ?_
          exact ih _ _ h
        ·
          refine a_iload_n C dX0_firstLanding_18 (i := 1) rfl rfl ?_
          exact a_iret Rt dX0_firstLanding_19 rfl (ret_eq (h.trans (congrArg some hR.symm)))
  refine a_iconst C dX0_firstLanding_0 (v := 0) rfl ?_
  refine a_istore_n C dX0_firstLanding_1 (i := 1) rfl (by decide) rfl (vs1 := [some (.ref (ad a)), some (.int 0)]) rfl ?_
  exact j2 _ _ _ h
set_option maxHeartbeats 4000000 in
set_option maxRecDepth 100000 in
theorem Z_X0_landingBits {l : Launch} {D : va_G} {ids : List Nat} {ad : Nat → Nat} {ca : Nat → ClassId} {σ : HS} {a : Nat} {r0 : Int32} {s0 : HS} (hid : ∀ i, i < 277 → i ∈ ids) (ha : airOK a) (h : f_X0_landingBits a σ = some (r0, s0)) : Ki l D ids ad ca yX0_landingBits cX0_landingBits 3 .int 1 21 [.ref (ad a)] σ (fun r σ1 => r = r0 ∧ σ1 = s0) := by
  obtain ⟨R, hR⟩ : ∃ R, (r0, s0) = R := ⟨_, rfl⟩
  replace h := h.trans (congrArg some hR)
  refine Ki.of (by decide) (Nat.le_of_ble_eq_true rfl) 2 (fun Γ C Rt => ?_)
  show AW ids ad ca Γ 0 [some (.ref (ad a)), none, none] [] σ
  unfold f_X0_landingBits at h
  have j31 : ∀ (k4 : Int32 → Int32 → HS → Option (Int32 × HS)) (hk4 : ∀ (y1 : Int32) (y2 : Int32) (σ : HS), k4 y1 y2 σ = some R → AW ids ad ca Γ 4 [some (.ref (ad a)), some (.int y1), some (.int y2)] [] σ) (y1 : Int32) (y2 : Int32) (σ : HS), f_X0_landingBits_31 a k4 y1 y2 σ = some R → AW ids ad ca Γ 31 [some (.ref (ad a)), some (.int y1), some (.int y2)] [] σ := by
    intro k4 hk4 y1 y2 σ h
    unfold f_X0_landingBits_31 at h
    refine p_iinc C (y := (y2 + 1)) (fun z1 => [some (.ref (ad a)), some (.int y1), some (.int z1)]) dX0_landingBits_31 rfl rfl (by decide) rfl (fun _ => rfl) h (fun z1 h => ?_)
    refine a_goto C dX0_landingBits_34 (tgt := 4) rfl ?_
    exact hk4 _ _ _ h
  have j4 : ∀ (n : Nat) (y1 : Int32) (y2 : Int32) (σ : HS), f_X0_landingBits_4 a n y1 y2 σ = some R → AW ids ad ca Γ 4 [some (.ref (ad a)), some (.int y1), some (.int y2)] [] σ := by
    intro n
    induction n with
    | zero => intro y1 y2 σ h; exact nn h
    | succ n ih =>
      intro y1 y2 σ h
      have h : b_X0_landingBits_4 a (f_X0_landingBits_4 a n) y1 y2 σ = some R := h
      unfold b_X0_landingBits_4 at h
      refine a_iload_n C dX0_landingBits_4 (i := 2) rfl rfl ?_
      refine a_aload_n C dX0_landingBits_5 (i := 0) rfl rfl ?_
      refine a_get C fl_RX0_33 (i := a) ha.1.1 (hid _ ha.1.2) (v := .int (σ.1 a 0)) rfl dX0_landingBits_6 ?_
      refine p_ic_ge C (X := y2.toInt) (Y := (σ.1 a 0).toInt) rfl rfl dX0_landingBits_9 (tgt := 37) rfl h (fun h => ?_) (fun h => ?_)
      ·
        refine a_iload_n C dX0_landingBits_37 (i := 1) rfl rfl ?_
        exact a_iret Rt dX0_landingBits_38 rfl (ret_eq (h.trans (congrArg some hR.symm)))
      ·
        refine a_aload_n C dX0_landingBits_12 (i := 0) rfl rfl ?_
        refine a_iload_n C dX0_landingBits_13 (i := 2) rfl rfl ?_
        refine p_callVi C (As := [.int y2]) (i := a) ha.1.1 (hid _ ha.1.2) ⟨_, _, rfl⟩ (by decide) h (fun _ _ e => Z_X0_isUp hid ha e) mi_X0_isUp ml_RX0_83 rfl rfl (Nat.le_of_ble_eq_true rfl) (Nat.le_of_ble_eq_true rfl) (Nat.le_of_ble_eq_true rfl) dX0_landingBits_14 (fun r2 σ1 h => ?_)
        refine p_if_eq C (X := r2.toInt) rfl dX0_landingBits_17 (tgt := 31) rfl h (fun h => ?_) (fun h => ?_)
        ·
          exact j31 (f_X0_landingBits_4 a n) (fun y1 y2 σ h => ih y1 y2 σ h) _ _ _ h
        ·
          refine a_iload_n C dX0_landingBits_20 (i := 1) rfl rfl ?_
          refine a_iconst C dX0_landingBits_21 (v := 1) rfl ?_
          refine a_aload_n C dX0_landingBits_22 (i := 0) rfl rfl ?_
          refine a_get C fl_RX0_15 (i := a) ha.1.1 (hid _ ha.1.2) (v := .ref (ad (a + 2))) rfl dX0_landingBits_23 ?_
          refine a_iload_n C dX0_landingBits_26 (i := 2) rfl rfl ?_
          refine p_iald C (i := (a + 2)) ha.2.2.1.1 hid (by rw [ha.2.2.1.2]; rfl) dX0_landingBits_27 h (fun h => ?_)
          refine a_ishl C dX0_landingBits_28 ?_
          refine a_ior C dX0_landingBits_29 ?_
          refine p_istore_n C (fun z3 => [some (.ref (ad a)), some (.int z3), some (.int y2)]) dX0_landingBits_30 (i := 1) rfl (by decide) rfl (fun _ => rfl) h (fun z3 h => ?_)
          exact j31 (f_X0_landingBits_4 a n) (fun y1 y2 σ h => ih y1 y2 σ h) _ _ _ h
  refine a_iconst C dX0_landingBits_0 (v := 0) rfl ?_
  refine a_istore_n C dX0_landingBits_1 (i := 1) rfl (by decide) rfl (vs1 := [some (.ref (ad a)), some (.int 0), none]) rfl ?_
  refine a_iconst C dX0_landingBits_2 (v := 0) rfl ?_
  refine a_istore_n C dX0_landingBits_3 (i := 2) rfl (by decide) rfl (vs1 := [some (.ref (ad a)), some (.int 0), some (.int 0)]) rfl ?_
  exact j4 _ _ _ _ h
set_option maxHeartbeats 4000000 in
set_option maxRecDepth 100000 in
theorem Z_X0_twoLandAlike {l : Launch} {D : va_G} {ids : List Nat} {ad : Nat → Nat} {ca : Nat → ClassId} {σ : HS} {a : Nat} {r0 : Int32} {s0 : HS} (hid : ∀ i, i < 277 → i ∈ ids) (ha : airOK a) (h : f_X0_twoLandAlike a σ = some (r0, s0)) : Ki l D ids ad ca yX0_twoLandAlike cX0_twoLandAlike 1 .boolean 2 43 [.ref (ad a)] σ (fun r σ1 => r = r0 ∧ σ1 = s0) := by
  obtain ⟨R, hR⟩ : ∃ R, (r0, s0) = R := ⟨_, rfl⟩
  replace h := h.trans (congrArg some hR)
  refine Ki.of (by decide) (Nat.le_of_ble_eq_true rfl) 0 (fun Γ C Rt => ?_)
  show AW ids ad ca Γ 0 [some (.ref (ad a))] [] σ
  unfold f_X0_twoLandAlike at h
  refine a_aload_n C dX0_twoLandAlike_0 (i := 0) rfl rfl ?_
  refine p_callVi C (As := []) (i := a) ha.1.1 (hid _ ha.1.2) ⟨_, _, rfl⟩ (by decide) h (fun _ _ e => Z_X0_landingBits hid ha e) mi_X0_landingBits ml_RX0_86 rfl rfl (Nat.le_of_ble_eq_true rfl) (Nat.le_of_ble_eq_true rfl) (Nat.le_of_ble_eq_true rfl) dX0_twoLandAlike_1 (fun r2 σ1 h => ?_)
  refine p_callSi C (As := [.int r2]) h (fun _ _ e => Z_J6_bitCount_0f7a4 hid e) ms_J6_bitCount_0f7a4 ml_RX0_74 rfl rfl (Nat.le_of_ble_eq_true rfl) (Nat.le_of_ble_eq_true rfl) (Nat.le_of_ble_eq_true rfl) dX0_twoLandAlike_4 (fun r4 σ3 h => ?_)
  refine a_aload_n C dX0_twoLandAlike_7 (i := 0) rfl rfl ?_
  refine p_callVi C (As := []) (i := a) ha.1.1 (hid _ ha.1.2) ⟨_, _, rfl⟩ (by decide) h (fun _ _ e => Z_X0_howManyUp hid ha e) mi_X0_howManyUp ml_RX0_90 rfl rfl (Nat.le_of_ble_eq_true rfl) (Nat.le_of_ble_eq_true rfl) (Nat.le_of_ble_eq_true rfl) dX0_twoLandAlike_8 (fun r6 σ5 h => ?_)
  refine p_ic_ge C (X := r4.toInt) (Y := r6.toInt) rfl rfl dX0_twoLandAlike_11 (tgt := 18) rfl h (fun h => ?_) (fun h => ?_)
  ·
    refine a_iconst C dX0_twoLandAlike_18 (v := 0) rfl ?_
    exact a_iret Rt dX0_twoLandAlike_19 (nar_z (by decide)).1 (ret_eq (h.trans (congrArg some hR.symm)))
  ·
    refine a_iconst C dX0_twoLandAlike_14 (v := 1) rfl ?_
    refine a_goto C dX0_twoLandAlike_15 (tgt := 19) rfl ?_
    exact a_iret Rt dX0_twoLandAlike_19 (nar_z (by decide)).1 (ret_eq (h.trans (congrArg some hR.symm)))
set_option maxHeartbeats 4000000 in
set_option maxRecDepth 100000 in
theorem Z_X10_hasPattern {l : Launch} {D : va_G} {ids : List Nat} {ad : Nat → Nat} {ca : Nat → ClassId} {σ : HS} {t : Nat} {x1 : Int32} {r0 : Int32} {s0 : HS} (hid : ∀ i, i < 277 → i ∈ ids) (ht : txtOK t) (h : f_X10_hasPattern t x1 σ = some (r0, s0)) : Ki l D ids ad ca yX10_hasPattern cX10_hasPattern 2 .boolean 0 0 [.ref (ad t), .int x1] σ (fun r σ1 => r = r0 ∧ σ1 = s0) := by
  obtain ⟨R, hR⟩ : ∃ R, (r0, s0) = R := ⟨_, rfl⟩
  replace h := h.trans (congrArg some hR)
  refine Ki.of (by decide) (Nat.le_of_ble_eq_true rfl) 0 (fun Γ C Rt => ?_)
  show AW ids ad ca Γ 0 [some (.ref (ad t)), some (.int x1)] [] σ
  unfold f_X10_hasPattern at h
  refine a_iload_n C dX10_hasPattern_0 (i := 1) rfl rfl ?_
  refine p_if_lt C (X := x1.toInt) rfl dX10_hasPattern_1 (tgt := 16) rfl h (fun h => ?_) (fun h => ?_)
  ·
    refine a_iconst C dX10_hasPattern_16 (v := 0) rfl ?_
    exact a_iret Rt dX10_hasPattern_17 (nar_z (by decide)).1 (ret_eq (h.trans (congrArg some hR.symm)))
  ·
    refine a_iload_n C dX10_hasPattern_4 (i := 1) rfl rfl ?_
    refine a_aload_n C dX10_hasPattern_5 (i := 0) rfl rfl ?_
    refine a_get C fl_RX10_42 (i := t) ht.1.1 (hid _ ht.1.2) (v := .int (σ.1 t 4)) rfl dX10_hasPattern_6 ?_
    refine p_ic_ge C (X := x1.toInt) (Y := (σ.1 t 4).toInt) rfl rfl dX10_hasPattern_9 (tgt := 16) rfl h (fun h => ?_) (fun h => ?_)
    ·
      refine a_iconst C dX10_hasPattern_16 (v := 0) rfl ?_
      exact a_iret Rt dX10_hasPattern_17 (nar_z (by decide)).1 (ret_eq (h.trans (congrArg some hR.symm)))
    ·
      refine a_iconst C dX10_hasPattern_12 (v := 1) rfl ?_
      refine a_goto C dX10_hasPattern_13 (tgt := 17) rfl ?_
      exact a_iret Rt dX10_hasPattern_17 (nar_z (by decide)).1 (ret_eq (h.trans (congrArg some hR.symm)))
set_option maxHeartbeats 4000000 in
set_option maxRecDepth 100000 in
theorem Z_J9_floorMod_7cf53 {l : Launch} {D : va_G} {ids : List Nat} {ad : Nat → Nat} {ca : Nat → ClassId} {σ : HS} {x1 : Int32} {x2 : Int32} {r0 : Int32} {s0 : HS} (hid : ∀ i, i < 277 → i ∈ ids) (h : f_J9_floorMod_7cf53 x1 x2 σ = some (r0, s0)) : Ki l D ids ad ca yJ9_floorMod_7cf53 cJ9_floorMod_7cf53 3 .int 0 0 [.int x1, .int x2] σ (fun r σ1 => r = r0 ∧ σ1 = s0) := by
  obtain ⟨R, hR⟩ : ∃ R, (r0, s0) = R := ⟨_, rfl⟩
  replace h := h.trans (congrArg some hR)
  refine Ki.ofF (by decide +kernel) (Nat.le_of_ble_eq_true rfl) 1 (fun Γ C Rt => ?_)
  show AW ids ad ca Γ 0 [some (.int x1), some (.int x2), none] [] σ
  unfold f_J9_floorMod_7cf53 at h
  refine a_iload_n C dJ9_floorMod_7cf53_0 (i := 0) rfl rfl ?_
  refine a_iload_n C dJ9_floorMod_7cf53_1 (i := 1) rfl rfl ?_
  refine p_irem C rfl dJ9_floorMod_7cf53_2 h (fun h => ?_)
  refine p_istore_n C (fun z1 => [some (.int x1), some (.int x2), some (.int z1)]) dJ9_floorMod_7cf53_3 (i := 2) rfl (by decide) rfl (fun _ => rfl) h (fun z1 h => ?_)
  refine a_iload_n C dJ9_floorMod_7cf53_4 (i := 0) rfl rfl ?_
  refine a_iload_n C dJ9_floorMod_7cf53_5 (i := 1) rfl rfl ?_
  refine a_ixor C dJ9_floorMod_7cf53_6 ?_
  refine p_if_ge C (X := (x1 ^^^ x2).toInt) rfl dJ9_floorMod_7cf53_7 (tgt := 18) rfl h (fun h => ?_) (fun h => ?_)
  ·
    refine a_iload_n C dJ9_floorMod_7cf53_18 (i := 2) rfl rfl ?_
    exact a_iret Rt dJ9_floorMod_7cf53_19 rfl (ret_eq (h.trans (congrArg some hR.symm)))
  ·
    refine a_iload_n C dJ9_floorMod_7cf53_10 (i := 2) rfl rfl ?_
    refine p_if_eq C (X := z1.toInt) rfl dJ9_floorMod_7cf53_11 (tgt := 18) rfl h (fun h => ?_) (fun h => ?_)
    ·
      refine a_iload_n C dJ9_floorMod_7cf53_18 (i := 2) rfl rfl ?_
      exact a_iret Rt dJ9_floorMod_7cf53_19 rfl (ret_eq (h.trans (congrArg some hR.symm)))
    ·
      refine a_iload_n C dJ9_floorMod_7cf53_14 (i := 2) rfl rfl ?_
      refine a_iload_n C dJ9_floorMod_7cf53_15 (i := 1) rfl rfl ?_
      refine a_iadd C dJ9_floorMod_7cf53_16 ?_
      exact a_iret Rt dJ9_floorMod_7cf53_17 rfl (ret_eq (h.trans (congrArg some hR.symm)))
set_option maxHeartbeats 4000000 in
set_option maxRecDepth 100000 in
theorem Z_X0_heightBy {l : Launch} {D : va_G} {ids : List Nat} {ad : Nat → Nat} {ca : Nat → ClassId} {σ : HS} {a : Nat} {p1 : Nat} {r0 : Int32} {s0 : HS} (hid : ∀ i, i < 277 → i ∈ ids) (ha : airOK a) (hp1 : txtOK p1) (h : f_X0_heightBy a p1 σ = some (r0, s0)) : Ki l D ids ad ca yX0_heightBy cX0_heightBy 2 .int 1 22 [.ref (ad a), .ref (ad p1)] σ (fun r σ1 => r = r0 ∧ σ1 = s0) := by
  obtain ⟨R, hR⟩ : ∃ R, (r0, s0) = R := ⟨_, rfl⟩
  replace h := h.trans (congrArg some hR)
  refine Ki.of (by decide) (Nat.le_of_ble_eq_true rfl) 0 (fun Γ C Rt => ?_)
  show AW ids ad ca Γ 0 [some (.ref (ad a)), some (.ref (ad p1))] [] σ
  unfold f_X0_heightBy at h
  refine a_aload_n C dX0_heightBy_0 (i := 0) rfl rfl ?_
  refine a_get C fl_RX0_25 (i := a) ha.1.1 (hid _ ha.1.2) (v := .int (σ.1 a 11)) rfl dX0_heightBy_1 ?_
  refine a_iconst C dX0_heightBy_4 (v := (-1)) rfl ?_
  refine p_ic_eq C (X := (σ.1 a 11).toInt) (Y := (-1)) rfl (by decide) dX0_heightBy_5 (tgt := 13) rfl h (fun h => ?_) (fun h => ?_)
  ·
    refine a_aload_n C dX0_heightBy_13 (i := 1) rfl rfl ?_
    refine a_aload_n C dX0_heightBy_14 (i := 0) rfl rfl ?_
    refine a_get C fl_RX0_21 (i := a) ha.1.1 (hid _ ha.1.2) (v := .int (σ.1 a 9)) rfl dX0_heightBy_15 ?_
    refine p_callVi C (As := [.int (σ.1 a 9)]) (i := p1) hp1.1.1 (hid _ hp1.1.2) ⟨_, _, rfl⟩ (by decide) h (fun _ _ e => Z_X10_hasPattern hid hp1 e) mi_X10_hasPattern ml_RX0_93 rfl rfl (Nat.le_of_ble_eq_true rfl) (Nat.le_of_ble_eq_true rfl) (Nat.le_of_ble_eq_true rfl) dX0_heightBy_18 (fun r2 σ1 h => ?_)
    refine p_if_eq C (X := r2.toInt) rfl dX0_heightBy_21 (tgt := 37) rfl h (fun h => ?_) (fun h => ?_)
    ·
      refine a_iconst C dX0_heightBy_37 (v := 3) rfl ?_
      exact a_iret Rt dX0_heightBy_38 rfl (ret_eq (h.trans (congrArg some hR.symm)))
    ·
      refine a_aload_n C dX0_heightBy_24 (i := 1) rfl rfl ?_
      refine a_get C fl_RX0_96 (i := p1) hp1.1.1 (hid _ hp1.1.2) (v := .ref (ad (p1 + 10))) rfl dX0_heightBy_25 ?_
      refine a_aload_n C dX0_heightBy_28 (i := 0) rfl rfl ?_
      refine a_get C fl_RX0_21 (i := a) ha.1.1 (hid _ ha.1.2) (v := .int (σ1.1 a 9)) rfl dX0_heightBy_29 ?_
      refine p_iald C (i := (p1 + 10)) hp1.2.2.2.2.1.1 hid (by rw [hp1.2.2.2.2.1.2]; rfl) dX0_heightBy_32 h (fun h => ?_)
      refine a_iconst C dX0_heightBy_33 (v := 1) rfl ?_
      refine p_ic_ge C (X := (σ1.1 (p1 + 10) (σ1.1 a 9).toInt.toNat).toInt) (Y := 1) rfl (by decide) dX0_heightBy_34 (tgt := 39) rfl h (fun h => ?_) (fun h => ?_)
      ·
        refine a_aload_n C dX0_heightBy_39 (i := 1) rfl rfl ?_
        refine a_get C fl_RX0_99 (i := p1) hp1.1.1 (hid _ hp1.1.2) (v := .ref (ad (p1 + 4))) rfl dX0_heightBy_40 ?_
        refine a_aload_n C dX0_heightBy_43 (i := 0) rfl rfl ?_
        refine a_get C fl_RX0_21 (i := a) ha.1.1 (hid _ ha.1.2) (v := .int (σ1.1 a 9)) rfl dX0_heightBy_44 ?_
        refine p_aaldH C (t := p1) hp1 hid dX0_heightBy_47 h (fun hr3 h => ?_)
        refine a_aload_n C dX0_heightBy_48 (i := 0) rfl rfl ?_
        refine a_get C fl_RX0_49 (i := a) ha.1.1 (hid _ ha.1.2) (v := .int (σ1.1 a 4)) rfl dX0_heightBy_49 ?_
        refine a_aload_n C dX0_heightBy_52 (i := 0) rfl rfl ?_
        refine a_get C fl_RX0_67 (i := a) ha.1.1 (hid _ ha.1.2) (v := .int (σ1.1 a 10)) rfl dX0_heightBy_53 ?_
        refine a_isub C dX0_heightBy_56 ?_
        refine a_aload_n C dX0_heightBy_57 (i := 1) rfl rfl ?_
        refine a_get C fl_RX0_96 (i := p1) hp1.1.1 (hid _ hp1.1.2) (v := .ref (ad (p1 + 10))) rfl dX0_heightBy_58 ?_
        refine a_aload_n C dX0_heightBy_61 (i := 0) rfl rfl ?_
        refine a_get C fl_RX0_21 (i := a) ha.1.1 (hid _ ha.1.2) (v := .int (σ1.1 a 9)) rfl dX0_heightBy_62 ?_
        refine p_iald C (i := (p1 + 10)) hp1.2.2.2.2.1.1 hid (by rw [hp1.2.2.2.2.1.2]; rfl) dX0_heightBy_65 h (fun h => ?_)
        refine p_callSi C (As := [.int ((σ1.1 a 4) - (σ1.1 a 10)), .int (σ1.1 (p1 + 10) (σ1.1 a 9).toInt.toNat)]) h (fun _ _ e => Z_J9_floorMod_7cf53 hid e) ms_J9_floorMod_7cf53 ml_RX0_103 rfl rfl (Nat.le_of_ble_eq_true rfl) (Nat.le_of_ble_eq_true rfl) (Nat.le_of_ble_eq_true rfl) dX0_heightBy_66 (fun r5 σ4 h => ?_)
        refine p_iald C (i := (p1 + 5 + (σ1.1 a 9).toInt.toNat)) hr3.1 hid (by rw [hr3.2]; rfl) dX0_heightBy_69 h (fun h => ?_)
        exact a_iret Rt dX0_heightBy_70 rfl (ret_eq (h.trans (congrArg some hR.symm)))
      ·
        refine a_iconst C dX0_heightBy_37 (v := 3) rfl ?_
        exact a_iret Rt dX0_heightBy_38 rfl (ret_eq (h.trans (congrArg some hR.symm)))
  ·
    refine a_aload_n C dX0_heightBy_8 (i := 0) rfl rfl ?_
    refine a_get C fl_RX0_25 (i := a) ha.1.1 (hid _ ha.1.2) (v := .int (σ.1 a 11)) rfl dX0_heightBy_9 ?_
    exact a_iret Rt dX0_heightBy_12 rfl (ret_eq (h.trans (congrArg some hR.symm)))
set_option maxHeartbeats 4000000 in
set_option maxRecDepth 100000 in
theorem Z_X1_pop {l : Launch} {D : va_G} {ids : List Nat} {ad : Nat → Nat} {ca : Nat → ClassId} {σ : HS} {r0 : Int32} {s0 : HS} (hid : ∀ i, i < 277 → i ∈ ids) (h : f_X1_pop σ = some (r0, s0)) : Ki l D ids ad ca yX1_pop cX1_pop 1 .int 0 0 [.ref (ad 9)] σ (fun r σ1 => r = r0 ∧ σ1 = s0) := by
  obtain ⟨R, hR⟩ : ∃ R, (r0, s0) = R := ⟨_, rfl⟩
  replace h := h.trans (congrArg some hR)
  refine Ki.of (by decide) (Nat.le_of_ble_eq_true rfl) 0 (fun Γ C Rt => ?_)
  show AW ids ad ca Γ 0 [some (.ref (ad 9))] [] σ
  unfold f_X1_pop at h
  refine a_aload_n C dX1_pop_0 (i := 0) rfl rfl ?_
  refine a_get C fl_RX1_18 (i := 9) kd_9 (hid 9 (by decide)) (v := .int (σ.1 9 2)) rfl dX1_pop_1 ?_
  refine a_iconst C dX1_pop_4 (v := 1) rfl ?_
  refine p_ic_ge C (X := (σ.1 9 2).toInt) (Y := 1) rfl (by decide) dX1_pop_5 (tgt := 15) rfl h (fun h => ?_) (fun h => ?_)
  ·
    refine a_aload_n C dX1_pop_15 (i := 0) rfl rfl ?_
    refine a_dup C dX1_pop_16 rfl ?_
    refine a_get C fl_RX1_18 (i := 9) kd_9 (hid 9 (by decide)) (v := .int (σ.1 9 2)) rfl dX1_pop_17 ?_
    refine a_iconst C dX1_pop_20 (v := 1) rfl ?_
    refine a_isub C dX1_pop_21 ?_
    refine p_put C fp_RX1_18 (i := 9) kd_9 (hid 9 (by decide)) rfl rfl dX1_pop_22 h (fun σ1 h => ?_)
    refine a_aload_n C dX1_pop_25 (i := 0) rfl rfl ?_
    refine a_get C fl_RX1_15 (i := 9) kd_9 (hid 9 (by decide)) (v := .ref (ad 11)) rfl dX1_pop_26 ?_
    refine a_aload_n C dX1_pop_29 (i := 0) rfl rfl ?_
    refine a_get C fl_RX1_18 (i := 9) kd_9 (hid 9 (by decide)) (v := .int (σ1.1 9 2)) rfl dX1_pop_30 ?_
    refine p_iald C (i := 11) (show rowOK 11 from ⟨kd_11, by decide⟩) hid (by rw [al_11]; rfl) dX1_pop_33 h (fun h => ?_)
    exact a_iret Rt dX1_pop_34 rfl (ret_eq (h.trans (congrArg some hR.symm)))
  ·
    refine a_aload_n C dX1_pop_8 (i := 0) rfl rfl ?_
    refine a_iconst C dX1_pop_9 (v := 1) rfl ?_
    refine p_put C fp_RX1_22 (i := 9) kd_9 (hid 9 (by decide)) (nar_z (by decide)).1 (nar_z (by decide)).2 dX1_pop_10 h (fun σ2 h => ?_)
    refine a_iconst C dX1_pop_13 (v := 0) rfl ?_
    exact a_iret Rt dX1_pop_14 rfl (ret_eq (h.trans (congrArg some hR.symm)))
set_option maxHeartbeats 4000000 in
set_option maxRecDepth 100000 in
theorem Z_X1_reckon {l : Launch} {D : va_G} {ids : List Nat} {ad : Nat → Nat} {ca : Nat → ClassId} {σ : HS} {x1 : Int32} {x2 : Int32} {x3 : Int32} {r0 : Int32} {s0 : HS} (hid : ∀ i, i < 277 → i ∈ ids) (h : f_X1_reckon x1 x2 x3 σ = some (r0, s0)) : Ki l D ids ad ca yX1_reckon cX1_reckon 4 .int 0 0 [.ref (ad 9), .int x1, .int x2, .int x3] σ (fun r σ1 => r = r0 ∧ σ1 = s0) := by
  obtain ⟨R, hR⟩ : ∃ R, (r0, s0) = R := ⟨_, rfl⟩
  replace h := h.trans (congrArg some hR)
  refine Ki.of (by decide) (Nat.le_of_ble_eq_true rfl) 0 (fun Γ C Rt => ?_)
  show AW ids ad ca Γ 0 [some (.ref (ad 9)), some (.int x1), some (.int x2), some (.int x3)] [] σ
  unfold f_X1_reckon at h
  have j57 : ∀ (y2 : Int32) (y3 : Int32) (v0 : Int32) (σ : HS), f_X1_reckon_57 y2 y3 v0 σ = some R → AW ids ad ca Γ 57 [none, none, some (.int y2), some (.int y3)] [.int v0, .ref (ad 9)] σ := by
    intro y2 y3 v0 σ h
    unfold f_X1_reckon_57 at h
    refine ite_n h (fun hz1 h => ?_)
    refine p_put C fp_RX1_22 (i := 9) kd_9 (hid 9 (by decide)) (nar_z hz1).1 (nar_z hz1).2 dX1_reckon_57 h (fun σ2 h => ?_)
    refine a_iload_n C dX1_reckon_60 (i := 3) rfl rfl ?_
    refine p_if_ne C (X := y3.toInt) rfl dX1_reckon_61 (tgt := 68) rfl h (fun h => ?_) (fun h => ?_)
    ·
      refine a_iload_n C dX1_reckon_68 (i := 2) rfl rfl ?_
      refine a_iload_n C dX1_reckon_69 (i := 3) rfl rfl ?_
      refine p_idiv C rfl dX1_reckon_70 h (fun h => ?_)
      exact a_iret Rt dX1_reckon_71 rfl (ret_eq (h.trans (congrArg some hR.symm)))
    ·
      refine a_iconst C dX1_reckon_64 (v := 0) rfl ?_
      refine a_goto C dX1_reckon_65 (tgt := 71) rfl ?_
      exact a_iret Rt dX1_reckon_71 rfl (ret_eq (h.trans (congrArg some hR.symm)))
  have j52 : ∀ (y2 : Int32) (y3 : Int32) (σ : HS), f_X1_reckon_52 y2 y3 σ = some R → AW ids ad ca Γ 52 [none, none, some (.int y2), some (.int y3)] [.ref (ad 9)] σ := by
    intro y2 y3 σ h
    unfold f_X1_reckon_52 at h
    refine a_iconst C dX1_reckon_52 (v := 1) rfl ?_
    refine a_goto C dX1_reckon_53 (tgt := 57) rfl ?_
    exact j57 _ _ _ _ h
  refine a_iload_n C dX1_reckon_0 (i := 1) rfl rfl ?_
  refine ite_k h (fun c1 h => ?_) (fun c1 h => ?_)
  ·
    refine a_tableIn C dX1_reckon_1 (by omega) (by omega) (by rw [c1]; rfl) (tgt := 36) rfl ?_
    refine a_iload_n C dX1_reckon_36 (i := 2) rfl rfl ?_
    refine a_iload_n C dX1_reckon_37 (i := 3) rfl rfl ?_
    refine a_imul C dX1_reckon_38 ?_
    exact a_iret Rt dX1_reckon_39 rfl (ret_eq (h.trans (congrArg some hR.symm)))
  ·
    refine ite_k h (fun c2 h => ?_) (fun c2 h => ?_)
    ·
      refine a_tableIn C dX1_reckon_1 (by omega) (by omega) (by rw [c2]; rfl) (tgt := 32) rfl ?_
      refine a_iload_n C dX1_reckon_32 (i := 2) rfl rfl ?_
      refine a_iload_n C dX1_reckon_33 (i := 3) rfl rfl ?_
      refine a_isub C dX1_reckon_34 ?_
      exact a_iret Rt dX1_reckon_35 rfl (ret_eq (h.trans (congrArg some hR.symm)))
    ·
      refine ite_k h (fun c3 h => ?_) (fun c3 h => ?_)
      ·
        refine a_tableIn C dX1_reckon_1 (by omega) (by omega) (by rw [c3]; rfl) (tgt := 28) rfl ?_
        refine a_iload_n C dX1_reckon_28 (i := 2) rfl rfl ?_
        refine a_iload_n C dX1_reckon_29 (i := 3) rfl rfl ?_
        refine a_iadd C dX1_reckon_30 ?_
        exact a_iret Rt dX1_reckon_31 rfl (ret_eq (h.trans (congrArg some hR.symm)))
      ·
        refine a_tableOut C dX1_reckon_1 (by omega) (tgt := 40) rfl ?_
        refine a_aload_n C dX1_reckon_40 (i := 0) rfl rfl ?_
        refine a_aload_n C dX1_reckon_41 (i := 0) rfl rfl ?_
        refine a_get C fl_RX1_22 (i := 9) kd_9 (hid 9 (by decide)) (v := .int (σ.1 9 3)) rfl dX1_reckon_42 ?_
        refine p_if_ne C (X := (σ.1 9 3).toInt) rfl dX1_reckon_45 (tgt := 52) rfl h (fun h => ?_) (fun h => ?_)
        ·
          refine AW.sub (vs' := [none, none, some (.int x2), some (.int x3)]) (lsub_of (by simp [lsubB])) ?_
          exact j52 _ _ _ h
        ·
          refine a_iload_n C dX1_reckon_48 (i := 3) rfl rfl ?_
          refine p_if_ne C (X := x3.toInt) rfl dX1_reckon_49 (tgt := 56) rfl h (fun h => ?_) (fun h => ?_)
          ·
            refine a_iconst C dX1_reckon_56 (v := 0) rfl ?_
            refine AW.sub (vs' := [none, none, some (.int x2), some (.int x3)]) (lsub_of (by simp [lsubB])) ?_
            exact j57 _ _ _ _ h
          ·
            refine AW.sub (vs' := [none, none, some (.int x2), some (.int x3)]) (lsub_of (by simp [lsubB])) ?_
            exact j52 _ _ _ h
set_option maxHeartbeats 4000000 in
set_option maxRecDepth 100000 in
theorem Z_X1_push {l : Launch} {D : va_G} {ids : List Nat} {ad : Nat → Nat} {ca : Nat → ClassId} {σ : HS} {x1 : Int32} {s0 : HS} (hid : ∀ i, i < 277 → i ∈ ids) (h : f_X1_push x1 σ = some s0) : Kv l D ids ad ca yX1_push cX1_push 2 0 0 [.ref (ad 9), .int x1] σ (fun σ1 => σ1 = s0) := by
  obtain ⟨R, hR⟩ : ∃ R, s0 = R := ⟨_, rfl⟩
  replace h := h.trans (congrArg some hR)
  refine Kv.of (by decide) (Nat.le_of_ble_eq_true rfl) 0 (fun Γ C Rt => ?_)
  show AW ids ad ca Γ 0 [some (.ref (ad 9)), some (.int x1)] [] σ
  unfold f_X1_push at h
  refine a_aload_n C dX1_push_0 (i := 0) rfl rfl ?_
  refine a_get C fl_RX1_18 (i := 9) kd_9 (hid 9 (by decide)) (v := .int (σ.1 9 2)) rfl dX1_push_1 ?_
  refine a_bipush C dX1_push_4 (v := 32) rfl ?_
  refine p_ic_lt C (X := (σ.1 9 2).toInt) (Y := 32) rfl (by decide) dX1_push_6 (tgt := 17) rfl h (fun h => ?_) (fun h => ?_)
  ·
    refine a_aload_n C dX1_push_17 (i := 0) rfl rfl ?_
    refine a_get C fl_RX1_15 (i := 9) kd_9 (hid 9 (by decide)) (v := .ref (ad 11)) rfl dX1_push_18 ?_
    refine a_aload_n C dX1_push_21 (i := 0) rfl rfl ?_
    refine a_get C fl_RX1_18 (i := 9) kd_9 (hid 9 (by decide)) (v := .int (σ.1 9 2)) rfl dX1_push_22 ?_
    refine a_iload_n C dX1_push_25 (i := 1) rfl rfl ?_
    refine p_iast C (i := 11) (show rowOK 11 from ⟨kd_11, by decide⟩) hid (by rw [al_11]; rfl) dX1_push_26 h (fun σ1 h => ?_)
    refine a_aload_n C dX1_push_27 (i := 0) rfl rfl ?_
    refine a_dup C dX1_push_28 rfl ?_
    refine a_get C fl_RX1_18 (i := 9) kd_9 (hid 9 (by decide)) (v := .int (σ1.1 9 2)) rfl dX1_push_29 ?_
    refine a_iconst C dX1_push_32 (v := 1) rfl ?_
    refine a_iadd C dX1_push_33 ?_
    refine p_put C fp_RX1_18 (i := 9) kd_9 (hid 9 (by decide)) rfl rfl dX1_push_34 h (fun σ2 h => ?_)
    exact a_vret Rt dX1_push_37 (retv_eq (h.trans (congrArg some hR.symm)))
  ·
    refine a_aload_n C dX1_push_9 (i := 0) rfl rfl ?_
    refine a_iconst C dX1_push_10 (v := 1) rfl ?_
    refine p_put C fp_RX1_22 (i := 9) kd_9 (hid 9 (by decide)) (nar_z (by decide)).1 (nar_z (by decide)).2 dX1_push_11 h (fun σ3 h => ?_)
    refine a_goto C dX1_push_14 (tgt := 37) rfl ?_
    exact a_vret Rt dX1_push_37 (retv_eq (h.trans (congrArg some hR.symm)))
set_option maxHeartbeats 4000000 in
set_option maxRecDepth 100000 in
theorem Z_X1_answer {l : Launch} {D : va_G} {ids : List Nat} {ad : Nat → Nat} {ca : Nat → ClassId} {σ : HS} {p1 : Nat} {x2 : Int32} {r0 : Int32} {s0 : HS} (hid : ∀ i, i < 277 → i ∈ ids) (hp1 : rowOK p1) (h : f_X1_answer p1 x2 σ = some (r0, s0)) : Ki l D ids ad ca yX1_answer cX1_answer 8 .int 1 23 [.ref (ad 9), .ref (ad p1), .int x2] σ (fun r σ1 => r = r0 ∧ σ1 = s0) := by
  obtain ⟨R, hR⟩ : ∃ R, (r0, s0) = R := ⟨_, rfl⟩
  replace h := h.trans (congrArg some hR)
  refine Ki.of (by decide) (Nat.le_of_ble_eq_true rfl) 5 (fun Γ C Rt => ?_)
  show AW ids ad ca Γ 0 [some (.ref (ad 9)), some (.ref (ad p1)), some (.int x2), none, none, none, none, none] [] σ
  unfold f_X1_answer at h
  have j178 : ∀ (k15 : Int32 → Int32 → HS → Option (Int32 × HS)) (hk15 : ∀ (y3 : Int32) (y4 : Int32) (σ : HS), k15 y3 y4 σ = some R → AW ids ad ca Γ 15 [some (.ref (ad 9)), some (.ref (ad p1)), none, some (.int y3), some (.int y4), none, none, none] [] σ) (y3 : Int32) (y4 : Int32) (σ : HS), f_X1_answer_178 p1 k15 y3 y4 σ = some R → AW ids ad ca Γ 178 [some (.ref (ad 9)), some (.ref (ad p1)), none, some (.int y3), some (.int y4), none, none, none] [] σ := by
    intro k15 hk15 y3 y4 σ h
    unfold f_X1_answer_178 at h
    refine p_iinc C (y := (y4 + 1)) (fun z1 => [some (.ref (ad 9)), some (.ref (ad p1)), none, some (.int y3), some (.int z1), none, none, none]) dX1_answer_178 rfl rfl (by decide) rfl (fun _ => rfl) h (fun z1 h => ?_)
    refine a_goto C dX1_answer_181 (tgt := 15) rfl ?_
    exact hk15 _ _ _ h
  have j168 : ∀ (k15 : Int32 → Int32 → HS → Option (Int32 × HS)) (hk15 : ∀ (y3 : Int32) (y4 : Int32) (σ : HS), k15 y3 y4 σ = some R → AW ids ad ca Γ 15 [some (.ref (ad 9)), some (.ref (ad p1)), none, some (.int y3), some (.int y4), none, none, none] [] σ) (y3 : Int32) (y4 : Int32) (σ : HS), f_X1_answer_168 p1 k15 y3 y4 σ = some R → AW ids ad ca Γ 168 [some (.ref (ad 9)), some (.ref (ad p1)), none, some (.int y3), some (.int y4), none, none, none] [] σ := by
    intro k15 hk15 y3 y4 σ h
    unfold f_X1_answer_168 at h
    refine p_iinc C (y := (y3 + 1)) (fun z1 => [some (.ref (ad 9)), some (.ref (ad p1)), none, some (.int z1), some (.int y4), none, none, none]) dX1_answer_168 rfl rfl (by decide) rfl (fun _ => rfl) h (fun z1 h => ?_)
    refine a_goto C dX1_answer_171 (tgt := 178) rfl ?_
    exact j178 k15 hk15 _ _ _ h
  have j92 : ∀ (k15 : Int32 → Int32 → HS → Option (Int32 × HS)) (hk15 : ∀ (y3 : Int32) (y4 : Int32) (σ : HS), k15 y3 y4 σ = some R → AW ids ad ca Γ 15 [some (.ref (ad 9)), some (.ref (ad p1)), none, some (.int y3), some (.int y4), none, none, none] [] σ) (y3 : Int32) (y4 : Int32) (y5 : Int32) (σ : HS), f_X1_answer_92 p1 k15 y3 y4 y5 σ = some R → AW ids ad ca Γ 92 [some (.ref (ad 9)), some (.ref (ad p1)), none, some (.int y3), some (.int y4), some (.int y5), none, none] [] σ := by
    intro k15 hk15 y3 y4 y5 σ h
    unfold f_X1_answer_92 at h
    refine a_iload C dX1_answer_92 rfl ?_
    refine a_bipush C dX1_answer_94 (v := (-6)) rfl ?_
    refine p_ic_ne C (X := y5.toInt) (Y := (-6)) rfl (by decide) dX1_answer_96 (tgt := 119) rfl h (fun h => ?_) (fun h => ?_)
    ·
      refine a_aload_n C dX1_answer_119 (i := 0) rfl rfl ?_
      refine p_callVi C (As := []) (i := 9) kd_9 (hid 9 (by decide)) ⟨_, _, rfl⟩ (by decide) h (fun _ _ e => Z_X1_pop hid e) mi_X1_pop ml_RX1_30 rfl rfl (Nat.le_of_ble_eq_true rfl) (Nat.le_of_ble_eq_true rfl) (Nat.le_of_ble_eq_true rfl) dX1_answer_120 (fun r2 σ1 h => ?_)
      refine a_istore C dX1_answer_123 (by decide) rfl (vs1 := [some (.ref (ad 9)), some (.ref (ad p1)), none, some (.int y3), some (.int y4), some (.int y5), some (.int r2), none]) rfl ?_
      refine a_aload_n C dX1_answer_125 (i := 0) rfl rfl ?_
      refine p_callVi C (As := []) (i := 9) kd_9 (hid 9 (by decide)) ⟨_, _, rfl⟩ (by decide) h (fun _ _ e => Z_X1_pop hid e) mi_X1_pop ml_RX1_30 rfl rfl (Nat.le_of_ble_eq_true rfl) (Nat.le_of_ble_eq_true rfl) (Nat.le_of_ble_eq_true rfl) dX1_answer_126 (fun r4 σ3 h => ?_)
      refine a_istore C dX1_answer_129 (by decide) rfl (vs1 := [some (.ref (ad 9)), some (.ref (ad p1)), none, some (.int y3), some (.int y4), some (.int y5), some (.int r2), some (.int r4)]) rfl ?_
      refine a_iload C dX1_answer_131 rfl ?_
      refine a_bipush C dX1_answer_133 (v := (-5)) rfl ?_
      refine p_ic_eq C (X := y5.toInt) (Y := (-5)) rfl (by decide) dX1_answer_135 (tgt := 155) rfl h (fun h => ?_) (fun h => ?_)
      ·
        refine a_iload C dX1_answer_155 rfl ?_
        refine a_iload C dX1_answer_157 rfl ?_
        refine p_ic_lt C (X := r4.toInt) (Y := r2.toInt) rfl rfl dX1_answer_159 (tgt := 168) rfl h (fun h => ?_) (fun h => ?_)
        ·
          refine AW.sub (vs' := [some (.ref (ad 9)), some (.ref (ad p1)), none, some (.int y3), some (.int y4), none, none, none]) (lsub_of (by simp [lsubB])) ?_
          exact j168 k15 hk15 _ _ _ h
        ·
          refine a_iload_n C dX1_answer_162 (i := 3) rfl rfl ?_
          refine a_aload_n C dX1_answer_163 (i := 1) rfl rfl ?_
          refine a_alen C (by rw [hp1.1]; decide) (hid _ hp1.2) rfl dX1_answer_164 ?_
          refine p_ic_lt C (X := y3.toInt) (Y := (Int32.ofNat (al p1)).toInt) rfl rfl dX1_answer_165 (tgt := 174) rfl h (fun h => ?_) (fun h => ?_)
          ·
            refine a_aload_n C dX1_answer_174 (i := 1) rfl rfl ?_
            refine a_iload_n C dX1_answer_175 (i := 3) rfl rfl ?_
            refine p_iald C (i := p1) hp1 hid rfl dX1_answer_176 h (fun h => ?_)
            refine p_istore_n C (fun z5 => [some (.ref (ad 9)), some (.ref (ad p1)), none, some (.int z5), some (.int y4), some (.int y5), some (.int r2), some (.int r4)]) dX1_answer_177 (i := 3) rfl (by decide) rfl (fun _ => rfl) h (fun z5 h => ?_)
            refine AW.sub (vs' := [some (.ref (ad 9)), some (.ref (ad p1)), none, some (.int z5), some (.int y4), none, none, none]) (lsub_of (by simp [lsubB])) ?_
            exact j178 k15 hk15 _ _ _ h
          ·
            refine AW.sub (vs' := [some (.ref (ad 9)), some (.ref (ad p1)), none, some (.int y3), some (.int y4), none, none, none]) (lsub_of (by simp [lsubB])) ?_
            exact j168 k15 hk15 _ _ _ h
      ·
        refine a_aload_n C dX1_answer_138 (i := 0) rfl rfl ?_
        refine a_aload_n C dX1_answer_139 (i := 0) rfl rfl ?_
        refine a_iload C dX1_answer_140 rfl ?_
        refine a_iload C dX1_answer_142 rfl ?_
        refine a_iload C dX1_answer_144 rfl ?_
        refine p_callVi C (As := [.int y5, .int r4, .int r2]) (i := 9) kd_9 (hid 9 (by decide)) ⟨_, _, rfl⟩ (by decide) h (fun _ _ e => Z_X1_reckon hid e) mi_X1_reckon ml_RX1_34 rfl rfl (Nat.le_of_ble_eq_true rfl) (Nat.le_of_ble_eq_true rfl) (Nat.le_of_ble_eq_true rfl) dX1_answer_146 (fun r7 σ6 h => ?_)
        refine p_callVv C (As := [.int r7]) (i := 9) kd_9 (hid 9 (by decide)) ⟨_, _, rfl⟩ (by decide) h (fun _ e => Z_X1_push hid e) mi_X1_push ml_RX1_26 rfl rfl (Nat.le_of_ble_eq_true rfl) (Nat.le_of_ble_eq_true rfl) (Nat.le_of_ble_eq_true rfl) dX1_answer_149 (fun σ8 h => ?_)
        refine a_goto C dX1_answer_152 (tgt := 178) rfl ?_
        refine AW.sub (vs' := [some (.ref (ad 9)), some (.ref (ad p1)), none, some (.int y3), some (.int y4), none, none, none]) (lsub_of (by simp [lsubB])) ?_
        exact j178 k15 hk15 _ _ _ h
    ·
      refine a_aload_n C dX1_answer_99 (i := 0) rfl rfl ?_
      refine p_callVi C (As := []) (i := 9) kd_9 (hid 9 (by decide)) ⟨_, _, rfl⟩ (by decide) h (fun _ _ e => Z_X1_pop hid e) mi_X1_pop ml_RX1_30 rfl rfl (Nat.le_of_ble_eq_true rfl) (Nat.le_of_ble_eq_true rfl) (Nat.le_of_ble_eq_true rfl) dX1_answer_100 (fun r11 σ10 h => ?_)
      refine a_istore C dX1_answer_103 (by decide) rfl (vs1 := [some (.ref (ad 9)), some (.ref (ad p1)), none, some (.int y3), some (.int y4), some (.int y5), some (.int r11), none]) rfl ?_
      refine a_aload_n C dX1_answer_105 (i := 0) rfl rfl ?_
      refine a_get C fl_RX1_22 (i := 9) kd_9 (hid 9 (by decide)) (v := .int (σ10.1 9 3)) rfl dX1_answer_106 ?_
      refine p_if_eq C (X := (σ10.1 9 3).toInt) rfl dX1_answer_109 (tgt := 116) rfl h (fun h => ?_) (fun h => ?_)
      ·
        refine a_iload C dX1_answer_116 rfl ?_
        exact a_iret Rt dX1_answer_118 rfl (ret_eq (h.trans (congrArg some hR.symm)))
      ·
        refine a_iconst C dX1_answer_112 (v := 0) rfl ?_
        refine a_goto C dX1_answer_113 (tgt := 118) rfl ?_
        exact a_iret Rt dX1_answer_118 rfl (ret_eq (h.trans (congrArg some hR.symm)))
  have j15 : ∀ (n : Nat) (y3 : Int32) (y4 : Int32) (σ : HS), f_X1_answer_15 p1 n y3 y4 σ = some R → AW ids ad ca Γ 15 [some (.ref (ad 9)), some (.ref (ad p1)), none, some (.int y3), some (.int y4), none, none, none] [] σ := by
    intro n
    induction n with
    | zero => intro y3 y4 σ h; exact nn h
    | succ n ih =>
      intro y3 y4 σ h
      have h : b_X1_answer_15 p1 (f_X1_answer_15 p1 n) y3 y4 σ = some R := h
      unfold b_X1_answer_15 at h
      refine a_iload C dX1_answer_15 rfl ?_
      refine a_aload_n C dX1_answer_17 (i := 1) rfl rfl ?_
      refine a_alen C (by rw [hp1.1]; decide) (hid _ hp1.2) rfl dX1_answer_18 ?_
      refine p_ic_ge C (X := y4.toInt) (Y := (Int32.ofNat (al p1)).toInt) rfl rfl dX1_answer_19 (tgt := 184) rfl h (fun h => ?_) (fun h => ?_)
      ·
        refine a_iconst C dX1_answer_184 (v := 0) rfl ?_
        exact a_iret Rt dX1_answer_185 rfl (ret_eq (h.trans (congrArg some hR.symm)))
      ·
        refine a_iload_n C dX1_answer_22 (i := 3) rfl rfl ?_
        refine p_if_lt C (X := y3.toInt) rfl dX1_answer_23 (tgt := 184) rfl h (fun h => ?_) (fun h => ?_)
        ·
          refine a_iconst C dX1_answer_184 (v := 0) rfl ?_
          exact a_iret Rt dX1_answer_185 rfl (ret_eq (h.trans (congrArg some hR.symm)))
        ·
          refine a_iload_n C dX1_answer_26 (i := 3) rfl rfl ?_
          refine a_aload_n C dX1_answer_27 (i := 1) rfl rfl ?_
          refine a_alen C (by rw [hp1.1]; decide) (hid _ hp1.2) rfl dX1_answer_28 ?_
          refine p_ic_ge C (X := y3.toInt) (Y := (Int32.ofNat (al p1)).toInt) rfl rfl dX1_answer_29 (tgt := 184) rfl h (fun h => ?_) (fun h => ?_)
          ·
            refine a_iconst C dX1_answer_184 (v := 0) rfl ?_
            exact a_iret Rt dX1_answer_185 rfl (ret_eq (h.trans (congrArg some hR.symm)))
          ·
            refine a_aload_n C dX1_answer_32 (i := 0) rfl rfl ?_
            refine a_get C fl_RX1_22 (i := 9) kd_9 (hid 9 (by decide)) (v := .int (σ.1 9 3)) rfl dX1_answer_33 ?_
            refine p_if_ne C (X := (σ.1 9 3).toInt) rfl dX1_answer_36 (tgt := 184) rfl h (fun h => ?_) (fun h => ?_)
            ·
              refine a_iconst C dX1_answer_184 (v := 0) rfl ?_
              exact a_iret Rt dX1_answer_185 rfl (ret_eq (h.trans (congrArg some hR.symm)))
            ·
              refine a_aload_n C dX1_answer_39 (i := 1) rfl rfl ?_
              refine a_iload_n C dX1_answer_40 (i := 3) rfl rfl ?_
              refine p_iald C (i := p1) hp1 hid rfl dX1_answer_41 h (fun h => ?_)
              refine p_istore C (fun z1 => [some (.ref (ad 9)), some (.ref (ad p1)), none, some (.int y3), some (.int y4), some (.int z1), none, none]) dX1_answer_42 (by decide) rfl (fun _ => rfl) h (fun z1 h => ?_)
              refine p_iinc C (y := (y3 + 1)) (fun z2 => [some (.ref (ad 9)), some (.ref (ad p1)), none, some (.int z2), some (.int y4), some (.int z1), none, none]) dX1_answer_44 rfl rfl (by decide) rfl (fun _ => rfl) h (fun z2 h => ?_)
              refine a_iload C dX1_answer_47 rfl ?_
              refine p_if_lt C (X := z1.toInt) rfl dX1_answer_49 (tgt := 61) rfl h (fun h => ?_) (fun h => ?_)
              ·
                refine a_iload C dX1_answer_61 rfl ?_
                refine a_bipush C dX1_answer_63 (v := (-10)) rfl ?_
                refine p_ic_gt C (X := z1.toInt) (Y := (-10)) rfl (by decide) dX1_answer_65 (tgt := 92) rfl h (fun h => ?_) (fun h => ?_)
                ·
                  exact j92 (f_X1_answer_15 p1 n) (fun y3 y4 σ h => ih y3 y4 σ h) _ _ _ _ h
                ·
                  refine a_iload C dX1_answer_68 rfl ?_
                  refine a_bipush C dX1_answer_70 (v := (-19)) rfl ?_
                  refine p_ic_le C (X := z1.toInt) (Y := (-19)) rfl (by decide) dX1_answer_72 (tgt := 92) rfl h (fun h => ?_) (fun h => ?_)
                  ·
                    exact j92 (f_X1_answer_15 p1 n) (fun y3 y4 σ h => ih y3 y4 σ h) _ _ _ _ h
                  ·
                    refine a_aload_n C dX1_answer_75 (i := 0) rfl rfl ?_
                    refine a_aload_n C dX1_answer_76 (i := 0) rfl rfl ?_
                    refine a_get C fl_RX1_9 (i := 9) kd_9 (hid 9 (by decide)) (v := .ref (ad 10)) rfl dX1_answer_77 ?_
                    refine a_bipush C dX1_answer_80 (v := (-10)) rfl ?_
                    refine a_iload C dX1_answer_82 rfl ?_
                    refine a_isub C dX1_answer_84 ?_
                    refine p_iald C (i := 10) (show rowOK 10 from ⟨kd_10, by decide⟩) hid (by rw [al_10]; rfl) dX1_answer_85 h (fun h => ?_)
                    refine p_callVv C (As := [.int (σ.1 10 (((-10) : Int32) - z1).toInt.toNat)]) (i := 9) kd_9 (hid 9 (by decide)) ⟨_, _, rfl⟩ (by decide) h (fun _ e => Z_X1_push hid e) mi_X1_push ml_RX1_26 rfl rfl (Nat.le_of_ble_eq_true rfl) (Nat.le_of_ble_eq_true rfl) (Nat.le_of_ble_eq_true rfl) dX1_answer_86 (fun σ3 h => ?_)
                    refine a_goto C dX1_answer_89 (tgt := 178) rfl ?_
                    refine AW.sub (vs' := [some (.ref (ad 9)), some (.ref (ad p1)), none, some (.int z2), some (.int y4), none, none, none]) (lsub_of (by simp [lsubB])) ?_
                    exact j178 (f_X1_answer_15 p1 n) (fun y3 y4 σ h => ih y3 y4 σ h) _ _ _ h
              ·
                refine a_aload_n C dX1_answer_52 (i := 0) rfl rfl ?_
                refine a_iload C dX1_answer_53 rfl ?_
                refine p_callVv C (As := [.int z1]) (i := 9) kd_9 (hid 9 (by decide)) ⟨_, _, rfl⟩ (by decide) h (fun _ e => Z_X1_push hid e) mi_X1_push ml_RX1_26 rfl rfl (Nat.le_of_ble_eq_true rfl) (Nat.le_of_ble_eq_true rfl) (Nat.le_of_ble_eq_true rfl) dX1_answer_55 (fun σ5 h => ?_)
                refine a_goto C dX1_answer_58 (tgt := 178) rfl ?_
                refine AW.sub (vs' := [some (.ref (ad 9)), some (.ref (ad p1)), none, some (.int z2), some (.int y4), none, none, none]) (lsub_of (by simp [lsubB])) ?_
                exact j178 (f_X1_answer_15 p1 n) (fun y3 y4 σ h => ih y3 y4 σ h) _ _ _ h
  refine a_aload_n C dX1_answer_0 (i := 0) rfl rfl ?_
  refine a_iconst C dX1_answer_1 (v := 0) rfl ?_
  refine p_put C fp_RX1_18 (i := 9) kd_9 (hid 9 (by decide)) rfl rfl dX1_answer_2 h (fun σ1 h => ?_)
  refine a_aload_n C dX1_answer_5 (i := 0) rfl rfl ?_
  refine a_iconst C dX1_answer_6 (v := 0) rfl ?_
  refine p_put C fp_RX1_22 (i := 9) kd_9 (hid 9 (by decide)) (nar_z (by decide)).1 (nar_z (by decide)).2 dX1_answer_7 h (fun σ2 h => ?_)
  refine a_iload_n C dX1_answer_10 (i := 2) rfl rfl ?_
  refine a_istore_n C dX1_answer_11 (i := 3) rfl (by decide) rfl (vs1 := [some (.ref (ad 9)), some (.ref (ad p1)), some (.int x2), some (.int x2), none, none, none, none]) rfl ?_
  refine a_iconst C dX1_answer_12 (v := 0) rfl ?_
  refine a_istore C dX1_answer_13 (by decide) rfl (vs1 := [some (.ref (ad 9)), some (.ref (ad p1)), some (.int x2), some (.int x2), some (.int 0), none, none, none]) rfl ?_
  refine AW.sub (vs' := [some (.ref (ad 9)), some (.ref (ad p1)), none, some (.int x2), some (.int 0), none, none, none]) (lsub_of (by simp [lsubB])) ?_
  exact j15 _ _ _ _ h
set_option maxHeartbeats 4000000 in
set_option maxRecDepth 100000 in
theorem Z_X2_add {l : Launch} {D : va_G} {ids : List Nat} {ad : Nat → Nat} {ca : Nat → ClassId} {σ : HS} {x1 : Int32} {x2 : Int32} {r0 : Int32} {s0 : HS} (hid : ∀ i, i < 277 → i ∈ ids) (h : f_X2_add x1 x2 σ = some (r0, s0)) : Ki l D ids ad ca yX2_add cX2_add 3 .int 0 0 [.ref (ad 14), .int x1, .int x2] σ (fun r σ1 => r = r0 ∧ σ1 = s0) := by
  obtain ⟨R, hR⟩ : ∃ R, (r0, s0) = R := ⟨_, rfl⟩
  replace h := h.trans (congrArg some hR)
  refine Ki.of (by decide) (Nat.le_of_ble_eq_true rfl) 0 (fun Γ C Rt => ?_)
  show AW ids ad ca Γ 0 [some (.ref (ad 14)), some (.int x1), some (.int x2)] [] σ
  unfold f_X2_add at h
  refine a_aload_n C dX2_add_0 (i := 0) rfl rfl ?_
  refine a_get C fl_RX2_19 (i := 14) kd_14 (hid 14 (by decide)) (v := .int (σ.1 14 2)) rfl dX2_add_1 ?_
  refine a_bipush C dX2_add_4 (v := 20) rfl ?_
  refine p_ic_lt C (X := (σ.1 14 2).toInt) (Y := 20) rfl (by decide) dX2_add_6 (tgt := 11) rfl h (fun h => ?_) (fun h => ?_)
  ·
    refine a_aload_n C dX2_add_11 (i := 0) rfl rfl ?_
    refine a_get C fl_RX2_9 (i := 14) kd_14 (hid 14 (by decide)) (v := .ref (ad 15)) rfl dX2_add_12 ?_
    refine a_aload_n C dX2_add_15 (i := 0) rfl rfl ?_
    refine a_get C fl_RX2_19 (i := 14) kd_14 (hid 14 (by decide)) (v := .int (σ.1 14 2)) rfl dX2_add_16 ?_
    refine a_iload_n C dX2_add_19 (i := 1) rfl rfl ?_
    refine p_iast C (i := 15) (show rowOK 15 from ⟨kd_15, by decide⟩) hid (by rw [al_15]; rfl) dX2_add_20 h (fun σ1 h => ?_)
    refine a_aload_n C dX2_add_21 (i := 0) rfl rfl ?_
    refine a_get C fl_RX2_15 (i := 14) kd_14 (hid 14 (by decide)) (v := .ref (ad 16)) rfl dX2_add_22 ?_
    refine a_aload_n C dX2_add_25 (i := 0) rfl rfl ?_
    refine a_get C fl_RX2_19 (i := 14) kd_14 (hid 14 (by decide)) (v := .int (σ1.1 14 2)) rfl dX2_add_26 ?_
    refine a_iload_n C dX2_add_29 (i := 2) rfl rfl ?_
    refine ite_n h (fun hz2 h => ?_)
    refine p_zast C (i := 16) kd_16 (hid 16 (by decide)) (by rw [al_16]; rfl) hz2 dX2_add_30 h (fun σ3 h => ?_)
    refine a_aload_n C dX2_add_31 (i := 0) rfl rfl ?_
    refine a_dup C dX2_add_32 rfl ?_
    refine a_get C fl_RX2_19 (i := 14) kd_14 (hid 14 (by decide)) (v := .int (σ3.1 14 2)) rfl dX2_add_33 ?_
    refine a_iconst C dX2_add_36 (v := 1) rfl ?_
    refine a_iadd C dX2_add_37 ?_
    refine p_put C fp_RX2_19 (i := 14) kd_14 (hid 14 (by decide)) rfl rfl dX2_add_38 h (fun σ4 h => ?_)
    refine a_aload_n C dX2_add_41 (i := 0) rfl rfl ?_
    refine a_get C fl_RX2_19 (i := 14) kd_14 (hid 14 (by decide)) (v := .int (σ4.1 14 2)) rfl dX2_add_42 ?_
    refine a_iconst C dX2_add_45 (v := 1) rfl ?_
    refine a_isub C dX2_add_46 ?_
    exact a_iret Rt dX2_add_47 rfl (ret_eq (h.trans (congrArg some hR.symm)))
  ·
    refine a_iconst C dX2_add_9 (v := (-1)) rfl ?_
    exact a_iret Rt dX2_add_10 rfl (ret_eq (h.trans (congrArg some hR.symm)))
theorem dX2_agreeing_45 : decode cX2_agreeing 45 = .ok (.iconst (-1), 1) := by decide +kernel
set_option maxHeartbeats 4000000 in
set_option maxRecDepth 100000 in
theorem Z_X2_agreeing {l : Launch} {D : va_G} {ids : List Nat} {ad : Nat → Nat} {ca : Nat → ClassId} {σ : HS} {p3 : Nat} {x1 : Int32} {x2 : Int32} {r0 : Int32} {s0 : HS} (hid : ∀ i, i < 277 → i ∈ ids) (hp3 : rowOK p3) (h : f_X2_agreeing p3 x1 x2 σ = some (r0, s0)) : Ki l D ids ad ca yX2_agreeing cX2_agreeing 8 .int 0 0 [.ref (ad 14), .int x1, .int x2, .ref (ad p3)] σ (fun r σ1 => r = r0 ∧ σ1 = s0) := by
  obtain ⟨R, hR⟩ : ∃ R, (r0, s0) = R := ⟨_, rfl⟩
  replace h := h.trans (congrArg some hR)
  refine Ki.of (by decide) (Nat.le_of_ble_eq_true rfl) 4 (fun Γ C Rt => ?_)
  show AW ids ad ca Γ 0 [some (.ref (ad 14)), some (.int x1), some (.int x2), some (.ref (ad p3)), none, none, none, none] [] σ
  unfold f_X2_agreeing at h
  have j85 : ∀ (k6 : Int32 → Int32 → Int32 → HS → Option (Int32 × HS)) (hk6 : ∀ (y2 : Int32) (y4 : Int32) (y5 : Int32) (σ : HS), k6 y2 y4 y5 σ = some R → AW ids ad ca Γ 6 [some (.ref (ad 14)), none, some (.int y2), some (.ref (ad p3)), some (.int y4), some (.int y5), none, none] [] σ) (y2 : Int32) (y5 : Int32) (v0 : Int32) (v1 : Int32) (σ : HS), f_X2_agreeing_85 p3 k6 y2 y5 v0 v1 σ = some R → AW ids ad ca Γ 85 [some (.ref (ad 14)), none, some (.int y2), some (.ref (ad p3)), none, some (.int y5), none, none] [.int v0, .int v1] σ := by
    intro k6 hk6 y2 y5 v0 v1 σ h
    unfold f_X2_agreeing_85 at h
    refine a_iand C dX2_agreeing_85 ?_
    refine p_istore C (fun z1 => [some (.ref (ad 14)), none, some (.int y2), some (.ref (ad p3)), some (.int z1), some (.int y5), none, none]) dX2_agreeing_86 (by decide) rfl (fun _ => rfl) h (fun z1 h => ?_)
    refine p_iinc C (y := (y5 + 1)) (fun z2 => [some (.ref (ad 14)), none, some (.int y2), some (.ref (ad p3)), some (.int z1), some (.int z2), none, none]) dX2_agreeing_88 rfl rfl (by decide) rfl (fun _ => rfl) h (fun z2 h => ?_)
    refine a_goto C dX2_agreeing_91 (tgt := 6) rfl ?_
    exact hk6 _ _ _ _ h
  have j62 : ∀ (k6 : Int32 → Int32 → Int32 → HS → Option (Int32 × HS)) (hk6 : ∀ (y2 : Int32) (y4 : Int32) (y5 : Int32) (σ : HS), k6 y2 y4 y5 σ = some R → AW ids ad ca Γ 6 [some (.ref (ad 14)), none, some (.int y2), some (.ref (ad p3)), some (.int y4), some (.int y5), none, none] [] σ) (y2 : Int32) (y4 : Int32) (y5 : Int32) (v0 : Int32) (σ : HS), f_X2_agreeing_62 p3 k6 y2 y4 y5 v0 σ = some R → AW ids ad ca Γ 62 [some (.ref (ad 14)), none, some (.int y2), some (.ref (ad p3)), some (.int y4), some (.int y5), none, none] [.int v0] σ := by
    intro k6 hk6 y2 y4 y5 v0 σ h
    unfold f_X2_agreeing_62 at h
    refine a_istore C dX2_agreeing_62 (by decide) rfl (vs1 := [some (.ref (ad 14)), none, some (.int y2), some (.ref (ad p3)), some (.int y4), some (.int y5), none, some (.int v0)]) rfl ?_
    refine a_iload C dX2_agreeing_64 rfl ?_
    refine a_aload_n C dX2_agreeing_66 (i := 0) rfl rfl ?_
    refine a_get C fl_RX2_15 (i := 14) kd_14 (hid 14 (by decide)) (v := .ref (ad 16)) rfl dX2_agreeing_67 ?_
    refine a_iload C dX2_agreeing_70 rfl ?_
    refine p_zald C (i := 16) kd_16 (hid 16 (by decide)) (by rw [al_16]; rfl) dX2_agreeing_72 h (fun h => ?_)
    refine p_if_eq C (X := (σ.1 16 y5.toInt.toNat).toInt) rfl dX2_agreeing_73 (tgt := 81) rfl h (fun h => ?_) (fun h => ?_)
    ·
      refine a_iload C dX2_agreeing_81 rfl ?_
      refine a_iconst C dX2_agreeing_83 (v := (-1)) rfl ?_
      refine a_ixor C dX2_agreeing_84 ?_
      refine AW.sub (vs' := [some (.ref (ad 14)), none, some (.int y2), some (.ref (ad p3)), none, some (.int y5), none, none]) (lsub_of (by simp [lsubB])) ?_
      exact j85 k6 hk6 _ _ _ _ _ h
    ·
      refine a_iload C dX2_agreeing_76 rfl ?_
      refine a_goto C dX2_agreeing_78 (tgt := 85) rfl ?_
      refine AW.sub (vs' := [some (.ref (ad 14)), none, some (.int y2), some (.ref (ad p3)), none, some (.int y5), none, none]) (lsub_of (by simp [lsubB])) ?_
      exact j85 k6 hk6 _ _ _ _ _ h
  have j46 : ∀ (k6 : Int32 → Int32 → Int32 → HS → Option (Int32 × HS)) (hk6 : ∀ (y2 : Int32) (y4 : Int32) (y5 : Int32) (σ : HS), k6 y2 y4 y5 σ = some R → AW ids ad ca Γ 6 [some (.ref (ad 14)), none, some (.int y2), some (.ref (ad p3)), some (.int y4), some (.int y5), none, none] [] σ) (y2 : Int32) (y4 : Int32) (y5 : Int32) (v0 : Int32) (σ : HS), f_X2_agreeing_46 p3 k6 y2 y4 y5 v0 σ = some R → AW ids ad ca Γ 46 [some (.ref (ad 14)), none, some (.int y2), some (.ref (ad p3)), some (.int y4), some (.int y5), none, none] [.int v0] σ := by
    intro k6 hk6 y2 y4 y5 v0 σ h
    unfold f_X2_agreeing_46 at h
    refine a_istore C dX2_agreeing_46 (by decide) rfl (vs1 := [some (.ref (ad 14)), none, some (.int y2), some (.ref (ad p3)), some (.int y4), some (.int y5), some (.int v0), none]) rfl ?_
    refine a_iload C dX2_agreeing_48 rfl ?_
    refine a_iconst C dX2_agreeing_50 (v := (-1)) rfl ?_
    refine p_ic_ne C (X := v0.toInt) (Y := (-1)) rfl (by decide) dX2_agreeing_51 (tgt := 58) rfl h (fun h => ?_) (fun h => ?_)
    ·
      refine a_iconst C dX2_agreeing_58 (v := 1) rfl ?_
      refine a_iload C dX2_agreeing_59 rfl ?_
      refine a_ishl C dX2_agreeing_61 ?_
      refine AW.sub (vs' := [some (.ref (ad 14)), none, some (.int y2), some (.ref (ad p3)), some (.int y4), some (.int y5), none, none]) (lsub_of (by simp [lsubB])) ?_
      exact j62 k6 hk6 _ _ _ _ _ h
    ·
      refine a_iconst C dX2_agreeing_54 (v := 0) rfl ?_
      refine a_goto C dX2_agreeing_55 (tgt := 62) rfl ?_
      refine AW.sub (vs' := [some (.ref (ad 14)), none, some (.int y2), some (.ref (ad p3)), some (.int y4), some (.int y5), none, none]) (lsub_of (by simp [lsubB])) ?_
      exact j62 k6 hk6 _ _ _ _ _ h
  have j6 : ∀ (n : Nat) (y2 : Int32) (y4 : Int32) (y5 : Int32) (σ : HS), f_X2_agreeing_6 p3 n y2 y4 y5 σ = some R → AW ids ad ca Γ 6 [some (.ref (ad 14)), none, some (.int y2), some (.ref (ad p3)), some (.int y4), some (.int y5), none, none] [] σ := by
    intro n
    induction n with
    | zero => intro y2 y4 y5 σ h; exact nn h
    | succ n ih =>
      intro y2 y4 y5 σ h
      have h : b_X2_agreeing_6 p3 (f_X2_agreeing_6 p3 n) y2 y4 y5 σ = some R := h
      unfold b_X2_agreeing_6 at h
      refine a_iload C dX2_agreeing_6 rfl ?_
      refine a_iload_n C dX2_agreeing_8 (i := 2) rfl rfl ?_
      refine p_ic_ge C (X := y5.toInt) (Y := y2.toInt) rfl rfl dX2_agreeing_9 (tgt := 94) rfl h (fun h => ?_) (fun h => ?_)
      ·
        refine a_iload C dX2_agreeing_94 rfl ?_
        exact a_iret Rt dX2_agreeing_96 rfl (ret_eq (h.trans (congrArg some hR.symm)))
      ·
        refine a_iload C dX2_agreeing_12 rfl ?_
        refine a_aload_n C dX2_agreeing_14 (i := 0) rfl rfl ?_
        refine a_get C fl_RX2_19 (i := 14) kd_14 (hid 14 (by decide)) (v := .int (σ.1 14 2)) rfl dX2_agreeing_15 ?_
        refine p_ic_ge C (X := y5.toInt) (Y := (σ.1 14 2).toInt) rfl rfl dX2_agreeing_18 (tgt := 94) rfl h (fun h => ?_) (fun h => ?_)
        ·
          refine a_iload C dX2_agreeing_94 rfl ?_
          exact a_iret Rt dX2_agreeing_96 rfl (ret_eq (h.trans (congrArg some hR.symm)))
        ·
          refine a_aload_n C dX2_agreeing_21 (i := 0) rfl rfl ?_
          refine a_get C fl_RX2_9 (i := 14) kd_14 (hid 14 (by decide)) (v := .ref (ad 15)) rfl dX2_agreeing_22 ?_
          refine a_iload C dX2_agreeing_25 rfl ?_
          refine p_iald C (i := 15) (show rowOK 15 from ⟨kd_15, by decide⟩) hid (by rw [al_15]; rfl) dX2_agreeing_27 h (fun h => ?_)
          refine a_aload_n C dX2_agreeing_28 (i := 3) rfl rfl ?_
          refine a_alen C (by rw [hp3.1]; decide) (hid _ hp3.2) rfl dX2_agreeing_29 ?_
          refine p_ic_ge C (X := (σ.1 15 y5.toInt.toNat).toInt) (Y := (Int32.ofNat (al p3)).toInt) rfl rfl dX2_agreeing_30 (tgt := 45) rfl h (fun h => ?_) (fun h => ?_)
          ·
            refine a_iconst C dX2_agreeing_45 (v := (-1)) rfl ?_
            exact j46 (f_X2_agreeing_6 p3 n) (fun y2 y4 y5 σ h => ih y2 y4 y5 σ h) _ _ _ _ _ h
          ·
            refine a_aload_n C dX2_agreeing_33 (i := 3) rfl rfl ?_
            refine a_aload_n C dX2_agreeing_34 (i := 0) rfl rfl ?_
            refine a_get C fl_RX2_9 (i := 14) kd_14 (hid 14 (by decide)) (v := .ref (ad 15)) rfl dX2_agreeing_35 ?_
            refine a_iload C dX2_agreeing_38 rfl ?_
            refine p_iald C (i := 15) (show rowOK 15 from ⟨kd_15, by decide⟩) hid (by rw [al_15]; rfl) dX2_agreeing_40 h (fun h => ?_)
            refine p_iald C (i := p3) hp3 hid rfl dX2_agreeing_41 h (fun h => ?_)
            refine a_goto C dX2_agreeing_42 (tgt := 46) rfl ?_
            exact j46 (f_X2_agreeing_6 p3 n) (fun y2 y4 y5 σ h => ih y2 y4 y5 σ h) _ _ _ _ _ h
  refine a_iload_n C dX2_agreeing_0 (i := 1) rfl rfl ?_
  refine a_istore C dX2_agreeing_1 (by decide) rfl (vs1 := [some (.ref (ad 14)), some (.int x1), some (.int x2), some (.ref (ad p3)), some (.int x1), none, none, none]) rfl ?_
  refine a_iconst C dX2_agreeing_3 (v := 0) rfl ?_
  refine a_istore C dX2_agreeing_4 (by decide) rfl (vs1 := [some (.ref (ad 14)), some (.int x1), some (.int x2), some (.ref (ad p3)), some (.int x1), some (.int 0), none, none]) rfl ?_
  refine AW.sub (vs' := [some (.ref (ad 14)), none, some (.int x2), some (.ref (ad p3)), some (.int x1), some (.int 0), none, none]) (lsub_of (by simp [lsubB])) ?_
  exact j6 _ _ _ _ _ h

