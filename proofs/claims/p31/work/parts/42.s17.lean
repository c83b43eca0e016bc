set_option maxHeartbeats 4000000 in
set_option maxRecDepth 100000 in
theorem S_X11_year_0_t30 {l : Launch} {D : va_G} {ids : List Nat} {ad : Nat → Nat} {ca : Nat → ClassId} {σ : HS} {x1 : Int32} {x2 : Int32} (hid : ∀ i, i < 277 → i ∈ ids) (hG : GIc σ) (htx0 : σ.2.2 0 = 30) (htx1 : σ.2.2 1 = 43) : Ki l D ids ad ca yX11_year cX11_year 5 .int 6 149 [.ref (ad 0), .int x1, .int x2] σ (fun r σ1 => (GIc σ1) ∧ (ony [9, 10, 11, 60, 61, 62, 63] σ σ1)) := by
  refine Ki.of (by decide) (Nat.le_of_ble_eq_true rfl) 2 (fun Γ C Rt => ?_)
  show AW ids ad ca Γ 0 [some (.ref (ad 0)), some (.int x1), some (.int x2), none, none] [] σ
  have j28 : ∀ (d28 : Nat) (σq28 : HS) (y28_3 : Int32) (y28_4 : Int32), 20 - y28_4.toInt < d28 → GIc σq28 → ony [9, 10, 11, 60, 61, 62, 63] σ σq28 → 0 ≤ y28_4.toInt ∧ y28_4.toInt ≤ 20 → 0 ≤ x1.toInt ∧ x1.toInt ≤ 60 → 1 ≤ x2.toInt ∧ x2.toInt ≤ 20 → AW ids ad ca Γ 28 [some (.ref (ad 0)), some (.int x1), some (.int x2), some (.int y28_3), some (.int y28_4)] [] σq28 := by
    intro d28
    induction d28 with
    | zero =>
      intro σq28 y28_3 y28_4 hd28 hGq28 hoq28 hx28_0 hx28_1 hx28_2
      exfalso
      omega
    | succ d28 ih28 =>
      intro σq28 y28_3 y28_4 hd28 hGq28 hoq28 hx28_0 hx28_1 hx28_2
      have j91 : ∀ (σq91 : HS) (y91_3 : Int32), GIc σq91 → ony [9, 10, 11, 60, 61, 62, 63] σ σq91 → 0 ≤ y28_4.toInt ∧ y28_4.toInt ≤ 19 → AW ids ad ca Γ 91 [some (.ref (ad 0)), some (.int x1), some (.int x2), some (.int y91_3), some (.int y28_4)] [] σq91 := by
        intro σq91 y91_3 hGq91 hoq91 hx91_0
        refine s_iinc C dX11_year_91 rfl (1) (by decide) (by omega) (by decide) rfl (fun z1 h2 => ?_)
        show AW ids ad ca Γ 94 [some (.ref (ad 0)), some (.int x1), some (.int x2), some (.int y91_3), some (.int z1)] _ _
        refine a_goto C dX11_year_94 (tgt := 28) rfl ?_
        exact ih28 _ y91_3 z1 (by omega) hGq91 hoq91 (by omega) (by omega) (by omega)
      refine a_iload C dX11_year_28 rfl ?_
      refine a_iload_n C dX11_year_30 (i := 2) rfl rfl ?_
      refine s_ic_ge C dX11_year_31 (tgt := 97) rfl (fun c3 => ?_) (fun c3 => ?_)
      ·
        refine a_iload_n C dX11_year_97 (i := 3) rfl rfl ?_
        exact a_iret Rt dX11_year_98 rfl (⟨hGq28, hoq28⟩)
      ·
        refine a_aload_n C dX11_year_34 (i := 0) rfl rfl ?_
        refine a_get C fl_RX11_58 (i := 0) kd_0 (hid 0 (by decide)) (v := .ref (ad 60)) rfl dX11_year_35 ?_
        refine a_aload_n C dX11_year_38 (i := 0) rfl rfl ?_
        refine a_get C fl_RX11_54 (i := 0) kd_0 (hid 0 (by decide)) (v := .ref (ad 56)) rfl dX11_year_39 ?_
        refine a_callVv C (i := 60) (n0 := 0) kd_60 (hid 60 (by decide)) ⟨_, _, rfl⟩ (by decide) (S_copy 0 1 rfl rfl (by decide) (by decide) hid hGq28) mi_X0_copy ml_RX11_230 rfl rfl (Nat.le_of_ble_eq_true rfl) (Nat.le_of_ble_eq_true rfl) (Nat.le_of_ble_eq_true rfl) dX11_year_42 (fun σ4 q5 => ?_)
        obtain ⟨hG6, ho7⟩ := q5
        refine a_aload_n C dX11_year_45 (i := 0) rfl rfl ?_
        refine a_get C fl_RX11_19 (i := 0) kd_0 (hid 0 (by decide)) (v := .ref (ad 8)) rfl dX11_year_46 ?_
        refine a_aload_n C dX11_year_49 (i := 0) rfl rfl ?_
        refine a_get C fl_RX11_82 (i := 0) kd_0 (hid 0 (by decide)) (v := .ref (ad 30)) (congrArg (fun z => some (Value.ref (ad z))) ((congrFun ho7.2 0).trans ((congrFun hoq28.2 0).trans htx0))) dX11_year_50 ?_
        refine a_aload_n C dX11_year_53 (i := 0) rfl rfl ?_
        refine a_get C fl_RX11_58 (i := 0) kd_0 (hid 0 (by decide)) (v := .ref (ad 60)) rfl dX11_year_54 ?_
        refine a_iload_n C dX11_year_57 (i := 1) rfl rfl ?_
        refine a_aload_n C dX11_year_58 (i := 0) rfl rfl ?_
        refine a_get C fl_RX11_82 (i := 0) kd_0 (hid 0 (by decide)) (v := .ref (ad 30)) (congrArg (fun z => some (Value.ref (ad z))) ((congrFun ho7.2 0).trans ((congrFun hoq28.2 0).trans htx0))) dX11_year_59 ?_
        refine a_get C fl_RX11_220 (i := 30) kd_30 (hid 30 (by decide)) (v := .int (σ4.1 30 11)) rfl dX11_year_62 ?_
        refine a_iload C dX11_year_65 rfl ?_
        refine s_iaddU C dX11_year_67 (fun z8 => ?_)
        refine a_callVv C (i := 8) kd_8 (hid 8 (by decide)) ⟨_, _, rfl⟩ (by decide) (S_X4_goOn_8_30_60 (x3 := x1) (x4 := z8) hid hG6 (by omega)) mi_X4_goOn ml_RX11_223 rfl rfl (Nat.le_of_ble_eq_true rfl) (Nat.le_of_ble_eq_true rfl) (Nat.le_of_ble_eq_true rfl) dX11_year_68 (fun σ11 q12 => ?_)
        obtain ⟨hG13, ho14⟩ := q12
        refine a_aload_n C dX11_year_71 (i := 0) rfl rfl ?_
        refine a_get C fl_RX11_58 (i := 0) kd_0 (hid 0 (by decide)) (v := .ref (ad 60)) rfl dX11_year_72 ?_
        refine a_get C fl_RX11_184 (i := 60) kd_60 (hid 60 (by decide)) (v := .int (σ11.1 60 6)) rfl dX11_year_75 ?_
        refine a_aload_n C dX11_year_78 (i := 0) rfl rfl ?_
        refine a_get C fl_RX11_54 (i := 0) kd_0 (hid 0 (by decide)) (v := .ref (ad 56)) rfl dX11_year_79 ?_
        refine a_get C fl_RX11_184 (i := 56) kd_56 (hid 56 (by decide)) (v := .int (σ11.1 56 6)) rfl dX11_year_82 ?_
        refine s_ic_ne C dX11_year_85 (tgt := 91) rfl (fun c16 => ?_) (fun c16 => ?_)
        ·
          exact j91 _ y28_3 hG13 (ony.tr (ony.tr hoq28 (ony.mono ho7 (by decide))) (ony.mono ho14 (by decide))) (by omega)
        ·
          refine s_iincU C dX11_year_88 rfl (by decide) rfl (fun z17 => ?_)
          show AW ids ad ca Γ 91 [some (.ref (ad 0)), some (.int x1), some (.int x2), some (.int z17), some (.int y28_4)] _ _
          exact j91 _ z17 hG13 (ony.tr (ony.tr hoq28 (ony.mono ho7 (by decide))) (ony.mono ho14 (by decide))) (by omega)
  refine a_iload_n C dX11_year_0 (i := 1) rfl rfl ?_
  refine s_if_lt C dX11_year_1 (tgt := 21) rfl (fun c19 => ?_) (fun c19 => ?_)
  ·
    refine s_iconst C dX11_year_21 (-1) (by decide) (fun z20 h21 => ?_)
    exact a_iret Rt dX11_year_22 rfl (⟨hG, ony.rf⟩)
  ·
    refine a_iload_n C dX11_year_4 (i := 1) rfl rfl ?_
    refine s_bipush C dX11_year_5 (60) (by decide) (fun z22 h23 => ?_)
    refine s_ic_gt C dX11_year_7 (tgt := 21) rfl (fun c24 => ?_) (fun c24 => ?_)
    ·
      refine s_iconst C dX11_year_21 (-1) (by decide) (fun z25 h26 => ?_)
      exact a_iret Rt dX11_year_22 rfl (⟨hG, ony.rf⟩)
    ·
      refine a_iload_n C dX11_year_10 (i := 2) rfl rfl ?_
      refine s_iconst C dX11_year_11 (1) (by decide) (fun z27 h28 => ?_)
      refine s_ic_lt C dX11_year_12 (tgt := 21) rfl (fun c29 => ?_) (fun c29 => ?_)
      ·
        refine s_iconst C dX11_year_21 (-1) (by decide) (fun z30 h31 => ?_)
        exact a_iret Rt dX11_year_22 rfl (⟨hG, ony.rf⟩)
      ·
        refine a_iload_n C dX11_year_15 (i := 2) rfl rfl ?_
        refine s_bipush C dX11_year_16 (20) (by decide) (fun z32 h33 => ?_)
        refine s_ic_le C dX11_year_18 (tgt := 23) rfl (fun c34 => ?_) (fun c34 => ?_)
        ·
          refine s_iconst C dX11_year_23 (0) (by decide) (fun z35 h36 => ?_)
          refine a_istore_n C dX11_year_24 (i := 3) rfl (by decide) rfl (vs1 := [some (.ref (ad 0)), some (.int x1), some (.int x2), some (.int z35), none]) rfl ?_
          refine s_iconst C dX11_year_25 (0) (by decide) (fun z37 h38 => ?_)
          refine a_istore C dX11_year_26 (by decide) rfl (vs1 := [some (.ref (ad 0)), some (.int x1), some (.int x2), some (.int z35), some (.int z37)]) rfl ?_
          exact j28 100000 _ z35 z37 (by omega) hG ony.rf (by omega) (by omega) (by omega)
        ·
          refine s_iconst C dX11_year_21 (-1) (by decide) (fun z39 h40 => ?_)
          exact a_iret Rt dX11_year_22 rfl (⟨hG, ony.rf⟩)
set_option maxHeartbeats 4000000 in
set_option maxRecDepth 100000 in
theorem S_X11_tell_0_t30 {l : Launch} {D : va_G} {ids : List Nat} {ad : Nat → Nat} {ca : Nat → ClassId} {σ : HS} {x1 : Int32} {x2 : Int32} (hid : ∀ i, i < 277 → i ∈ ids) (hG : GIc σ) (htx0 : σ.2.2 0 = 30) (htx1 : σ.2.2 1 = 43) (hx2 : 0 ≤ x2.toInt ∧ x2.toInt ≤ 1) : Ki l D ids ad ca yX11_tell cX11_tell 3 .int 1 22 [.ref (ad 0), .int x1, .int x2] σ (fun r σ1 => (GIc σ1) ∧ (ony [14, 15, 16] σ σ1)) := by
  refine Ki.of (by decide) (Nat.le_of_ble_eq_true rfl) 0 (fun Γ C Rt => ?_)
  show AW ids ad ca Γ 0 [some (.ref (ad 0)), some (.int x1), some (.int x2)] [] σ
  refine a_iload_n C dX11_tell_0 (i := 1) rfl rfl ?_
  refine s_if_lt C dX11_tell_1 (tgt := 10) rfl (fun c1 => ?_) (fun c1 => ?_)
  ·
    refine s_iconst C dX11_tell_10 (-1) (by decide) (fun z2 h3 => ?_)
    exact a_iret Rt dX11_tell_11 rfl (⟨hG, ony.rf⟩)
  ·
    refine a_iload_n C dX11_tell_4 (i := 1) rfl rfl ?_
    refine s_bipush C dX11_tell_5 (40) (by decide) (fun z4 h5 => ?_)
    refine s_ic_le C dX11_tell_7 (tgt := 12) rfl (fun c6 => ?_) (fun c6 => ?_)
    ·
      refine a_aload_n C dX11_tell_12 (i := 0) rfl rfl ?_
      refine a_get C fl_RX11_33 (i := 0) kd_0 (hid 0 (by decide)) (v := .ref (ad 14)) rfl dX11_tell_13 ?_
      refine a_iload_n C dX11_tell_16 (i := 1) rfl rfl ?_
      refine a_iload_n C dX11_tell_17 (i := 2) rfl rfl ?_
      refine a_callVi C (i := 14) kd_14 (hid 14 (by decide)) ⟨_, _, rfl⟩ (by decide) (S_X2_add_14 (x1 := x1) (x2 := x2) hid hG (by omega) (by omega)) mi_X2_add ml_RX11_322 rfl rfl (Nat.le_of_ble_eq_true rfl) (Nat.le_of_ble_eq_true rfl) (Nat.le_of_ble_eq_true rfl) dX11_tell_18 (fun z7 σ8 q9 => ?_)
      obtain ⟨hG10, ho11⟩ := q9
      exact a_iret Rt dX11_tell_21 rfl (⟨hG10, (ony.tr ony.rf (ony.mono ho11 (by decide)))⟩)
    ·
      refine s_iconst C dX11_tell_10 (-1) (by decide) (fun z13 h14 => ?_)
      exact a_iret Rt dX11_tell_11 rfl (⟨hG, ony.rf⟩)
set_option maxHeartbeats 4000000 in
set_option maxRecDepth 100000 in
theorem S_X11_forget_0_t30 {l : Launch} {D : va_G} {ids : List Nat} {ad : Nat → Nat} {ca : Nat → ClassId} {σ : HS} (hid : ∀ i, i < 277 → i ∈ ids) (hG : GIc σ) (htx0 : σ.2.2 0 = 30) (htx1 : σ.2.2 1 = 43) : Ki l D ids ad ca yX11_forget cX11_forget 2 .int 0 0 [.ref (ad 0)] σ (fun r σ1 => (GIc σ1) ∧ (ony [14] σ σ1)) := by
  refine Ki.of (by decide) (Nat.le_of_ble_eq_true rfl) 1 (fun Γ C Rt => ?_)
  show AW ids ad ca Γ 0 [some (.ref (ad 0)), none] [] σ
  refine a_aload_n C dX11_forget_0 (i := 0) rfl rfl ?_
  refine a_get C fl_RX11_33 (i := 0) kd_0 (hid 0 (by decide)) (v := .ref (ad 14)) rfl dX11_forget_1 ?_
  have g1 := bF_14_2 hG
  refine a_get C fl_RX11_117 (i := 14) kd_14 (hid 14 (by decide)) (v := .int (σ.1 14 2)) rfl dX11_forget_4 ?_
  refine a_istore_n C dX11_forget_7 (i := 1) rfl (by decide) rfl (vs1 := [some (.ref (ad 0)), some (.int (σ.1 14 2))]) rfl ?_
  refine a_aload_n C dX11_forget_8 (i := 0) rfl rfl ?_
  refine a_get C fl_RX11_33 (i := 0) kd_0 (hid 0 (by decide)) (v := .ref (ad 14)) rfl dX11_forget_9 ?_
  refine s_iconst C dX11_forget_12 (0) (by decide) (fun z2 h3 => ?_)
  refine a_put C fp_RX11_117 (i := 14) kd_14 (hid 14 (by decide)) rfl rfl dX11_forget_13 ?_
  have hG4 := wF_14_2 (v := z2) hG (by omega) (by omega)
  refine a_iload_n C dX11_forget_16 (i := 1) rfl rfl ?_
  exact a_iret Rt dX11_forget_17 rfl (⟨hG4, (ony.I ony.rf (by decide))⟩)
set_option maxHeartbeats 4000000 in
set_option maxRecDepth 100000 in
theorem S_X11_glitters_0_t30 {l : Launch} {D : va_G} {ids : List Nat} {ad : Nat → Nat} {ca : Nat → ClassId} {σ : HS} {x1 : Int32} {x2 : Int32} (hid : ∀ i, i < 277 → i ∈ ids) (hG : GIc σ) (htx0 : σ.2.2 0 = 30) (htx1 : σ.2.2 1 = 43) : Ki l D ids ad ca yX11_glitters cX11_glitters 4 .int 7 168 [.ref (ad 0), .int x1, .int x2] σ (fun r σ1 => (GIc σ1) ∧ (ony [9, 10, 11, 27, 60, 61, 62, 63] σ σ1)) := by
  refine Ki.of (by decide) (Nat.le_of_ble_eq_true rfl) 1 (fun Γ C Rt => ?_)
  show AW ids ad ca Γ 0 [some (.ref (ad 0)), some (.int x1), some (.int x2), none] [] σ
  refine a_iload_n C dX11_glitters_0 (i := 1) rfl rfl ?_
  refine s_if_lt C dX11_glitters_1 (tgt := 24) rfl (fun c1 => ?_) (fun c1 => ?_)
  ·
    refine s_iconst C dX11_glitters_24 (-1) (by decide) (fun z2 h3 => ?_)
    exact a_iret Rt dX11_glitters_25 rfl (⟨hG, ony.rf⟩)
  ·
    refine a_iload_n C dX11_glitters_4 (i := 1) rfl rfl ?_
    refine a_aload_n C dX11_glitters_5 (i := 0) rfl rfl ?_
    refine a_get C fl_RX11_33 (i := 0) kd_0 (hid 0 (by decide)) (v := .ref (ad 14)) rfl dX11_glitters_6 ?_
    have g4 := bF_14_2 hG
    refine a_get C fl_RX11_117 (i := 14) kd_14 (hid 14 (by decide)) (v := .int (σ.1 14 2)) rfl dX11_glitters_9 ?_
    refine s_ic_gt C dX11_glitters_12 (tgt := 24) rfl (fun c5 => ?_) (fun c5 => ?_)
    ·
      refine s_iconst C dX11_glitters_24 (-1) (by decide) (fun z6 h7 => ?_)
      exact a_iret Rt dX11_glitters_25 rfl (⟨hG, ony.rf⟩)
    ·
      refine a_iload_n C dX11_glitters_15 (i := 2) rfl rfl ?_
      refine s_if_lt C dX11_glitters_16 (tgt := 24) rfl (fun c8 => ?_) (fun c8 => ?_)
      ·
        refine s_iconst C dX11_glitters_24 (-1) (by decide) (fun z9 h10 => ?_)
        exact a_iret Rt dX11_glitters_25 rfl (⟨hG, ony.rf⟩)
      ·
        refine a_iload_n C dX11_glitters_19 (i := 2) rfl rfl ?_
        refine s_iconst C dX11_glitters_20 (1) (by decide) (fun z11 h12 => ?_)
        refine s_ic_le C dX11_glitters_21 (tgt := 26) rfl (fun c13 => ?_) (fun c13 => ?_)
        ·
          refine a_aload_n C dX11_glitters_26 (i := 0) rfl rfl ?_
          refine s_bipush C dX11_glitters_27 (41) (by decide) (fun z14 h15 => ?_)
          refine a_callVv C (i := 0) kd_0 (hid 0 (by decide)) ⟨_, _, rfl⟩ (by decide) (S_X11_findHands_0_t30 (x1 := z14) hid hG htx0 htx1 (by omega)) mi_X11_findHands ml_RX11_279 rfl rfl (Nat.le_of_ble_eq_true rfl) (Nat.le_of_ble_eq_true rfl) (Nat.le_of_ble_eq_true rfl) dX11_glitters_29 (fun σ17 q18 => ?_)
          obtain ⟨hG19, ho20⟩ := q18
          refine a_aload_n C dX11_glitters_32 (i := 0) rfl rfl ?_
          refine a_get C fl_RX11_33 (i := 0) kd_0 (hid 0 (by decide)) (v := .ref (ad 14)) rfl dX11_glitters_33 ?_
          refine a_aload_n C dX11_glitters_36 (i := 0) rfl rfl ?_
          refine a_get C fl_RX11_54 (i := 0) kd_0 (hid 0 (by decide)) (v := .ref (ad 56)) rfl dX11_glitters_37 ?_
          refine s_iconst C dX11_glitters_40 (0) (by decide) (fun z22 h23 => ?_)
          refine a_callVi C (i := 56) kd_56 (hid 56 (by decide)) ⟨_, _, rfl⟩ (by decide) (S_X0_bitsOf_56 (x1 := z22) hid hG19) mi_X0_bitsOf ml_RX11_180 rfl rfl (Nat.le_of_ble_eq_true rfl) (Nat.le_of_ble_eq_true rfl) (Nat.le_of_ble_eq_true rfl) dX11_glitters_41 (fun z24 σ25 q26 => ?_)
          rw [q26]
          refine a_iload_n C dX11_glitters_44 (i := 1) rfl rfl ?_
          refine a_aload_n C dX11_glitters_45 (i := 0) rfl rfl ?_
          refine a_get C fl_RX11_69 (i := 0) kd_0 (hid 0 (by decide)) (v := .ref (ad 27)) rfl dX11_glitters_46 ?_
          refine a_callVi C (i := 14) kd_14 (hid 14 (by decide)) ⟨_, _, rfl⟩ (by decide) (S_X2_agreeing_14_27 (x1 := z24) (x2 := x1) hid hG19) mi_X2_agreeing ml_RX11_326 rfl rfl (Nat.le_of_ble_eq_true rfl) (Nat.le_of_ble_eq_true rfl) (Nat.le_of_ble_eq_true rfl) dX11_glitters_49 (fun z27 σ28 q29 => ?_)
          rw [q29]
          refine a_istore_n C dX11_glitters_52 (i := 3) rfl (by decide) rfl (vs1 := [some (.ref (ad 0)), some (.int x1), some (.int x2), some (.int z27)]) rfl ?_
          refine a_iload_n C dX11_glitters_53 (i := 2) rfl rfl ?_
          refine s_if_ne C dX11_glitters_54 (tgt := 64) rfl (fun c30 => ?_) (fun c30 => ?_)
          ·
            refine a_iload_n C dX11_glitters_64 (i := 3) rfl rfl ?_
            exact a_iret Rt dX11_glitters_65 rfl (⟨hG19, (ony.tr ony.rf (ony.mono ho20 (by decide)))⟩)
          ·
            refine a_iload_n C dX11_glitters_57 (i := 3) rfl rfl ?_
            refine a_callSi C (S_J6_bitCount_0f7a4 (x1 := z27) hid hG19) ms_J6_bitCount_0f7a4 ml_RX11_330 rfl rfl (Nat.le_of_ble_eq_true rfl) (Nat.le_of_ble_eq_true rfl) (Nat.le_of_ble_eq_true rfl) dX11_glitters_58 (fun z31 σ32 q33 => ?_)
            rw [q33]
            refine a_goto C dX11_glitters_61 (tgt := 65) rfl ?_
            exact a_iret Rt dX11_glitters_65 rfl (⟨hG19, (ony.tr ony.rf (ony.mono ho20 (by decide)))⟩)
        ·
          refine s_iconst C dX11_glitters_24 (-1) (by decide) (fun z34 h35 => ?_)
          exact a_iret Rt dX11_glitters_25 rfl (⟨hG, ony.rf⟩)
theorem dX11_watch_51 : decode cX11_watch 51 = .ok (.iconst 0, 1) := by decide +kernel
theorem dX11_watch_52 : decode cX11_watch 52 = .ok (.istore_n 3, 1) := by decide +kernel
theorem dX11_watch_53 : decode cX11_watch 53 = .ok (.bipush 8, 2) := by decide +kernel
theorem dX11_watch_55 : decode cX11_watch 55 = .ok (.istore 4, 2) := by decide +kernel
theorem dX11_watch_57 : decode cX11_watch 57 = .ok (.iconst 0, 1) := by decide +kernel
theorem dX11_watch_58 : decode cX11_watch 58 = .ok (.istore 5, 2) := by decide +kernel
theorem dX11_watch_60 : decode cX11_watch 60 = .ok (.iload 5, 2) := by decide +kernel
theorem dX11_watch_62 : decode cX11_watch 62 = .ok (.bipush 40, 2) := by decide +kernel
theorem dX11_watch_64 : decode cX11_watch 64 = .ok (.if_icmp .gt 70, 3) := by decide +kernel
theorem dX11_watch_67 : decode cX11_watch 67 = .ok (.aload_n 0, 1) := by decide +kernel
theorem dX11_watch_68 : decode cX11_watch 68 = .ok (.getfield 69, 3) := by decide +kernel
theorem dX11_watch_71 : decode cX11_watch 71 = .ok (.iload 5, 2) := by decide +kernel
theorem dX11_watch_73 : decode cX11_watch 73 = .ok (.iaload, 1) := by decide +kernel
theorem dX11_watch_74 : decode cX11_watch 74 = .ok (.iconst (-1), 1) := by decide +kernel
theorem dX11_watch_75 : decode cX11_watch 75 = .ok (.if_icmp .ne 7, 3) := by decide +kernel
theorem dX11_watch_78 : decode cX11_watch 78 = .ok (.iconst 0, 1) := by decide +kernel
theorem dX11_watch_79 : decode cX11_watch 79 = .ok (.goto 12, 3) := by decide +kernel
theorem dX11_watch_82 : decode cX11_watch 82 = .ok (.iconst 1, 1) := by decide +kernel
theorem dX11_watch_83 : decode cX11_watch 83 = .ok (.aload_n 0, 1) := by decide +kernel
theorem dX11_watch_84 : decode cX11_watch 84 = .ok (.getfield 69, 3) := by decide +kernel
theorem dX11_watch_87 : decode cX11_watch 87 = .ok (.iload 5, 2) := by decide +kernel
theorem dX11_watch_89 : decode cX11_watch 89 = .ok (.iaload, 1) := by decide +kernel
theorem dX11_watch_90 : decode cX11_watch 90 = .ok (.ishl, 1) := by decide +kernel
theorem dX11_watch_91 : decode cX11_watch 91 = .ok (.istore 6, 2) := by decide +kernel
theorem dX11_watch_93 : decode cX11_watch 93 = .ok (.iload_n 2, 1) := by decide +kernel
theorem dX11_watch_94 : decode cX11_watch 94 = .ok (.iload 6, 2) := by decide +kernel
theorem dX11_watch_96 : decode cX11_watch 96 = .ok (.iand, 1) := by decide +kernel
theorem dX11_watch_97 : decode cX11_watch 97 = .ok (.invokestatic 330, 3) := by decide +kernel
theorem dX11_watch_100 : decode cX11_watch 100 = .ok (.iload_n 2, 1) := by decide +kernel
theorem dX11_watch_101 : decode cX11_watch 101 = .ok (.iload 6, 2) := by decide +kernel
theorem dX11_watch_103 : decode cX11_watch 103 = .ok (.iconst (-1), 1) := by decide +kernel
theorem dX11_watch_104 : decode cX11_watch 104 = .ok (.ixor, 1) := by decide +kernel
theorem dX11_watch_105 : decode cX11_watch 105 = .ok (.iand, 1) := by decide +kernel
theorem dX11_watch_106 : decode cX11_watch 106 = .ok (.invokestatic 330, 3) := by decide +kernel
theorem dX11_watch_109 : decode cX11_watch 109 = .ok (.invokestatic 335, 3) := by decide +kernel
theorem dX11_watch_112 : decode cX11_watch 112 = .ok (.istore 7, 2) := by decide +kernel
theorem dX11_watch_114 : decode cX11_watch 114 = .ok (.iload 7, 2) := by decide +kernel
theorem dX11_watch_116 : decode cX11_watch 116 = .ok (.iload 4, 2) := by decide +kernel
theorem dX11_watch_118 : decode cX11_watch 118 = .ok (.if_icmp .ge 10, 3) := by decide +kernel
theorem dX11_watch_121 : decode cX11_watch 121 = .ok (.iload 7, 2) := by decide +kernel
theorem dX11_watch_123 : decode cX11_watch 123 = .ok (.istore 4, 2) := by decide +kernel
theorem dX11_watch_125 : decode cX11_watch 125 = .ok (.iload 5, 2) := by decide +kernel
theorem dX11_watch_127 : decode cX11_watch 127 = .ok (.istore_n 3, 1) := by decide +kernel
theorem dX11_watch_128 : decode cX11_watch 128 = .ok (.iinc 5 1, 3) := by decide +kernel
theorem dX11_watch_131 : decode cX11_watch 131 = .ok (.goto (-71), 3) := by decide +kernel
theorem dX11_watch_134 : decode cX11_watch 134 = .ok (.iload_n 3, 1) := by decide +kernel
theorem dX11_watch_135 : decode cX11_watch 135 = .ok (.ireturn, 1) := by decide +kernel
set_option maxHeartbeats 4000000 in
set_option maxRecDepth 100000 in
theorem S_X11_watch_0_t30 {l : Launch} {D : va_G} {ids : List Nat} {ad : Nat → Nat} {ca : Nat → ClassId} {σ : HS} {x1 : Int32} (hid : ∀ i, i < 277 → i ∈ ids) (hG : GIc σ) (htx0 : σ.2.2 0 = 30) (htx1 : σ.2.2 1 = 43) : Ki l D ids ad ca yX11_watch cX11_watch 8 .int 7 168 [.ref (ad 0), .int x1] σ (fun r σ1 => (GIc σ1) ∧ (ony [9, 10, 11, 27, 60, 61, 62, 63] σ σ1)) := by
  refine Ki.of (by decide) (Nat.le_of_ble_eq_true rfl) 6 (fun Γ C Rt => ?_)
  show AW ids ad ca Γ 0 [some (.ref (ad 0)), some (.int x1), none, none, none, none, none, none] [] σ
  have j60 : ∀ (d60 : Nat) (σq60 : HS) (y60_2 : Int32) (y60_3 : Int32) (y60_4 : Int32) (y60_5 : Int32), 41 - y60_5.toInt < d60 → GIc σq60 → ony [9, 10, 11, 27, 60, 61, 62, 63] σ σq60 → 0 ≤ y60_3.toInt ∧ y60_3.toInt ≤ 40 → y60_4.toInt ≤ 8 → 0 ≤ y60_5.toInt ∧ y60_5.toInt ≤ 41 → AW ids ad ca Γ 60 [some (.ref (ad 0)), none, some (.int y60_2), some (.int y60_3), some (.int y60_4), some (.int y60_5), none, none] [] σq60 := by
    intro d60
    induction d60 with
    | zero =>
      intro σq60 y60_2 y60_3 y60_4 y60_5 hd60 hGq60 hoq60 hx60_0 hx60_1 hx60_2
      exfalso
      omega
    | succ d60 ih60 =>
      intro σq60 y60_2 y60_3 y60_4 y60_5 hd60 hGq60 hoq60 hx60_0 hx60_1 hx60_2
      have j128 : ∀ (σq128 : HS) (y128_3 : Int32) (y128_4 : Int32), GIc σq128 → ony [9, 10, 11, 27, 60, 61, 62, 63] σ σq128 → 0 ≤ y128_3.toInt ∧ y128_3.toInt ≤ 40 → y128_4.toInt ≤ 8 → 0 ≤ y60_5.toInt ∧ y60_5.toInt ≤ 40 → AW ids ad ca Γ 128 [some (.ref (ad 0)), none, some (.int y60_2), some (.int y128_3), some (.int y128_4), some (.int y60_5), none, none] [] σq128 := by
        intro σq128 y128_3 y128_4 hGq128 hoq128 hx128_0 hx128_1 hx128_2
        refine s_iinc C dX11_watch_128 rfl (1) (by decide) (by omega) (by decide) rfl (fun z1 h2 => ?_)
        show AW ids ad ca Γ 131 [some (.ref (ad 0)), none, some (.int y60_2), some (.int y128_3), some (.int y128_4), some (.int z1), none, none] _ _
        refine a_goto C dX11_watch_131 (tgt := 60) rfl ?_
        exact ih60 _ y60_2 y128_3 y128_4 z1 (by omega) hGq128 hoq128 (by omega) (by omega) (by omega)
      have j91 : ∀ (σq91 : HS) (u91_0 : Int32), GIc σq91 → ony [9, 10, 11, 27, 60, 61, 62, 63] σ σq91 → 0 ≤ y60_5.toInt ∧ y60_5.toInt ≤ 40 → AW ids ad ca Γ 91 [some (.ref (ad 0)), none, some (.int y60_2), some (.int y60_3), some (.int y60_4), some (.int y60_5), none, none] [.int u91_0] σq91 := by
        intro σq91 u91_0 hGq91 hoq91 hx91_0
        refine a_istore C dX11_watch_91 (by decide) rfl (vs1 := [some (.ref (ad 0)), none, some (.int y60_2), some (.int y60_3), some (.int y60_4), some (.int y60_5), some (.int u91_0), none]) rfl ?_
        refine a_iload_n C dX11_watch_93 (i := 2) rfl rfl ?_
        refine a_iload C dX11_watch_94 rfl ?_
        refine s_iandU C dX11_watch_96 (fun z3 => ?_)
        refine a_callSi C (S_J6_bitCount_0f7a4 (x1 := z3) hid hGq91) ms_J6_bitCount_0f7a4 ml_RX11_330 rfl rfl (Nat.le_of_ble_eq_true rfl) (Nat.le_of_ble_eq_true rfl) (Nat.le_of_ble_eq_true rfl) dX11_watch_97 (fun z5 σ6 q7 => ?_)
        rw [q7]
        refine a_iload_n C dX11_watch_100 (i := 2) rfl rfl ?_
        refine a_iload C dX11_watch_101 rfl ?_
        refine s_iconst C dX11_watch_103 (-1) (by decide) (fun z8 h9 => ?_)
        refine s_ixorU C dX11_watch_104 (fun z10 => ?_)
        refine s_iandU C dX11_watch_105 (fun z12 => ?_)
        refine a_callSi C (S_J6_bitCount_0f7a4 (x1 := z12) hid hGq91) ms_J6_bitCount_0f7a4 ml_RX11_330 rfl rfl (Nat.le_of_ble_eq_true rfl) (Nat.le_of_ble_eq_true rfl) (Nat.le_of_ble_eq_true rfl) dX11_watch_106 (fun z14 σ15 q16 => ?_)
        rw [q16]
        refine s_mmax C dX11_watch_109 mm_RX11_335 mm_max.1 mm_max.2.1 mm_max.2.2 (Nat.le_of_ble_eq_true rfl) (Nat.le_of_ble_eq_true rfl) (fun z17 h18 => ?_)
        refine a_istore C dX11_watch_112 (by decide) rfl (vs1 := [some (.ref (ad 0)), none, some (.int y60_2), some (.int y60_3), some (.int y60_4), some (.int y60_5), some (.int u91_0), some (.int z17)]) rfl ?_
        refine a_iload C dX11_watch_114 rfl ?_
        refine a_iload C dX11_watch_116 rfl ?_
        refine s_ic_ge C dX11_watch_118 (tgt := 128) rfl (fun c19 => ?_) (fun c19 => ?_)
        ·
          refine AW.sub (vs' := [some (.ref (ad 0)), none, some (.int y60_2), some (.int y60_3), some (.int y60_4), some (.int y60_5), none, none]) (lsub_of (by simp [lsubB])) ?_
          exact j128 _ y60_3 y60_4 hGq91 hoq91 (by omega) (by omega) (by omega)
        ·
          refine a_iload C dX11_watch_121 rfl ?_
          refine a_istore C dX11_watch_123 (by decide) rfl (vs1 := [some (.ref (ad 0)), none, some (.int y60_2), some (.int y60_3), some (.int z17), some (.int y60_5), some (.int u91_0), some (.int z17)]) rfl ?_
          refine a_iload C dX11_watch_125 rfl ?_
          refine a_istore_n C dX11_watch_127 (i := 3) rfl (by decide) rfl (vs1 := [some (.ref (ad 0)), none, some (.int y60_2), some (.int y60_5), some (.int z17), some (.int y60_5), some (.int u91_0), some (.int z17)]) rfl ?_
          refine AW.sub (vs' := [some (.ref (ad 0)), none, some (.int y60_2), some (.int y60_5), some (.int z17), some (.int y60_5), none, none]) (lsub_of (by simp [lsubB])) ?_
          exact j128 _ y60_5 z17 hGq91 hoq91 (by omega) (by omega) (by omega)
      refine a_iload C dX11_watch_60 rfl ?_
      refine s_bipush C dX11_watch_62 (40) (by decide) (fun z20 h21 => ?_)
      refine s_ic_gt C dX11_watch_64 (tgt := 134) rfl (fun c22 => ?_) (fun c22 => ?_)
      ·
        refine a_iload_n C dX11_watch_134 (i := 3) rfl rfl ?_
        exact a_iret Rt dX11_watch_135 rfl (⟨hGq60, hoq60⟩)
      ·
        refine a_aload_n C dX11_watch_67 (i := 0) rfl rfl ?_
        refine a_get C fl_RX11_69 (i := 0) kd_0 (hid 0 (by decide)) (v := .ref (ad 27)) rfl dX11_watch_68 ?_
        refine a_iload C dX11_watch_71 rfl ?_
        refine s_iald C (i := 27) kd_27 (hid 27 (by decide)) al_27 (by omega) (by omega) dX11_watch_73 (fun n23 h24 => ?_)
        refine s_val (fun z25 e26 => ?_)
        refine s_iconst C dX11_watch_74 (-1) (by decide) (fun z27 h28 => ?_)
        refine s_ic_ne C dX11_watch_75 (tgt := 82) rfl (fun c29 => ?_) (fun c29 => ?_)
        ·
          refine s_iconst C dX11_watch_82 (1) (by decide) (fun z30 h31 => ?_)
          refine a_aload_n C dX11_watch_83 (i := 0) rfl rfl ?_
          refine a_get C fl_RX11_69 (i := 0) kd_0 (hid 0 (by decide)) (v := .ref (ad 27)) rfl dX11_watch_84 ?_
          refine a_iload C dX11_watch_87 rfl ?_
          refine s_iald C (i := 27) kd_27 (hid 27 (by decide)) al_27 (by omega) (by omega) dX11_watch_89 (fun n32 h33 => ?_)
          refine s_val (fun z34 e35 => ?_)
          have g36 : z34.toInt = z25.toInt := congrArg Int32.toInt (e35.symm.trans ((congrArg (σq60.1 27) (show n32 = n23 by omega)).trans e26))
          refine s_ishlU C dX11_watch_90 (fun z37 => ?_)
          exact j91 _ z37 hGq60 hoq60 (by omega)
        ·
          refine s_iconst C dX11_watch_78 (0) (by decide) (fun z39 h40 => ?_)
          refine a_goto C dX11_watch_79 (tgt := 91) rfl ?_
          exact j91 _ z39 hGq60 hoq60 (by omega)
  refine a_iload_n C dX11_watch_0 (i := 1) rfl rfl ?_
  refine s_if_lt C dX11_watch_1 (tgt := 15) rfl (fun c41 => ?_) (fun c41 => ?_)
  ·
    refine s_iconst C dX11_watch_15 (-1) (by decide) (fun z42 h43 => ?_)
    exact a_iret Rt dX11_watch_16 rfl (⟨hG, ony.rf⟩)
  ·
    refine a_iload_n C dX11_watch_4 (i := 1) rfl rfl ?_
    refine a_aload_n C dX11_watch_5 (i := 0) rfl rfl ?_
    refine a_get C fl_RX11_33 (i := 0) kd_0 (hid 0 (by decide)) (v := .ref (ad 14)) rfl dX11_watch_6 ?_
    have g44 := bF_14_2 hG
    refine a_get C fl_RX11_117 (i := 14) kd_14 (hid 14 (by decide)) (v := .int (σ.1 14 2)) rfl dX11_watch_9 ?_
    refine s_ic_le C dX11_watch_12 (tgt := 17) rfl (fun c45 => ?_) (fun c45 => ?_)
    ·
      refine a_aload_n C dX11_watch_17 (i := 0) rfl rfl ?_
      refine s_bipush C dX11_watch_18 (41) (by decide) (fun z46 h47 => ?_)
      refine a_callVv C (i := 0) kd_0 (hid 0 (by decide)) ⟨_, _, rfl⟩ (by decide) (S_X11_findHands_0_t30 (x1 := z46) hid hG htx0 htx1 (by omega)) mi_X11_findHands ml_RX11_279 rfl rfl (Nat.le_of_ble_eq_true rfl) (Nat.le_of_ble_eq_true rfl) (Nat.le_of_ble_eq_true rfl) dX11_watch_20 (fun σ49 q50 => ?_)
      obtain ⟨hG51, ho52⟩ := q50
      refine a_aload_n C dX11_watch_23 (i := 0) rfl rfl ?_
      refine a_get C fl_RX11_33 (i := 0) kd_0 (hid 0 (by decide)) (v := .ref (ad 14)) rfl dX11_watch_24 ?_
      refine a_aload_n C dX11_watch_27 (i := 0) rfl rfl ?_
      refine a_get C fl_RX11_54 (i := 0) kd_0 (hid 0 (by decide)) (v := .ref (ad 56)) rfl dX11_watch_28 ?_
      refine s_iconst C dX11_watch_31 (0) (by decide) (fun z54 h55 => ?_)
      refine a_callVi C (i := 56) kd_56 (hid 56 (by decide)) ⟨_, _, rfl⟩ (by decide) (S_X0_bitsOf_56 (x1 := z54) hid hG51) mi_X0_bitsOf ml_RX11_180 rfl rfl (Nat.le_of_ble_eq_true rfl) (Nat.le_of_ble_eq_true rfl) (Nat.le_of_ble_eq_true rfl) dX11_watch_32 (fun z56 σ57 q58 => ?_)
      rw [q58]
      refine a_iload_n C dX11_watch_35 (i := 1) rfl rfl ?_
      refine a_aload_n C dX11_watch_36 (i := 0) rfl rfl ?_
      refine a_get C fl_RX11_69 (i := 0) kd_0 (hid 0 (by decide)) (v := .ref (ad 27)) rfl dX11_watch_37 ?_
      refine a_callVi C (i := 14) kd_14 (hid 14 (by decide)) ⟨_, _, rfl⟩ (by decide) (S_X2_agreeing_14_27 (x1 := z56) (x2 := x1) hid hG51) mi_X2_agreeing ml_RX11_326 rfl rfl (Nat.le_of_ble_eq_true rfl) (Nat.le_of_ble_eq_true rfl) (Nat.le_of_ble_eq_true rfl) dX11_watch_40 (fun z59 σ60 q61 => ?_)
      rw [q61]
      refine a_istore_n C dX11_watch_43 (i := 2) rfl (by decide) rfl (vs1 := [some (.ref (ad 0)), some (.int x1), some (.int z59), none, none, none, none, none]) rfl ?_
      refine a_iload_n C dX11_watch_44 (i := 2) rfl rfl ?_
      refine s_if_ne C dX11_watch_45 (tgt := 51) rfl (fun c62 => ?_) (fun c62 => ?_)
      ·
        refine s_iconst C dX11_watch_51 (0) (by decide) (fun z63 h64 => ?_)
        refine a_istore_n C dX11_watch_52 (i := 3) rfl (by decide) rfl (vs1 := [some (.ref (ad 0)), some (.int x1), some (.int z59), some (.int z63), none, none, none, none]) rfl ?_
        refine s_bipush C dX11_watch_53 (8) (by decide) (fun z65 h66 => ?_)
        refine a_istore C dX11_watch_55 (by decide) rfl (vs1 := [some (.ref (ad 0)), some (.int x1), some (.int z59), some (.int z63), some (.int z65), none, none, none]) rfl ?_
        refine s_iconst C dX11_watch_57 (0) (by decide) (fun z67 h68 => ?_)
        refine a_istore C dX11_watch_58 (by decide) rfl (vs1 := [some (.ref (ad 0)), some (.int x1), some (.int z59), some (.int z63), some (.int z65), some (.int z67), none, none]) rfl ?_
        refine AW.sub (vs' := [some (.ref (ad 0)), none, some (.int z59), some (.int z63), some (.int z65), some (.int z67), none, none]) (lsub_of (by simp [lsubB])) ?_
        exact j60 100000 _ z59 z63 z65 z67 (by omega) hG51 (ony.tr ony.rf (ony.mono ho52 (by decide))) (by omega) (by omega) (by omega)
      ·
        refine s_bipush C dX11_watch_48 (-2) (by decide) (fun z69 h70 => ?_)
        exact a_iret Rt dX11_watch_50 rfl (⟨hG51, (ony.tr ony.rf (ony.mono ho52 (by decide)))⟩)
    ·
      refine s_iconst C dX11_watch_15 (-1) (by decide) (fun z71 h72 => ?_)
      exact a_iret Rt dX11_watch_16 rfl (⟨hG, ony.rf⟩)
set_option maxHeartbeats 4000000 in
set_option maxRecDepth 100000 in
theorem S_X9_append_2 {l : Launch} {D : va_G} {ids : List Nat} {ad : Nat → Nat} {ca : Nat → ClassId} {σ : HS} {x1 : Int32} (hid : ∀ i, i < 277 → i ∈ ids) (hG : GIc σ) : Kv l D ids ad ca yX9_append cX9_append 3 0 0 [.ref (ad 2), .int x1] σ (fun σ1 => (GIc σ1) ∧ (ony [2, 3] σ σ1)) := by
  refine Kv.of (by decide) (Nat.le_of_ble_eq_true rfl) 1 (fun Γ C Rt => ?_)
  show AW ids ad ca Γ 0 [some (.ref (ad 2)), some (.int x1), none] [] σ
  have j3 : ∀ (d3 : Nat) (σq3 : HS) (y3_2 : Int32), y3_2.toInt - -100 < d3 → GIc σq3 → ony [2, 3] σ σq3 → -100 ≤ y3_2.toInt ∧ y3_2.toInt ≤ 24 → AW ids ad ca Γ 3 [some (.ref (ad 2)), some (.int x1), some (.int y3_2)] [] σq3 := by
    intro d3
    induction d3 with
    | zero =>
      intro σq3 y3_2 hd3 hGq3 hoq3 hx3_0
      exfalso
      omega
    | succ d3 ih3 =>
      intro σq3 y3_2 hd3 hGq3 hoq3 hx3_0
      have j43 : ∀ (σq43 : HS), GIc σq43 → ony [2, 3] σ σq43 → 0 ≤ y3_2.toInt ∧ y3_2.toInt ≤ 24 → AW ids ad ca Γ 43 [some (.ref (ad 2)), some (.int x1), some (.int y3_2)] [] σq43 := by
        intro σq43 hGq43 hoq43 hx43_0
        refine s_iinc C dX9_append_43 rfl (-8) (by decide) (by omega) (by decide) rfl (fun z1 h2 => ?_)
        show AW ids ad ca Γ 46 [some (.ref (ad 2)), some (.int x1), some (.int z1)] _ _
        refine a_goto C dX9_append_46 (tgt := 3) rfl ?_
        exact ih3 _ z1 (by omega) hGq43 hoq43 (by omega)
      refine a_iload_n C dX9_append_3 (i := 2) rfl rfl ?_
      refine s_if_lt C dX9_append_4 (tgt := 49) rfl (fun c3 => ?_) (fun c3 => ?_)
      ·
        exact a_vret Rt dX9_append_49 (⟨hGq3, hoq3⟩)
      ·
        refine a_aload_n C dX9_append_7 (i := 0) rfl rfl ?_
        have g4 := bF_2_1 hGq3
        refine a_get C fl_RX9_25 (i := 2) kd_2 (hid 2 (by decide)) (v := .int (σq3.1 2 1)) rfl dX9_append_8 ?_
        refine s_sipush C dX9_append_11 (2000) (by decide) (fun z5 h6 => ?_)
        refine s_ic_ge C dX9_append_14 (tgt := 43) rfl (fun c7 => ?_) (fun c7 => ?_)
        ·
          exact j43 _ hGq3 hoq3 (by omega)
        ·
          refine a_aload_n C dX9_append_17 (i := 0) rfl rfl ?_
          refine a_get C fl_RX9_9 (i := 2) kd_2 (hid 2 (by decide)) (v := .ref (ad 3)) rfl dX9_append_18 ?_
          refine a_aload_n C dX9_append_21 (i := 0) rfl rfl ?_
          have g8 := bF_2_1 hGq3
          refine a_get C fl_RX9_25 (i := 2) kd_2 (hid 2 (by decide)) (v := .int (σq3.1 2 1)) rfl dX9_append_22 ?_
          refine a_iload_n C dX9_append_25 (i := 1) rfl rfl ?_
          refine a_iload_n C dX9_append_26 (i := 2) rfl rfl ?_
          refine s_iushrU C dX9_append_27 (fun z9 => ?_)
          refine s_sipush C dX9_append_28 (255) (by decide) (fun z11 h12 => ?_)
          refine s_iand C dX9_append_31 (by omega) (fun z13 h14 => ?_)
          refine s_iast C (i := 3) kd_3 (hid 3 (by decide)) al_3 (by omega) (by omega) dX9_append_32 (fun n15 h16 => ?_)
          have hG17 := wA_3 (v := z13) (j := n15) hGq3
          refine a_aload_n C dX9_append_33 (i := 0) rfl rfl ?_
          refine a_dup C dX9_append_34 rfl ?_
          have g18 := bF_2_1 hGq3
          refine a_get C fl_RX9_25 (i := 2) kd_2 (hid 2 (by decide)) (v := .int (σq3.1 2 1)) rfl dX9_append_35 ?_
          refine s_iconst C dX9_append_38 (1) (by decide) (fun z19 h20 => ?_)
          refine s_iadd C dX9_append_39 (by omega) (fun z21 h22 => ?_)
          refine a_put C fp_RX9_25 (i := 2) kd_2 (hid 2 (by decide)) rfl rfl dX9_append_40 ?_
          have hG23 := wF_2_1 (v := z21) hG17 (by omega) (by omega)
          exact j43 _ hG23 (ony.I (ony.I hoq3 (by decide)) (by decide)) (by omega)
  refine s_bipush C dX9_append_0 (24) (by decide) (fun z24 h25 => ?_)
  refine a_istore_n C dX9_append_2 (i := 2) rfl (by decide) rfl (vs1 := [some (.ref (ad 2)), some (.int x1), some (.int z24)]) rfl ?_
  exact j3 100000 _ z24 (by omega) hG ony.rf (by omega)
theorem dX11_feed_19 : decode cX11_feed 19 = .ok (.iconst (-1), 1) := by decide +kernel
theorem dX11_feed_20 : decode cX11_feed 20 = .ok (.ireturn, 1) := by decide +kernel
set_option maxHeartbeats 4000000 in
set_option maxRecDepth 100000 in
theorem S_X11_feed_0_t30 {l : Launch} {D : va_G} {ids : List Nat} {ad : Nat → Nat} {ca : Nat → ClassId} {σ : HS} {x1 : Int32} {x2 : Int32} {x3 : Int32} {x4 : Int32} {x5 : Int32} (hid : ∀ i, i < 277 → i ∈ ids) (hG : GIc σ) (htx0 : σ.2.2 0 = 30) (htx1 : σ.2.2 1 = 43) : Ki l D ids ad ca yX11_feed cX11_feed 6 .int 1 22 [.ref (ad 0), .int x1, .int x2, .int x3, .int x4, .int x5] σ (fun r σ1 => (GIc σ1) ∧ (ony [2, 3] σ σ1)) := by
  refine Ki.of (by decide) (Nat.le_of_ble_eq_true rfl) 0 (fun Γ C Rt => ?_)
  show AW ids ad ca Γ 0 [some (.ref (ad 0)), some (.int x1), some (.int x2), some (.int x3), some (.int x4), some (.int x5)] [] σ
  refine a_aload_n C dX11_feed_0 (i := 0) rfl rfl ?_
  refine a_get C fl_RX11_10 (i := 0) kd_0 (hid 0 (by decide)) (v := .ref (ad 1)) rfl dX11_feed_1 ?_
  refine a_get C fl_RX11_89 (i := 1) kd_1 (hid 1 (by decide)) (v := .ref (ad 2)) rfl dX11_feed_4 ?_
  have g1 := bF_2_1 hG
  refine a_get C fl_RX11_93 (i := 2) kd_2 (hid 2 (by decide)) (v := .int (σ.1 2 1)) rfl dX11_feed_7 ?_
  refine s_bipush C dX11_feed_10 (20) (by decide) (fun z2 h3 => ?_)
  refine s_iadd C dX11_feed_12 (by omega) (fun z4 h5 => ?_)
  refine s_sipush C dX11_feed_13 (2000) (by decide) (fun z6 h7 => ?_)
  refine s_ic_le C dX11_feed_16 (tgt := 21) rfl (fun c8 => ?_) (fun c8 => ?_)
  ·
    refine a_aload_n C dX11_feed_21 (i := 0) rfl rfl ?_
    refine a_get C fl_RX11_10 (i := 0) kd_0 (hid 0 (by decide)) (v := .ref (ad 1)) rfl dX11_feed_22 ?_
    refine a_get C fl_RX11_89 (i := 1) kd_1 (hid 1 (by decide)) (v := .ref (ad 2)) rfl dX11_feed_25 ?_
    refine a_iload_n C dX11_feed_28 (i := 1) rfl rfl ?_
    refine a_callVv C (i := 2) kd_2 (hid 2 (by decide)) ⟨_, _, rfl⟩ (by decide) (S_X9_append_2 (x1 := x1) hid hG) mi_X9_append ml_RX11_99 rfl rfl (Nat.le_of_ble_eq_true rfl) (Nat.le_of_ble_eq_true rfl) (Nat.le_of_ble_eq_true rfl) dX11_feed_29 (fun σ10 q11 => ?_)
    obtain ⟨hG12, ho13⟩ := q11
    refine a_aload_n C dX11_feed_32 (i := 0) rfl rfl ?_
    refine a_get C fl_RX11_10 (i := 0) kd_0 (hid 0 (by decide)) (v := .ref (ad 1)) rfl dX11_feed_33 ?_
    refine a_get C fl_RX11_89 (i := 1) kd_1 (hid 1 (by decide)) (v := .ref (ad 2)) rfl dX11_feed_36 ?_
    refine a_iload_n C dX11_feed_39 (i := 2) rfl rfl ?_
    refine a_callVv C (i := 2) kd_2 (hid 2 (by decide)) ⟨_, _, rfl⟩ (by decide) (S_X9_append_2 (x1 := x2) hid hG12) mi_X9_append ml_RX11_99 rfl rfl (Nat.le_of_ble_eq_true rfl) (Nat.le_of_ble_eq_true rfl) (Nat.le_of_ble_eq_true rfl) dX11_feed_40 (fun σ16 q17 => ?_)
    obtain ⟨hG18, ho19⟩ := q17
    refine a_aload_n C dX11_feed_43 (i := 0) rfl rfl ?_
    refine a_get C fl_RX11_10 (i := 0) kd_0 (hid 0 (by decide)) (v := .ref (ad 1)) rfl dX11_feed_44 ?_
    refine a_get C fl_RX11_89 (i := 1) kd_1 (hid 1 (by decide)) (v := .ref (ad 2)) rfl dX11_feed_47 ?_
    refine a_iload_n C dX11_feed_50 (i := 3) rfl rfl ?_
    refine a_callVv C (i := 2) kd_2 (hid 2 (by decide)) ⟨_, _, rfl⟩ (by decide) (S_X9_append_2 (x1 := x3) hid hG18) mi_X9_append ml_RX11_99 rfl rfl (Nat.le_of_ble_eq_true rfl) (Nat.le_of_ble_eq_true rfl) (Nat.le_of_ble_eq_true rfl) dX11_feed_51 (fun σ22 q23 => ?_)
    obtain ⟨hG24, ho25⟩ := q23
    refine a_aload_n C dX11_feed_54 (i := 0) rfl rfl ?_
    refine a_get C fl_RX11_10 (i := 0) kd_0 (hid 0 (by decide)) (v := .ref (ad 1)) rfl dX11_feed_55 ?_
    refine a_get C fl_RX11_89 (i := 1) kd_1 (hid 1 (by decide)) (v := .ref (ad 2)) rfl dX11_feed_58 ?_
    refine a_iload C dX11_feed_61 rfl ?_
    refine a_callVv C (i := 2) kd_2 (hid 2 (by decide)) ⟨_, _, rfl⟩ (by decide) (S_X9_append_2 (x1 := x4) hid hG24) mi_X9_append ml_RX11_99 rfl rfl (Nat.le_of_ble_eq_true rfl) (Nat.le_of_ble_eq_true rfl) (Nat.le_of_ble_eq_true rfl) dX11_feed_63 (fun σ28 q29 => ?_)
    obtain ⟨hG30, ho31⟩ := q29
    refine a_aload_n C dX11_feed_66 (i := 0) rfl rfl ?_
    refine a_get C fl_RX11_10 (i := 0) kd_0 (hid 0 (by decide)) (v := .ref (ad 1)) rfl dX11_feed_67 ?_
    refine a_get C fl_RX11_89 (i := 1) kd_1 (hid 1 (by decide)) (v := .ref (ad 2)) rfl dX11_feed_70 ?_
    refine a_iload C dX11_feed_73 rfl ?_
    refine a_callVv C (i := 2) kd_2 (hid 2 (by decide)) ⟨_, _, rfl⟩ (by decide) (S_X9_append_2 (x1 := x5) hid hG30) mi_X9_append ml_RX11_99 rfl rfl (Nat.le_of_ble_eq_true rfl) (Nat.le_of_ble_eq_true rfl) (Nat.le_of_ble_eq_true rfl) dX11_feed_75 (fun σ34 q35 => ?_)
    obtain ⟨hG36, ho37⟩ := q35
    refine a_aload_n C dX11_feed_78 (i := 0) rfl rfl ?_
    refine a_get C fl_RX11_10 (i := 0) kd_0 (hid 0 (by decide)) (v := .ref (ad 1)) rfl dX11_feed_79 ?_
    refine a_get C fl_RX11_89 (i := 1) kd_1 (hid 1 (by decide)) (v := .ref (ad 2)) rfl dX11_feed_82 ?_
    have g39 := bF_2_1 hG36
    refine a_get C fl_RX11_93 (i := 2) kd_2 (hid 2 (by decide)) (v := .int (σ34.1 2 1)) rfl dX11_feed_85 ?_
    exact a_iret Rt dX11_feed_88 rfl (⟨hG36, (ony.tr (ony.tr (ony.tr (ony.tr (ony.tr ony.rf (ony.mono ho13 (by decide))) (ony.mono ho19 (by decide))) (ony.mono ho25 (by decide))) (ony.mono ho31 (by decide))) (ony.mono ho37 (by decide)))⟩)
  ·
    refine s_iconst C dX11_feed_19 (-1) (by decide) (fun z40 h41 => ?_)
    exact a_iret Rt dX11_feed_20 rfl (⟨hG, ony.rf⟩)
set_option maxHeartbeats 4000000 in
set_option maxRecDepth 100000 in
theorem S_X11_back_0_t30 {l : Launch} {D : va_G} {ids : List Nat} {ad : Nat → Nat} {ca : Nat → ClassId} {σ : HS} {x1 : Int32} (hid : ∀ i, i < 277 → i ∈ ids) (hG : GIc σ) (htx0 : σ.2.2 0 = 30) (htx1 : σ.2.2 1 = 43) : Ki l D ids ad ca yX11_back cX11_back 2 .int 0 0 [.ref (ad 0), .int x1] σ (fun r σ1 => (GIc σ1) ∧ (ony [2] σ σ1)) := by
  refine Ki.of (by decide) (Nat.le_of_ble_eq_true rfl) 0 (fun Γ C Rt => ?_)
  show AW ids ad ca Γ 0 [some (.ref (ad 0)), some (.int x1)] [] σ
  refine a_iload_n C dX11_back_0 (i := 1) rfl rfl ?_
  refine s_if_lt C dX11_back_1 (tgt := 18) rfl (fun c1 => ?_) (fun c1 => ?_)
  ·
    refine s_iconst C dX11_back_18 (-1) (by decide) (fun z2 h3 => ?_)
    exact a_iret Rt dX11_back_19 rfl (⟨hG, ony.rf⟩)
  ·
    refine a_iload_n C dX11_back_4 (i := 1) rfl rfl ?_
    refine a_aload_n C dX11_back_5 (i := 0) rfl rfl ?_
    refine a_get C fl_RX11_10 (i := 0) kd_0 (hid 0 (by decide)) (v := .ref (ad 1)) rfl dX11_back_6 ?_
    refine a_get C fl_RX11_89 (i := 1) kd_1 (hid 1 (by decide)) (v := .ref (ad 2)) rfl dX11_back_9 ?_
    have g4 := bF_2_1 hG
    refine a_get C fl_RX11_93 (i := 2) kd_2 (hid 2 (by decide)) (v := .int (σ.1 2 1)) rfl dX11_back_12 ?_
    refine s_ic_le C dX11_back_15 (tgt := 20) rfl (fun c5 => ?_) (fun c5 => ?_)
    ·
      refine a_aload_n C dX11_back_20 (i := 0) rfl rfl ?_
      refine a_get C fl_RX11_10 (i := 0) kd_0 (hid 0 (by decide)) (v := .ref (ad 1)) rfl dX11_back_21 ?_
      refine a_get C fl_RX11_89 (i := 1) kd_1 (hid 1 (by decide)) (v := .ref (ad 2)) rfl dX11_back_24 ?_
      refine a_dup C dX11_back_27 rfl ?_
      have g6 := bF_2_1 hG
      refine a_get C fl_RX11_93 (i := 2) kd_2 (hid 2 (by decide)) (v := .int (σ.1 2 1)) rfl dX11_back_28 ?_
      refine a_iload_n C dX11_back_31 (i := 1) rfl rfl ?_
      refine s_isub C dX11_back_32 (by omega) (fun z7 h8 => ?_)
      refine a_put C fp_RX11_93 (i := 2) kd_2 (hid 2 (by decide)) rfl rfl dX11_back_33 ?_
      have hG9 := wF_2_1 (v := z7) hG (by omega) (by omega)
      refine a_aload_n C dX11_back_36 (i := 0) rfl rfl ?_
      refine a_get C fl_RX11_10 (i := 0) kd_0 (hid 0 (by decide)) (v := .ref (ad 1)) rfl dX11_back_37 ?_
      refine a_get C fl_RX11_89 (i := 1) kd_1 (hid 1 (by decide)) (v := .ref (ad 2)) rfl dX11_back_40 ?_
      refine a_get C fl_RX11_93 (i := 2) kd_2 (hid 2 (by decide)) (v := .int z7) rfl dX11_back_43 ?_
      exact a_iret Rt dX11_back_46 rfl (⟨hG9, (ony.I ony.rf (by decide))⟩)
    ·
      refine s_iconst C dX11_back_18 (-1) (by decide) (fun z10 h11 => ?_)
      exact a_iret Rt dX11_back_19 rfl (⟨hG, ony.rf⟩)
theorem dX11_throwIn_11 : decode cX11_throwIn 11 = .ok (.aload_n 0, 1) := by decide +kernel
theorem dX11_throwIn_12 : decode cX11_throwIn 12 = .ok (.getfield 54, 3) := by decide +kernel
theorem dX11_throwIn_15 : decode cX11_throwIn 15 = .ok (.iload_n 1, 1) := by decide +kernel
theorem dX11_throwIn_16 : decode cX11_throwIn 16 = .ok (.invokevirtual 134, 3) := by decide +kernel
theorem dX11_throwIn_19 : decode cX11_throwIn 19 = .ok (.ifCond .ne 10, 3) := by decide +kernel
theorem dX11_throwIn_22 : decode cX11_throwIn 22 = .ok (.iload_n 2, 1) := by decide +kernel
theorem dX11_throwIn_23 : decode cX11_throwIn 23 = .ok (.invokestatic 153, 3) := by decide +kernel
theorem dX11_throwIn_26 : decode cX11_throwIn 26 = .ok (.ifCond .ne 5, 3) := by decide +kernel
theorem dX11_throwIn_31 : decode cX11_throwIn 31 = .ok (.aload_n 0, 1) := by decide +kernel
theorem dX11_throwIn_32 : decode cX11_throwIn 32 = .ok (.getfield 26, 3) := by decide +kernel
theorem dX11_throwIn_35 : decode cX11_throwIn 35 = .ok (.aload_n 0, 1) := by decide +kernel
theorem dX11_throwIn_36 : decode cX11_throwIn 36 = .ok (.getfield 54, 3) := by decide +kernel
theorem dX11_throwIn_39 : decode cX11_throwIn 39 = .ok (.invokevirtual 206, 3) := by decide +kernel
theorem dX11_throwIn_42 : decode cX11_throwIn 42 = .ok (.aload_n 0, 1) := by decide +kernel
theorem dX11_throwIn_43 : decode cX11_throwIn 43 = .ok (.getfield 54, 3) := by decide +kernel
theorem dX11_throwIn_46 : decode cX11_throwIn 46 = .ok (.iload_n 1, 1) := by decide +kernel
theorem dX11_throwIn_47 : decode cX11_throwIn 47 = .ok (.iload_n 2, 1) := by decide +kernel
theorem dX11_throwIn_48 : decode cX11_throwIn 48 = .ok (.invokevirtual 210, 3) := by decide +kernel
theorem dX11_throwIn_51 : decode cX11_throwIn 51 = .ok (.iconst 1, 1) := by decide +kernel
theorem dX11_throwIn_52 : decode cX11_throwIn 52 = .ok (.ireturn, 1) := by decide +kernel
set_option maxHeartbeats 4000000 in
set_option maxRecDepth 100000 in
theorem S_X11_throwIn_0_t30 {l : Launch} {D : va_G} {ids : List Nat} {ad : Nat → Nat} {ca : Nat → ClassId} {σ : HS} {x1 : Int32} {x2 : Int32} (hid : ∀ i, i < 277 → i ∈ ids) (hG : GIc σ) (htx0 : σ.2.2 0 = 30) (htx1 : σ.2.2 1 = 43) : Ki l D ids ad ca yX11_throwIn cX11_throwIn 3 .boolean 3 102 [.ref (ad 0), .int x1, .int x2] σ (fun r σ1 => (GIc σ1) ∧ (ony ([12, 57, 58] ++ ringN 160) σ σ1) ∧ (0 ≤ r.toInt ∧ r.toInt ≤ 1)) := by
  refine Ki.of (by decide) (Nat.le_of_ble_eq_true rfl) 0 (fun Γ C Rt => ?_)
  show AW ids ad ca Γ 0 [some (.ref (ad 0)), some (.int x1), some (.int x2)] [] σ
  refine a_aload_n C dX11_throwIn_0 (i := 0) rfl rfl ?_
  refine a_get C fl_RX11_82 (i := 0) kd_0 (hid 0 (by decide)) (v := .ref (ad 30)) (congrArg (fun z => some (Value.ref (ad z))) htx0) dX11_throwIn_1 ?_
  refine a_iload_n C dX11_throwIn_4 (i := 1) rfl rfl ?_
  refine a_callVi C (i := 30) kd_30 (hid 30 (by decide)) ⟨_, _, rfl⟩ (by decide) (S_X10_hasThing_30 (x1 := x1) hid hG) mi_X10_hasThing ml_RX11_121 rfl rfl (Nat.le_of_ble_eq_true rfl) (Nat.le_of_ble_eq_true rfl) (Nat.le_of_ble_eq_true rfl) dX11_throwIn_5 (fun z1 σ2 q3 => ?_)
  obtain ⟨w4, w5, w6⟩ := q3
  rw [w4]
  refine s_if_eq C dX11_throwIn_8 (tgt := 29) rfl (fun c7 => ?_) (fun c7 => ?_)
  ·
    refine s_iconst C dX11_throwIn_29 (0) (by decide) (fun z8 h9 => ?_)
    exact a_iret Rt dX11_throwIn_30 (nar_z (by omega)).1 (⟨hG, ony.rf, (show 0 ≤ z8.toInt ∧ z8.toInt ≤ 1 by intros; omega)⟩)
  ·
    refine a_aload_n C dX11_throwIn_11 (i := 0) rfl rfl ?_
    refine a_get C fl_RX11_54 (i := 0) kd_0 (hid 0 (by decide)) (v := .ref (ad 56)) rfl dX11_throwIn_12 ?_
    refine a_iload_n C dX11_throwIn_15 (i := 1) rfl rfl ?_
    refine a_callVi C (i := 56) kd_56 (hid 56 (by decide)) ⟨_, _, rfl⟩ (by decide) (S_X0_isUp_56 (x1 := x1) hid hG (by omega)) mi_X0_isUp ml_RX11_134 rfl rfl (Nat.le_of_ble_eq_true rfl) (Nat.le_of_ble_eq_true rfl) (Nat.le_of_ble_eq_true rfl) dX11_throwIn_16 (fun z10 σ11 q12 => ?_)
    obtain ⟨w13, w14⟩ := q12
    rw [w13]
    refine s_if_ne C dX11_throwIn_19 (tgt := 29) rfl (fun c15 => ?_) (fun c15 => ?_)
    ·
      refine s_iconst C dX11_throwIn_29 (0) (by decide) (fun z16 h17 => ?_)
      exact a_iret Rt dX11_throwIn_30 (nar_z (by omega)).1 (⟨hG, ony.rf, (show 0 ≤ z16.toInt ∧ z16.toInt ≤ 1 by intros; omega)⟩)
    ·
      refine a_iload_n C dX11_throwIn_22 (i := 2) rfl rfl ?_
      refine a_callSi C (S_X11_isHeight (x1 := x2) hid hG) ms_X11_isHeight ml_RX11_153 rfl rfl (Nat.le_of_ble_eq_true rfl) (Nat.le_of_ble_eq_true rfl) (Nat.le_of_ble_eq_true rfl) dX11_throwIn_23 (fun z18 σ19 q20 => ?_)
      obtain ⟨w21, w22, w23⟩ := q20
      rw [w21]
      refine s_if_ne C dX11_throwIn_26 (tgt := 31) rfl (fun c24 => ?_) (fun c24 => ?_)
      ·
        refine a_aload_n C dX11_throwIn_31 (i := 0) rfl rfl ?_
        refine a_get C fl_RX11_26 (i := 0) kd_0 (hid 0 (by decide)) (v := .ref (ad 12)) rfl dX11_throwIn_32 ?_
        refine a_aload_n C dX11_throwIn_35 (i := 0) rfl rfl ?_
        refine a_get C fl_RX11_54 (i := 0) kd_0 (hid 0 (by decide)) (v := .ref (ad 56)) rfl dX11_throwIn_36 ?_
        refine a_callVv C (i := 12) kd_12 (hid 12 (by decide)) ⟨_, _, rfl⟩ (by decide) (S_X5_keep_12_56 hid hG) mi_X5_keep ml_RX11_206 rfl rfl (Nat.le_of_ble_eq_true rfl) (Nat.le_of_ble_eq_true rfl) (Nat.le_of_ble_eq_true rfl) dX11_throwIn_39 (fun σ26 q27 => ?_)
        obtain ⟨hG28, ho29⟩ := q27
        refine a_aload_n C dX11_throwIn_42 (i := 0) rfl rfl ?_
        refine a_get C fl_RX11_54 (i := 0) kd_0 (hid 0 (by decide)) (v := .ref (ad 56)) rfl dX11_throwIn_43 ?_
        refine a_iload_n C dX11_throwIn_46 (i := 1) rfl rfl ?_
        refine a_iload_n C dX11_throwIn_47 (i := 2) rfl rfl ?_
        refine a_callVv C (i := 56) kd_56 (hid 56 (by decide)) ⟨_, _, rfl⟩ (by decide) (S_X0_putUp_56 (x1 := x1) (x2 := x2) hid hG28 (by omega)) mi_X0_putUp ml_RX11_210 rfl rfl (Nat.le_of_ble_eq_true rfl) (Nat.le_of_ble_eq_true rfl) (Nat.le_of_ble_eq_true rfl) dX11_throwIn_48 (fun σ32 q33 => ?_)
        obtain ⟨hG34, ho35⟩ := q33
        refine s_iconst C dX11_throwIn_51 (1) (by decide) (fun z37 h38 => ?_)
        exact a_iret Rt dX11_throwIn_52 (nar_z (by omega)).1 (⟨hG34, (ony.tr (ony.tr ony.rf (ony.mono ho29 (mono_ring (by decide)))) (ony.mono ho35 (mono_l (by decide)))), (show 0 ≤ z37.toInt ∧ z37.toInt ≤ 1 by intros; omega)⟩)
      ·
        refine s_iconst C dX11_throwIn_29 (0) (by decide) (fun z39 h40 => ?_)
        exact a_iret Rt dX11_throwIn_30 (nar_z (by omega)).1 (⟨hG, ony.rf, (show 0 ≤ z39.toInt ∧ z39.toInt ≤ 1 by intros; omega)⟩)
theorem dX11_use_13 : decode cX11_use 13 = .ok (.aload_n 0, 1) := by decide +kernel
theorem dX11_use_14 : decode cX11_use 14 = .ok (.getfield 26, 3) := by decide +kernel
theorem dX11_use_17 : decode cX11_use 17 = .ok (.aload_n 0, 1) := by decide +kernel
theorem dX11_use_18 : decode cX11_use 18 = .ok (.getfield 54, 3) := by decide +kernel
theorem dX11_use_21 : decode cX11_use 21 = .ok (.invokevirtual 206, 3) := by decide +kernel
theorem dX11_use_24 : decode cX11_use 24 = .ok (.aload_n 0, 1) := by decide +kernel
theorem dX11_use_25 : decode cX11_use 25 = .ok (.getfield 54, 3) := by decide +kernel
theorem dX11_use_28 : decode cX11_use 28 = .ok (.iload_n 1, 1) := by decide +kernel
theorem dX11_use_29 : decode cX11_use 29 = .ok (.invokevirtual 214, 3) := by decide +kernel
theorem dX11_use_32 : decode cX11_use 32 = .ok (.iconst 1, 1) := by decide +kernel
theorem dX11_use_33 : decode cX11_use 33 = .ok (.ireturn, 1) := by decide +kernel
set_option maxHeartbeats 4000000 in
set_option maxRecDepth 100000 in
theorem S_X11_use_0_t30 {l : Launch} {D : va_G} {ids : List Nat} {ad : Nat → Nat} {ca : Nat → ClassId} {σ : HS} {x1 : Int32} (hid : ∀ i, i < 277 → i ∈ ids) (hG : GIc σ) (htx0 : σ.2.2 0 = 30) (htx1 : σ.2.2 1 = 43) : Ki l D ids ad ca yX11_use cX11_use 2 .boolean 3 102 [.ref (ad 0), .int x1] σ (fun r σ1 => (GIc σ1) ∧ (ony ([12, 56] ++ ringN 160) σ σ1) ∧ (0 ≤ r.toInt ∧ r.toInt ≤ 1)) := by
  refine Ki.of (by decide) (Nat.le_of_ble_eq_true rfl) 0 (fun Γ C Rt => ?_)
  show AW ids ad ca Γ 0 [some (.ref (ad 0)), some (.int x1)] [] σ
  refine a_aload_n C dX11_use_0 (i := 0) rfl rfl ?_
  refine a_get C fl_RX11_82 (i := 0) kd_0 (hid 0 (by decide)) (v := .ref (ad 30)) (congrArg (fun z => some (Value.ref (ad z))) htx0) dX11_use_1 ?_
  refine a_iload_n C dX11_use_4 (i := 1) rfl rfl ?_
  refine a_callVi C (i := 30) kd_30 (hid 30 (by decide)) ⟨_, _, rfl⟩ (by decide) (S_X10_hasPattern_30 (x1 := x1) hid hG) mi_X10_hasPattern ml_RX11_143 rfl rfl (Nat.le_of_ble_eq_true rfl) (Nat.le_of_ble_eq_true rfl) (Nat.le_of_ble_eq_true rfl) dX11_use_5 (fun z1 σ2 q3 => ?_)
  obtain ⟨w4, w5, w6⟩ := q3
  rw [w4]
  refine s_if_ne C dX11_use_8 (tgt := 13) rfl (fun c7 => ?_) (fun c7 => ?_)
  ·
    refine a_aload_n C dX11_use_13 (i := 0) rfl rfl ?_
    refine a_get C fl_RX11_26 (i := 0) kd_0 (hid 0 (by decide)) (v := .ref (ad 12)) rfl dX11_use_14 ?_
    refine a_aload_n C dX11_use_17 (i := 0) rfl rfl ?_
    refine a_get C fl_RX11_54 (i := 0) kd_0 (hid 0 (by decide)) (v := .ref (ad 56)) rfl dX11_use_18 ?_
    refine a_callVv C (i := 12) kd_12 (hid 12 (by decide)) ⟨_, _, rfl⟩ (by decide) (S_X5_keep_12_56 hid hG) mi_X5_keep ml_RX11_206 rfl rfl (Nat.le_of_ble_eq_true rfl) (Nat.le_of_ble_eq_true rfl) (Nat.le_of_ble_eq_true rfl) dX11_use_21 (fun σ9 q10 => ?_)
    obtain ⟨hG11, ho12⟩ := q10
    refine a_aload_n C dX11_use_24 (i := 0) rfl rfl ?_
    refine a_get C fl_RX11_54 (i := 0) kd_0 (hid 0 (by decide)) (v := .ref (ad 56)) rfl dX11_use_25 ?_
    refine a_iload_n C dX11_use_28 (i := 1) rfl rfl ?_
    refine a_callVv C (i := 56) kd_56 (hid 56 (by decide)) ⟨_, _, rfl⟩ (by decide) (S_X0_takeUp_56 (x1 := x1) hid hG11) mi_X0_takeUp ml_RX11_214 rfl rfl (Nat.le_of_ble_eq_true rfl) (Nat.le_of_ble_eq_true rfl) (Nat.le_of_ble_eq_true rfl) dX11_use_29 (fun σ15 q16 => ?_)
    obtain ⟨hG17, ho18⟩ := q16
    refine s_iconst C dX11_use_32 (1) (by decide) (fun z20 h21 => ?_)
    exact a_iret Rt dX11_use_33 (nar_z (by omega)).1 (⟨hG17, (ony.tr (ony.tr ony.rf (ony.mono ho12 (mono_ring (by decide)))) (ony.mono ho18 (mono_l (by decide)))), (show 0 ≤ z20.toInt ∧ z20.toInt ≤ 1 by intros; omega)⟩)
  ·
    refine s_iconst C dX11_use_11 (0) (by decide) (fun z22 h23 => ?_)
    exact a_iret Rt dX11_use_12 (nar_z (by omega)).1 (⟨hG, ony.rf, (show 0 ≤ z22.toInt ∧ z22.toInt ≤ 1 by intros; omega)⟩)
set_option maxHeartbeats 4000000 in
set_option maxRecDepth 100000 in
theorem S_X11_set_0_t30 {l : Launch} {D : va_G} {ids : List Nat} {ad : Nat → Nat} {ca : Nat → ClassId} {σ : HS} {x1 : Int32} (hid : ∀ i, i < 277 → i ∈ ids) (hG : GIc σ) (htx0 : σ.2.2 0 = 30) (htx1 : σ.2.2 1 = 43) : Ki l D ids ad ca yX11_set cX11_set 2 .boolean 3 102 [.ref (ad 0), .int x1] σ (fun r σ1 => (GIc σ1) ∧ (ony ([12, 56] ++ ringN 160) σ σ1) ∧ (0 ≤ r.toInt ∧ r.toInt ≤ 1)) := by
  refine Ki.of (by decide) (Nat.le_of_ble_eq_true rfl) 0 (fun Γ C Rt => ?_)
  show AW ids ad ca Γ 0 [some (.ref (ad 0)), some (.int x1)] [] σ
  refine a_iload_n C dX11_set_0 (i := 1) rfl rfl ?_
  refine a_callSi C (S_X11_isHeight (x1 := x1) hid hG) ms_X11_isHeight ml_RX11_153 rfl rfl (Nat.le_of_ble_eq_true rfl) (Nat.le_of_ble_eq_true rfl) (Nat.le_of_ble_eq_true rfl) dX11_set_1 (fun z1 σ2 q3 => ?_)
  obtain ⟨w4, w5, w6⟩ := q3
  rw [w4]
  refine s_if_eq C dX11_set_4 (tgt := 18) rfl (fun c7 => ?_) (fun c7 => ?_)
  ·
    refine s_iconst C dX11_set_18 (0) (by decide) (fun z8 h9 => ?_)
    exact a_iret Rt dX11_set_19 (nar_z (by omega)).1 (⟨hG, ony.rf, (show 0 ≤ z8.toInt ∧ z8.toInt ≤ 1 by intros; omega)⟩)
  ·
    refine a_aload_n C dX11_set_7 (i := 0) rfl rfl ?_
    refine a_get C fl_RX11_54 (i := 0) kd_0 (hid 0 (by decide)) (v := .ref (ad 56)) rfl dX11_set_8 ?_
    refine a_get C fl_RX11_217 (i := 56) kd_56 (hid 56 (by decide)) (v := .int (σ.1 56 11)) rfl dX11_set_11 ?_
    refine a_iload_n C dX11_set_14 (i := 1) rfl rfl ?_
    refine s_ic_ne C dX11_set_15 (tgt := 20) rfl (fun c10 => ?_) (fun c10 => ?_)
    ·
      refine a_aload_n C dX11_set_20 (i := 0) rfl rfl ?_
      refine a_get C fl_RX11_26 (i := 0) kd_0 (hid 0 (by decide)) (v := .ref (ad 12)) rfl dX11_set_21 ?_
      refine a_aload_n C dX11_set_24 (i := 0) rfl rfl ?_
      refine a_get C fl_RX11_54 (i := 0) kd_0 (hid 0 (by decide)) (v := .ref (ad 56)) rfl dX11_set_25 ?_
      refine a_callVv C (i := 12) kd_12 (hid 12 (by decide)) ⟨_, _, rfl⟩ (by decide) (S_X5_keep_12_56 hid hG) mi_X5_keep ml_RX11_206 rfl rfl (Nat.le_of_ble_eq_true rfl) (Nat.le_of_ble_eq_true rfl) (Nat.le_of_ble_eq_true rfl) dX11_set_28 (fun σ12 q13 => ?_)
      obtain ⟨hG14, ho15⟩ := q13
      refine a_aload_n C dX11_set_31 (i := 0) rfl rfl ?_
      refine a_get C fl_RX11_54 (i := 0) kd_0 (hid 0 (by decide)) (v := .ref (ad 56)) rfl dX11_set_32 ?_
      refine a_iload_n C dX11_set_35 (i := 1) rfl rfl ?_
      refine a_put C fp_RX11_217 (i := 56) kd_56 (hid 56 (by decide)) rfl rfl dX11_set_36 ?_
      have hG17 := wF_56_11 (v := x1) hG14
      refine s_iconst C dX11_set_39 (1) (by decide) (fun z18 h19 => ?_)
      exact a_iret Rt dX11_set_40 (nar_z (by omega)).1 (⟨hG17, (ony.I (ony.tr ony.rf (ony.mono ho15 (mono_ring (by decide)))) (by decide)), (show 0 ≤ z18.toInt ∧ z18.toInt ≤ 1 by intros; omega)⟩)
    ·
      refine s_iconst C dX11_set_18 (0) (by decide) (fun z20 h21 => ?_)
      exact a_iret Rt dX11_set_19 (nar_z (by omega)).1 (⟨hG, ony.rf, (show 0 ≤ z20.toInt ∧ z20.toInt ≤ 1 by intros; omega)⟩)
set_option maxHeartbeats 4000000 in
set_option maxRecDepth 100000 in
theorem S_X11_beats_0_t30 {l : Launch} {D : va_G} {ids : List Nat} {ad : Nat → Nat} {ca : Nat → ClassId} {σ : HS} {x1 : Int32} (hid : ∀ i, i < 277 → i ∈ ids) (hG : GIc σ) (htx0 : σ.2.2 0 = 30) (htx1 : σ.2.2 1 = 43) : Ki l D ids ad ca yX11_beats cX11_beats 2 .int 6 149 [.ref (ad 0), .int x1] σ (fun r σ1 => (GIc σ1) ∧ (ony ([9, 10, 11, 12, 56, 57, 58, 59] ++ ringN 160) σ σ1)) := by
  refine Ki.of (by decide) (Nat.le_of_ble_eq_true rfl) 0 (fun Γ C Rt => ?_)
  show AW ids ad ca Γ 0 [some (.ref (ad 0)), some (.int x1)] [] σ
  have j50 : ∀ (σq50 : HS), GIc σq50 → ony ([9, 10, 11, 12, 56, 57, 58, 59] ++ ringN 160) σ σq50 → AW ids ad ca Γ 50 [some (.ref (ad 0)), none] [] σq50 := by
    intro σq50 hGq50 hoq50
    refine a_aload_n C dX11_beats_50 (i := 0) rfl rfl ?_
    refine a_get C fl_RX11_54 (i := 0) kd_0 (hid 0 (by decide)) (v := .ref (ad 56)) rfl dX11_beats_51 ?_
    refine a_get C fl_RX11_174 (i := 56) kd_56 (hid 56 (by decide)) (v := .int (σq50.1 56 4)) rfl dX11_beats_54 ?_
    exact a_iret Rt dX11_beats_57 rfl (⟨hGq50, hoq50⟩)
  refine a_iload_n C dX11_beats_0 (i := 1) rfl rfl ?_
  refine s_if_lt C dX11_beats_1 (tgt := 10) rfl (fun c1 => ?_) (fun c1 => ?_)
  ·
    refine s_iconst C dX11_beats_10 (-1) (by decide) (fun z2 h3 => ?_)
    exact a_iret Rt dX11_beats_11 rfl (⟨hG, ony.rf⟩)
  ·
    refine a_iload_n C dX11_beats_4 (i := 1) rfl rfl ?_
    refine s_bipush C dX11_beats_5 (60) (by decide) (fun z4 h5 => ?_)
    refine s_ic_le C dX11_beats_7 (tgt := 12) rfl (fun c6 => ?_) (fun c6 => ?_)
    ·
      refine a_iload_n C dX11_beats_12 (i := 1) rfl rfl ?_
      refine s_if_le C dX11_beats_13 (tgt := 50) rfl (fun c7 => ?_) (fun c7 => ?_)
      ·
        refine AW.sub (vs' := [some (.ref (ad 0)), none]) (lsub_of (by simp [lsubB])) ?_
        exact j50 _ hG ony.rf
      ·
        refine a_aload_n C dX11_beats_16 (i := 0) rfl rfl ?_
        refine a_get C fl_RX11_26 (i := 0) kd_0 (hid 0 (by decide)) (v := .ref (ad 12)) rfl dX11_beats_17 ?_
        refine a_aload_n C dX11_beats_20 (i := 0) rfl rfl ?_
        refine a_get C fl_RX11_54 (i := 0) kd_0 (hid 0 (by decide)) (v := .ref (ad 56)) rfl dX11_beats_21 ?_
        refine a_callVv C (i := 12) kd_12 (hid 12 (by decide)) ⟨_, _, rfl⟩ (by decide) (S_X5_keep_12_56 hid hG) mi_X5_keep ml_RX11_206 rfl rfl (Nat.le_of_ble_eq_true rfl) (Nat.le_of_ble_eq_true rfl) (Nat.le_of_ble_eq_true rfl) dX11_beats_24 (fun σ9 q10 => ?_)
        obtain ⟨hG11, ho12⟩ := q10
        refine a_aload_n C dX11_beats_27 (i := 0) rfl rfl ?_
        refine a_get C fl_RX11_19 (i := 0) kd_0 (hid 0 (by decide)) (v := .ref (ad 8)) rfl dX11_beats_28 ?_
        refine a_aload_n C dX11_beats_31 (i := 0) rfl rfl ?_
        refine a_get C fl_RX11_82 (i := 0) kd_0 (hid 0 (by decide)) (v := .ref (ad 30)) (congrArg (fun z => some (Value.ref (ad z))) ((congrFun ho12.2 0).trans htx0)) dX11_beats_32 ?_
        refine a_aload_n C dX11_beats_35 (i := 0) rfl rfl ?_
        refine a_get C fl_RX11_54 (i := 0) kd_0 (hid 0 (by decide)) (v := .ref (ad 56)) rfl dX11_beats_36 ?_
        refine a_iload_n C dX11_beats_39 (i := 1) rfl rfl ?_
        refine a_aload_n C dX11_beats_40 (i := 0) rfl rfl ?_
        refine a_get C fl_RX11_82 (i := 0) kd_0 (hid 0 (by decide)) (v := .ref (ad 30)) (congrArg (fun z => some (Value.ref (ad z))) ((congrFun ho12.2 0).trans htx0)) dX11_beats_41 ?_
        refine a_get C fl_RX11_220 (i := 30) kd_30 (hid 30 (by decide)) (v := .int (σ9.1 30 11)) rfl dX11_beats_44 ?_
        refine a_callVv C (i := 8) kd_8 (hid 8 (by decide)) ⟨_, _, rfl⟩ (by decide) (S_X4_goOn_8_30_56 (x3 := x1) (x4 := (σ9.1 30 11)) hid hG11 (by omega)) mi_X4_goOn ml_RX11_223 rfl rfl (Nat.le_of_ble_eq_true rfl) (Nat.le_of_ble_eq_true rfl) (Nat.le_of_ble_eq_true rfl) dX11_beats_47 (fun σ15 q16 => ?_)
        obtain ⟨hG17, ho18⟩ := q16
        refine AW.sub (vs' := [some (.ref (ad 0)), none]) (lsub_of (by simp [lsubB])) ?_
        exact j50 _ hG17 (ony.tr (ony.tr ony.rf (ony.mono ho12 (mono_ring (by decide)))) (ony.mono ho18 (mono_l (by decide))))
    ·
      refine s_iconst C dX11_beats_10 (-1) (by decide) (fun z20 h21 => ?_)
      exact a_iret Rt dX11_beats_11 rfl (⟨hG, ony.rf⟩)
set_option maxHeartbeats 4000000 in
set_option maxRecDepth 100000 in
theorem S_X11_undo_0_t30 {l : Launch} {D : va_G} {ids : List Nat} {ad : Nat → Nat} {ca : Nat → ClassId} {σ : HS} (hid : ∀ i, i < 277 → i ∈ ids) (hG : GIc σ) (htx0 : σ.2.2 0 = 30) (htx1 : σ.2.2 1 = 43) : Ki l D ids ad ca yX11_undo cX11_undo 1 .boolean 3 102 [.ref (ad 0)] σ (fun r σ1 => (GIc σ1) ∧ (ony [12, 56, 57, 58, 59] σ σ1) ∧ (0 ≤ r.toInt ∧ r.toInt ≤ 1)) := by
  refine Ki.of (by decide) (Nat.le_of_ble_eq_true rfl) 0 (fun Γ C Rt => ?_)
  show AW ids ad ca Γ 0 [some (.ref (ad 0))] [] σ
  refine a_aload_n C dX11_undo_0 (i := 0) rfl rfl ?_
  refine a_get C fl_RX11_26 (i := 0) kd_0 (hid 0 (by decide)) (v := .ref (ad 12)) rfl dX11_undo_1 ?_
  refine a_aload_n C dX11_undo_4 (i := 0) rfl rfl ?_
  refine a_get C fl_RX11_54 (i := 0) kd_0 (hid 0 (by decide)) (v := .ref (ad 56)) rfl dX11_undo_5 ?_
  refine a_callVi C (i := 12) kd_12 (hid 12 (by decide)) ⟨_, _, rfl⟩ (by decide) (S_X5_giveBack_12_56 hid hG) mi_X5_giveBack ml_RX11_226 rfl rfl (Nat.le_of_ble_eq_true rfl) (Nat.le_of_ble_eq_true rfl) (Nat.le_of_ble_eq_true rfl) dX11_undo_8 (fun z1 σ2 q3 => ?_)
  obtain ⟨hG4, ho5, w7⟩ := q3
  exact a_iret Rt dX11_undo_11 (nar_z (by omega)).1 (⟨hG4, (ony.tr ony.rf (ony.mono ho5 (by decide))), (show 0 ≤ z1.toInt ∧ z1.toInt ≤ 1 by intros; omega)⟩)
set_option maxHeartbeats 4000000 in
set_option maxRecDepth 100000 in
theorem S_X8_find_22 {l : Launch} {D : va_G} {ids : List Nat} {ad : Nat → Nat} {ca : Nat → ClassId} {σ : HS} {x1 : Int32} {x2 : Int32} {x3 : Int32} (hid : ∀ i, i < 277 → i ∈ ids) (hG : GIc σ) (hx1 : 1 ≤ x1.toInt ∧ x1.toInt ≤ 5) (hx2 : 1 ≤ x2.toInt ∧ x2.toInt ≤ 7) (hx3 : 0 ≤ x3.toInt ∧ x3.toInt ≤ 7) : Kv l D ids ad ca yX8_find cX8_find 4 8 230 [.ref (ad 22), .int x1, .int x2, .int x3] σ (fun σ1 => (GIc σ1) ∧ (ony [22, 23, 24] σ σ1)) := by
  obtain ⟨p, _, rfl, hp⟩ := i32_nat (x := x1) (by omega)
  obtain ⟨m, _, rfl, hm⟩ := i32_nat (x := x2) (by omega)
  obtain ⟨k, _, rfl, hk⟩ := i32_nat (x := x3) (by omega)
  have h1 : 1 ≤ p := by omega
  have h5 : p ≤ 5 := by omega
  have hm : m ≤ 7 := by omega
  have hk : k ≤ 7 := by omega
  refine Kv.of (by decide) (Nat.le_of_ble_eq_true rfl) 0 (fun Γ C Rt => ?_)
  show AW ids ad ca Γ 0 [some (.ref (ad 22)), some (.int (nI p)), some (.int (nI m)), some (.int (nI k))] [] σ
  have e1 : (if (5 : Int32) < nI p then (5 : Int32) else nI p) = nI p := if_neg (show ¬ nI 5 < nI p from nI_nlt (by omega) (by omega))
  have e2 : (if (1 : Int32) < nI p then nI p else (1 : Int32)) = nI p := by
    by_cases h : p = 1
    · subst h; rfl
    · exact if_pos (show nI 1 < nI p from nI_lt (by omega) (by omega))
  have hpk : p * k ≤ 35 := Nat.mul_le_mul h5 hk
  refine a_aload_n C dX8_find_0 (i := 0) rfl rfl ?_
  refine a_iconst C dX8_find_1 (v := 1) rfl ?_
  refine a_iload_n C dX8_find_2 (i := 1) rfl rfl ?_
  refine a_iconst C dX8_find_3 (v := 5) rfl ?_
  refine a_mmin C dX8_find_4 mm_RX8_16 mm_min.1 mm_min.2.1 mm_min.2.2 (Nat.le_of_ble_eq_true rfl) (Nat.le_of_ble_eq_true rfl) ?_
  refine a_topi e1 ?_
  refine a_mmax C dX8_find_7 mm_RX8_22 mm_max.1 mm_max.2.1 mm_max.2.2 (Nat.le_of_ble_eq_true rfl) (Nat.le_of_ble_eq_true rfl) ?_
  refine a_topi e2 ?_
  refine a_put C fp_RX8_25 (i := 22) kd_22 (hid 22 (by decide)) rfl rfl dX8_find_10 ?_
  refine a_aload_n C dX8_find_13 (i := 0) rfl rfl ?_
  refine a_iload_n C dX8_find_14 (i := 2) rfl rfl ?_
  refine a_put C fp_RX8_29 (i := 22) kd_22 (hid 22 (by decide)) rfl rfl dX8_find_15 ?_
  refine a_aload_n C dX8_find_18 (i := 0) rfl rfl ?_
  refine a_iconst C dX8_find_19 (v := 0) rfl ?_
  refine a_put C fp_RX8_32 (i := 22) kd_22 (hid 22 (by decide)) rfl rfl dX8_find_20 ?_
  refine a_aload_n C dX8_find_23 (i := 0) rfl rfl ?_
  refine a_iconst C dX8_find_24 (v := 0) rfl ?_
  refine a_topi nI_0.symm ?_
  refine a_iconst C dX8_find_25 (v := 0) rfl ?_
  refine a_topi nI_0.symm ?_
  refine a_aload_n C dX8_find_26 (i := 0) rfl rfl ?_
  refine a_get C fl_RX8_25 (i := 22) kd_22 (hid 22 (by decide)) (v := .int (nI p)) rfl dX8_find_27 ?_
  refine a_iload_n C dX8_find_30 (i := 3) rfl rfl ?_
  refine a_imul C dX8_find_31 ?_
  refine a_topi (pk_mul p k) ?_
  refine a_callVv C (i := 22) kd_22 (hid 22 (by decide)) ⟨_, _, rfl⟩ (by decide) (k_fillR hid h1 h5 hm p 0 0 (p * k) (hI (hI (hI σ 22 3 (nI p)) 22 4 (nI m)) 22 2 0) [] [] (by omega) (by omega) hpk rfl ⟨rfl, rfl⟩ ⟨rfl, fun r hr => by simp at hr⟩ (fun j hj => by simp at hj) (by have := rows_len (p := p) (m := m) (k := k) h1 h5 hm; simpa using this)) mi_X8_fill ml_RX8_35 rfl rfl (by omega) (by omega) (Nat.le_of_ble_eq_true rfl) dX8_find_32 (fun σ1 q1 => ?_)
  have ho := (only.I (only.I (only.I (L := [22, 23, 24]) only.rf (by decide)) (by decide)) (by decide)).tr q1.1
  exact a_vret Rt dX8_find_35 ⟨GIc.only3 hG ho, ho.ony⟩
set_option maxHeartbeats 4000000 in
set_option maxRecDepth 100000 in
theorem S_X11_ways_0_t30 {l : Launch} {D : va_G} {ids : List Nat} {ad : Nat → Nat} {ca : Nat → ClassId} {σ : HS} {x1 : Int32} {x2 : Int32} {x3 : Int32} {x4 : Int32} (hid : ∀ i, i < 277 → i ∈ ids) (hG : GIc σ) (htx0 : σ.2.2 0 = 30) (htx1 : σ.2.2 1 = 43) : Ki l D ids ad ca yX11_ways cX11_ways 5 .int 9 253 [.ref (ad 0), .int x1, .int x2, .int x3, .int x4] σ (fun r σ1 => (GIc σ1) ∧ (ony [22, 23, 24] σ σ1)) := by
  refine Ki.of (by decide) (Nat.le_of_ble_eq_true rfl) 0 (fun Γ C Rt => ?_)
  show AW ids ad ca Γ 0 [some (.ref (ad 0)), some (.int x1), some (.int x2), some (.int x3), some (.int x4)] [] σ
  refine a_iload_n C dX11_ways_0 (i := 1) rfl rfl ?_
  refine s_iconst C dX11_ways_1 (1) (by decide) (fun z1 h2 => ?_)
  refine s_ic_lt C dX11_ways_2 (tgt := 43) rfl (fun c3 => ?_) (fun c3 => ?_)
  ·
    refine s_iconst C dX11_ways_43 (-1) (by decide) (fun z4 h5 => ?_)
    exact a_iret Rt dX11_ways_44 rfl (⟨hG, ony.rf⟩)
  ·
    refine a_iload_n C dX11_ways_5 (i := 1) rfl rfl ?_
    refine s_iconst C dX11_ways_6 (5) (by decide) (fun z6 h7 => ?_)
    refine s_ic_gt C dX11_ways_7 (tgt := 43) rfl (fun c8 => ?_) (fun c8 => ?_)
    ·
      refine s_iconst C dX11_ways_43 (-1) (by decide) (fun z9 h10 => ?_)
      exact a_iret Rt dX11_ways_44 rfl (⟨hG, ony.rf⟩)
    ·
      refine a_iload_n C dX11_ways_10 (i := 2) rfl rfl ?_
      refine s_iconst C dX11_ways_11 (1) (by decide) (fun z11 h12 => ?_)
      refine s_ic_lt C dX11_ways_12 (tgt := 43) rfl (fun c13 => ?_) (fun c13 => ?_)
      ·
        refine s_iconst C dX11_ways_43 (-1) (by decide) (fun z14 h15 => ?_)
        exact a_iret Rt dX11_ways_44 rfl (⟨hG, ony.rf⟩)
      ·
        refine a_iload_n C dX11_ways_15 (i := 2) rfl rfl ?_
        refine s_bipush C dX11_ways_16 (7) (by decide) (fun z16 h17 => ?_)
        refine s_ic_gt C dX11_ways_18 (tgt := 43) rfl (fun c18 => ?_) (fun c18 => ?_)
        ·
          refine s_iconst C dX11_ways_43 (-1) (by decide) (fun z19 h20 => ?_)
          exact a_iret Rt dX11_ways_44 rfl (⟨hG, ony.rf⟩)
        ·
          refine a_iload_n C dX11_ways_21 (i := 3) rfl rfl ?_
          refine s_if_lt C dX11_ways_22 (tgt := 43) rfl (fun c21 => ?_) (fun c21 => ?_)
          ·
            refine s_iconst C dX11_ways_43 (-1) (by decide) (fun z22 h23 => ?_)
            exact a_iret Rt dX11_ways_44 rfl (⟨hG, ony.rf⟩)
          ·
            refine a_iload_n C dX11_ways_25 (i := 3) rfl rfl ?_
            refine s_bipush C dX11_ways_26 (7) (by decide) (fun z24 h25 => ?_)
            refine s_ic_gt C dX11_ways_28 (tgt := 43) rfl (fun c26 => ?_) (fun c26 => ?_)
            ·
              refine s_iconst C dX11_ways_43 (-1) (by decide) (fun z27 h28 => ?_)
              exact a_iret Rt dX11_ways_44 rfl (⟨hG, ony.rf⟩)
            ·
              refine a_iload C dX11_ways_31 rfl ?_
              refine s_iconst C dX11_ways_33 (-1) (by decide) (fun z29 h30 => ?_)
              refine s_ic_lt C dX11_ways_34 (tgt := 43) rfl (fun c31 => ?_) (fun c31 => ?_)
              ·
                refine s_iconst C dX11_ways_43 (-1) (by decide) (fun z32 h33 => ?_)
                exact a_iret Rt dX11_ways_44 rfl (⟨hG, ony.rf⟩)
              ·
                refine a_iload C dX11_ways_37 rfl ?_
                refine a_iload_n C dX11_ways_39 (i := 1) rfl rfl ?_
                refine s_ic_lt C dX11_ways_40 (tgt := 45) rfl (fun c34 => ?_) (fun c34 => ?_)
                ·
                  refine a_aload_n C dX11_ways_45 (i := 0) rfl rfl ?_
                  refine a_get C fl_RX11_47 (i := 0) kd_0 (hid 0 (by decide)) (v := .ref (ad 22)) rfl dX11_ways_46 ?_
                  refine a_iload_n C dX11_ways_49 (i := 1) rfl rfl ?_
                  refine a_iload_n C dX11_ways_50 (i := 2) rfl rfl ?_
                  refine a_iload_n C dX11_ways_51 (i := 3) rfl rfl ?_
                  refine a_callVv C (i := 22) kd_22 (hid 22 (by decide)) ⟨_, _, rfl⟩ (by decide) (S_X8_find_22 (x1 := x1) (x2 := x2) (x3 := x3) hid hG (by omega) (by omega) (by omega)) mi_X8_find ml_RX11_266 rfl rfl (Nat.le_of_ble_eq_true rfl) (Nat.le_of_ble_eq_true rfl) (Nat.le_of_ble_eq_true rfl) dX11_ways_52 (fun σ36 q37 => ?_)
                  obtain ⟨hG38, ho39⟩ := q37
                  refine a_iload C dX11_ways_55 rfl ?_
                  refine s_iconst C dX11_ways_57 (-1) (by decide) (fun z41 h42 => ?_)
                  refine s_ic_ne C dX11_ways_58 (tgt := 69) rfl (fun c43 => ?_) (fun c43 => ?_)
                  ·
                    refine a_aload_n C dX11_ways_69 (i := 0) rfl rfl ?_
                    refine a_get C fl_RX11_47 (i := 0) kd_0 (hid 0 (by decide)) (v := .ref (ad 22)) rfl dX11_ways_70 ?_
                    refine a_get C fl_RX11_270 (i := 22) kd_22 (hid 22 (by decide)) (v := .int (σ36.1 22 2)) rfl dX11_ways_73 ?_
                    refine s_if_ne C dX11_ways_76 (tgt := 84) rfl (fun c44 => ?_) (fun c44 => ?_)
                    ·
                      refine a_aload_n C dX11_ways_84 (i := 0) rfl rfl ?_
                      refine a_get C fl_RX11_47 (i := 0) kd_0 (hid 0 (by decide)) (v := .ref (ad 22)) rfl dX11_ways_85 ?_
                      refine a_get C fl_RX11_273 (i := 22) kd_22 (hid 22 (by decide)) (v := .ref (ad 24)) rfl dX11_ways_88 ?_
                      refine a_iload C dX11_ways_91 rfl ?_
                      refine s_iald C (i := 24) kd_24 (hid 24 (by decide)) al_24 (by omega) (by omega) dX11_ways_93 (fun n45 h46 => ?_)
                      refine s_val (fun z47 e48 => ?_)
                      exact a_iret Rt dX11_ways_94 rfl (⟨hG38, (ony.tr ony.rf (ony.mono ho39 (by decide)))⟩)
                    ·
                      refine s_bipush C dX11_ways_79 (-2) (by decide) (fun z49 h50 => ?_)
                      refine a_goto C dX11_ways_81 (tgt := 94) rfl ?_
                      exact a_iret Rt dX11_ways_94 rfl (⟨hG38, (ony.tr ony.rf (ony.mono ho39 (by decide)))⟩)
                  ·
                    refine a_aload_n C dX11_ways_61 (i := 0) rfl rfl ?_
                    refine a_get C fl_RX11_47 (i := 0) kd_0 (hid 0 (by decide)) (v := .ref (ad 22)) rfl dX11_ways_62 ?_
                    refine a_get C fl_RX11_270 (i := 22) kd_22 (hid 22 (by decide)) (v := .int (σ36.1 22 2)) rfl dX11_ways_65 ?_
                    exact a_iret Rt dX11_ways_68 rfl (⟨hG38, (ony.tr ony.rf (ony.mono ho39 (by decide)))⟩)
                ·
                  refine s_iconst C dX11_ways_43 (-1) (by decide) (fun z51 h52 => ?_)
                  exact a_iret Rt dX11_ways_44 rfl (⟨hG, ony.rf⟩)
set_option maxHeartbeats 4000000 in
set_option maxRecDepth 100000 in
theorem S_X11_hold_0_t43_v0 {l : Launch} {D : va_G} {ids : List Nat} {ad : Nat → Nat} {ca : Nat → ClassId} {σ : HS} {x1 : Int32} (hid : ∀ i, i < 277 → i ∈ ids) (hG : GIc σ) (htx0 : σ.2.2 0 = 43) (htx1 : σ.2.2 1 = 30) (hx1 : 0 ≤ x1.toInt ∧ x1.toInt ≤ 0) : Ki l D ids ad ca yX11_hold cX11_hold 2 .boolean 2 81 [.ref (ad 0), .int x1] σ (fun r σ1 => (GIc σ1) ∧ (ony [26, 64, 65, 66, 67] σ σ1) ∧ (0 ≤ r.toInt ∧ r.toInt ≤ 1)) := by
  refine Ki.of (by decide) (Nat.le_of_ble_eq_true rfl) 0 (fun Γ C Rt => ?_)
  show AW ids ad ca Γ 0 [some (.ref (ad 0)), some (.int x1)] [] σ
  refine a_iload_n C dX11_hold_0 (i := 1) rfl rfl ?_
  refine s_if_lt C dX11_hold_1 (tgt := 9) rfl (fun c1 => absurd c1 (by omega)) (fun c1 => ?_)
  refine a_iload_n C dX11_hold_4 (i := 1) rfl rfl ?_
  refine s_iconst C dX11_hold_5 (3) (by decide) (fun z2 h3 => ?_)
  refine s_ic_lt C dX11_hold_6 (tgt := 11) rfl (fun c4 => ?_) (fun c4 => absurd c4 (by omega))
  refine a_aload_n C dX11_hold_11 (i := 0) rfl rfl ?_
  refine a_get C fl_RX11_61 (i := 0) kd_0 (hid 0 (by decide)) (v := .ref (ad 25)) rfl dX11_hold_12 ?_
  refine a_iload_n C dX11_hold_15 (i := 1) rfl rfl ?_
  refine s_aaldc C (i := 25) (y := 64) 0 (by omega) (Or.inr kd_25) (hid 25 (by decide)) (by rw [al_25]; decide) (by rw [kd_25]; rfl) dX11_hold_16 ?_
  refine a_aload_n C dX11_hold_17 (i := 0) rfl rfl ?_
  refine a_get C fl_RX11_54 (i := 0) kd_0 (hid 0 (by decide)) (v := .ref (ad 56)) rfl dX11_hold_18 ?_
  refine a_callVv C (i := 64) (n0 := 0) kd_64 (hid 64 (by decide)) ⟨_, _, rfl⟩ (by decide) (S_copy 0 2 rfl rfl (by decide) (by decide) hid hG) mi_X0_copy ml_RX11_230 rfl rfl (Nat.le_of_ble_eq_true rfl) (Nat.le_of_ble_eq_true rfl) (Nat.le_of_ble_eq_true rfl) dX11_hold_21 (fun σ5 q6 => ?_)
  obtain ⟨hG7, ho8⟩ := q6
  refine a_aload_n C dX11_hold_24 (i := 0) rfl rfl ?_
  refine a_get C fl_RX11_65 (i := 0) kd_0 (hid 0 (by decide)) (v := .ref (ad 26)) rfl dX11_hold_25 ?_
  refine a_iload_n C dX11_hold_28 (i := 1) rfl rfl ?_
  refine s_iconst C dX11_hold_29 (1) (by decide) (fun z9 h10 => ?_)
  refine s_zast C (i := 26) (nar_v (by omega)) kd_26 (hid 26 (by decide)) al_26 (by omega) (by omega) dX11_hold_30 (fun n11 h12 => ?_)
  have hG13 := wA_26 (v := z9) (j := n11) hG7
  refine s_iconst C dX11_hold_31 (1) (by decide) (fun z14 h15 => ?_)
  exact a_iret Rt dX11_hold_32 (nar_z (by omega)).1 (⟨hG13, (ony.I (ony.tr ony.rf (ony.mono ho8 (by decide))) (by decide)), (show 0 ≤ z14.toInt ∧ z14.toInt ≤ 1 by intros; omega)⟩)
set_option maxHeartbeats 4000000 in
set_option maxRecDepth 100000 in
theorem S_X11_hold_0_t43_v1 {l : Launch} {D : va_G} {ids : List Nat} {ad : Nat → Nat} {ca : Nat → ClassId} {σ : HS} {x1 : Int32} (hid : ∀ i, i < 277 → i ∈ ids) (hG : GIc σ) (htx0 : σ.2.2 0 = 43) (htx1 : σ.2.2 1 = 30) (hx1 : 1 ≤ x1.toInt ∧ x1.toInt ≤ 1) : Ki l D ids ad ca yX11_hold cX11_hold 2 .boolean 2 81 [.ref (ad 0), .int x1] σ (fun r σ1 => (GIc σ1) ∧ (ony [26, 68, 69, 70, 71] σ σ1) ∧ (0 ≤ r.toInt ∧ r.toInt ≤ 1)) := by
  refine Ki.of (by decide) (Nat.le_of_ble_eq_true rfl) 0 (fun Γ C Rt => ?_)
  show AW ids ad ca Γ 0 [some (.ref (ad 0)), some (.int x1)] [] σ
  refine a_iload_n C dX11_hold_0 (i := 1) rfl rfl ?_
  refine s_if_lt C dX11_hold_1 (tgt := 9) rfl (fun c1 => absurd c1 (by omega)) (fun c1 => ?_)
  refine a_iload_n C dX11_hold_4 (i := 1) rfl rfl ?_
  refine s_iconst C dX11_hold_5 (3) (by decide) (fun z2 h3 => ?_)
  refine s_ic_lt C dX11_hold_6 (tgt := 11) rfl (fun c4 => ?_) (fun c4 => absurd c4 (by omega))
  refine a_aload_n C dX11_hold_11 (i := 0) rfl rfl ?_
  refine a_get C fl_RX11_61 (i := 0) kd_0 (hid 0 (by decide)) (v := .ref (ad 25)) rfl dX11_hold_12 ?_
  refine a_iload_n C dX11_hold_15 (i := 1) rfl rfl ?_
  refine s_aaldc C (i := 25) (y := 68) 1 (by omega) (Or.inr kd_25) (hid 25 (by decide)) (by rw [al_25]; decide) (by rw [kd_25]; rfl) dX11_hold_16 ?_
  refine a_aload_n C dX11_hold_17 (i := 0) rfl rfl ?_
  refine a_get C fl_RX11_54 (i := 0) kd_0 (hid 0 (by decide)) (v := .ref (ad 56)) rfl dX11_hold_18 ?_
  refine a_callVv C (i := 68) (n0 := 0) kd_68 (hid 68 (by decide)) ⟨_, _, rfl⟩ (by decide) (S_copy 0 3 rfl rfl (by decide) (by decide) hid hG) mi_X0_copy ml_RX11_230 rfl rfl (Nat.le_of_ble_eq_true rfl) (Nat.le_of_ble_eq_true rfl) (Nat.le_of_ble_eq_true rfl) dX11_hold_21 (fun σ5 q6 => ?_)
  obtain ⟨hG7, ho8⟩ := q6
  refine a_aload_n C dX11_hold_24 (i := 0) rfl rfl ?_
  refine a_get C fl_RX11_65 (i := 0) kd_0 (hid 0 (by decide)) (v := .ref (ad 26)) rfl dX11_hold_25 ?_
  refine a_iload_n C dX11_hold_28 (i := 1) rfl rfl ?_
  refine s_iconst C dX11_hold_29 (1) (by decide) (fun z9 h10 => ?_)
  refine s_zast C (i := 26) (nar_v (by omega)) kd_26 (hid 26 (by decide)) al_26 (by omega) (by omega) dX11_hold_30 (fun n11 h12 => ?_)
  have hG13 := wA_26 (v := z9) (j := n11) hG7
  refine s_iconst C dX11_hold_31 (1) (by decide) (fun z14 h15 => ?_)
  exact a_iret Rt dX11_hold_32 (nar_z (by omega)).1 (⟨hG13, (ony.I (ony.tr ony.rf (ony.mono ho8 (by decide))) (by decide)), (show 0 ≤ z14.toInt ∧ z14.toInt ≤ 1 by intros; omega)⟩)
