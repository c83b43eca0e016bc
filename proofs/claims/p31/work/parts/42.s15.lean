theorem dX11_closingOf_0 : decode cX11_closingOf 0 = .ok (.aload_n 0, 1) := by decide +kernel
theorem dX11_closingOf_1 : decode cX11_closingOf 1 = .ok (.iload_n 1, 1) := by decide +kernel
theorem dX11_closingOf_2 : decode cX11_closingOf 2 = .ok (.invokestatic 243, 3) := by decide +kernel
theorem dX11_closingOf_5 : decode cX11_closingOf 5 = .ok (.istore_n 3, 1) := by decide +kernel
theorem dX11_closingOf_6 : decode cX11_closingOf 6 = .ok (.iload_n 2, 1) := by decide +kernel
theorem dX11_closingOf_7 : decode cX11_closingOf 7 = .ok (.ifCond .ne 13, 3) := by decide +kernel
theorem dX11_closingOf_10 : decode cX11_closingOf 10 = .ok (.iload_n 3, 1) := by decide +kernel
theorem dX11_closingOf_11 : decode cX11_closingOf 11 = .ok (.ifCond .eq 7, 3) := by decide +kernel
theorem dX11_closingOf_14 : decode cX11_closingOf 14 = .ok (.iconst 1, 1) := by decide +kernel
theorem dX11_closingOf_15 : decode cX11_closingOf 15 = .ok (.goto 4, 3) := by decide +kernel
theorem dX11_closingOf_18 : decode cX11_closingOf 18 = .ok (.iconst 0, 1) := by decide +kernel
theorem dX11_closingOf_19 : decode cX11_closingOf 19 = .ok (.ireturn, 1) := by decide +kernel
theorem dX11_closingOf_20 : decode cX11_closingOf 20 = .ok (.iload_n 3, 1) := by decide +kernel
theorem dX11_closingOf_21 : decode cX11_closingOf 21 = .ok (.ifCond .eq 11, 3) := by decide +kernel
theorem dX11_closingOf_24 : decode cX11_closingOf 24 = .ok (.aload_n 0, 1) := by decide +kernel
theorem dX11_closingOf_25 : decode cX11_closingOf 25 = .ok (.iload_n 1, 1) := by decide +kernel
theorem dX11_closingOf_26 : decode cX11_closingOf 26 = .ok (.invokestatic 249, 3) := by decide +kernel
theorem dX11_closingOf_29 : decode cX11_closingOf 29 = .ok (.goto 5, 3) := by decide +kernel
theorem dX11_closingOf_32 : decode cX11_closingOf 32 = .ok (.bipush (-2), 2) := by decide +kernel
theorem dX11_closingOf_34 : decode cX11_closingOf 34 = .ok (.ireturn, 1) := by decide +kernel
set_option maxHeartbeats 4000000 in
set_option maxRecDepth 100000 in
theorem S_X11_closingOf_H8 {l : Launch} {D : va_G} {ids : List Nat} {ad : Nat → Nat} {ca : Nat → ClassId} {σ : HS} {x2 : Int32} {x3 : Int32} {ar1 : Nat} (hid : ∀ i, i < 277 → i ∈ ids) (hG : GIc σ) (hx2 : 0 ≤ x2.toInt ∧ x2.toInt ≤ 8) (hk1 : kd ar1 = 20) (hm1 : ar1 ∈ ids) (hn1 : al ar1 = 8) (hb1 : ∀ j : Nat, 0 ≤ (σ.1 ar1 j).toInt ∧ (σ.1 ar1 j).toInt ≤ 9999) : Ki l D ids ad ca yX11_closingOf cX11_closingOf 4 .int 1 24 [.ref (ad ar1), .int x2, .int x3] σ (fun r σ1 => (σ1 = σ)) := by
  refine Ki.of (by decide) (Nat.le_of_ble_eq_true rfl) 1 (fun Γ C Rt => ?_)
  show AW ids ad ca Γ 0 [some (.ref (ad ar1)), some (.int x2), some (.int x3), none] [] σ
  refine a_aload_n C dX11_closingOf_0 (i := 0) rfl rfl ?_
  refine a_iload_n C dX11_closingOf_1 (i := 1) rfl rfl ?_
  refine a_callSi C (S_X3_close_H8 (x2 := x2) (ar1 := ar1) hid hG (by omega) hk1 hm1 hn1 hb1) ms_X3_close ml_RX11_243 rfl rfl (Nat.le_of_ble_eq_true rfl) (Nat.le_of_ble_eq_true rfl) (Nat.le_of_ble_eq_true rfl) dX11_closingOf_2 (fun z1 σ2 q3 => ?_)
  obtain ⟨w4, w5⟩ := q3
  rw [w4]
  refine a_istore_n C dX11_closingOf_5 (i := 3) rfl (by decide) rfl (vs1 := [some (.ref (ad ar1)), some (.int x2), some (.int x3), some (.int z1)]) rfl ?_
  refine a_iload_n C dX11_closingOf_6 (i := 2) rfl rfl ?_
  refine s_if_ne C dX11_closingOf_7 (tgt := 20) rfl (fun c6 => ?_) (fun c6 => ?_)
  ·
    refine a_iload_n C dX11_closingOf_20 (i := 3) rfl rfl ?_
    refine s_if_eq C dX11_closingOf_21 (tgt := 32) rfl (fun c7 => ?_) (fun c7 => ?_)
    ·
      refine s_bipush C dX11_closingOf_32 (-2) (by decide) (fun z8 h9 => ?_)
      exact a_iret Rt dX11_closingOf_34 rfl (rfl)
    ·
      refine a_aload_n C dX11_closingOf_24 (i := 0) rfl rfl ?_
      refine a_iload_n C dX11_closingOf_25 (i := 1) rfl rfl ?_
      refine a_callSi C (S_X3_kept_H8 (x2 := x2) (ar1 := ar1) hid hG (by omega) hk1 hm1 hn1 hb1) ms_X3_kept ml_RX11_249 rfl rfl (Nat.le_of_ble_eq_true rfl) (Nat.le_of_ble_eq_true rfl) (Nat.le_of_ble_eq_true rfl) dX11_closingOf_26 (fun z10 σ11 q12 => ?_)
      rw [q12]
      refine a_goto C dX11_closingOf_29 (tgt := 34) rfl ?_
      exact a_iret Rt dX11_closingOf_34 rfl (rfl)
  ·
    refine a_iload_n C dX11_closingOf_10 (i := 3) rfl rfl ?_
    refine s_if_eq C dX11_closingOf_11 (tgt := 18) rfl (fun c13 => ?_) (fun c13 => ?_)
    ·
      refine s_iconst C dX11_closingOf_18 (0) (by decide) (fun z14 h15 => ?_)
      exact a_iret Rt dX11_closingOf_19 rfl (rfl)
    ·
      refine s_iconst C dX11_closingOf_14 (1) (by decide) (fun z16 h17 => ?_)
      refine a_goto C dX11_closingOf_15 (tgt := 19) rfl ?_
      exact a_iret Rt dX11_closingOf_19 rfl (rfl)
theorem dX11_closes_11 : decode cX11_closes 11 = .ok (.iload_n 2, 1) := by decide +kernel
theorem dX11_closes_12 : decode cX11_closes 12 = .ok (.ifCond .lt 8, 3) := by decide +kernel
theorem dX11_closes_15 : decode cX11_closes 15 = .ok (.iload_n 2, 1) := by decide +kernel
theorem dX11_closes_16 : decode cX11_closes 16 = .ok (.iconst 1, 1) := by decide +kernel
theorem dX11_closes_17 : decode cX11_closes 17 = .ok (.if_icmp .le 5, 3) := by decide +kernel
theorem dX11_closes_22 : decode cX11_closes 22 = .ok (.aload_n 0, 1) := by decide +kernel
theorem dX11_closes_23 : decode cX11_closes 23 = .ok (.getfield 82, 3) := by decide +kernel
theorem dX11_closes_26 : decode cX11_closes 26 = .ok (.getfield 149, 3) := by decide +kernel
theorem dX11_closes_29 : decode cX11_closes 29 = .ok (.iload_n 1, 1) := by decide +kernel
theorem dX11_closes_30 : decode cX11_closes 30 = .ok (.aaload, 1) := by decide +kernel
theorem dX11_closes_31 : decode cX11_closes 31 = .ok (.aload_n 0, 1) := by decide +kernel
theorem dX11_closes_32 : decode cX11_closes 32 = .ok (.getfield 82, 3) := by decide +kernel
theorem dX11_closes_35 : decode cX11_closes 35 = .ok (.getfield 146, 3) := by decide +kernel
theorem dX11_closes_38 : decode cX11_closes 38 = .ok (.iload_n 1, 1) := by decide +kernel
theorem dX11_closes_39 : decode cX11_closes 39 = .ok (.iaload, 1) := by decide +kernel
theorem dX11_closes_40 : decode cX11_closes 40 = .ok (.iload_n 2, 1) := by decide +kernel
theorem dX11_closes_41 : decode cX11_closes 41 = .ok (.invokestatic 233, 3) := by decide +kernel
theorem dX11_closes_44 : decode cX11_closes 44 = .ok (.ireturn, 1) := by decide +kernel
set_option maxHeartbeats 4000000 in
set_option maxRecDepth 100000 in
theorem S_X11_closes_0_t30 {l : Launch} {D : va_G} {ids : List Nat} {ad : Nat → Nat} {ca : Nat → ClassId} {σ : HS} {x1 : Int32} {x2 : Int32} (hid : ∀ i, i < 277 → i ∈ ids) (hG : GIc σ) (htx0 : σ.2.2 0 = 30) (htx1 : σ.2.2 1 = 43) : Ki l D ids ad ca yX11_closes cX11_closes 3 .int 2 47 [.ref (ad 0), .int x1, .int x2] σ (fun r σ1 => (σ1 = σ)) := by
  refine Ki.of (by decide) (Nat.le_of_ble_eq_true rfl) 0 (fun Γ C Rt => ?_)
  show AW ids ad ca Γ 0 [some (.ref (ad 0)), some (.int x1), some (.int x2)] [] σ
  refine a_aload_n C dX11_closes_0 (i := 0) rfl rfl ?_
  refine a_get C fl_RX11_82 (i := 0) kd_0 (hid 0 (by decide)) (v := .ref (ad 30)) (congrArg (fun z => some (Value.ref (ad z))) htx0) dX11_closes_1 ?_
  refine a_iload_n C dX11_closes_4 (i := 1) rfl rfl ?_
  refine a_callVi C (i := 30) kd_30 (hid 30 (by decide)) ⟨_, _, rfl⟩ (by decide) (S_X10_hasPattern_30 (x1 := x1) hid hG) mi_X10_hasPattern ml_RX11_143 rfl rfl (Nat.le_of_ble_eq_true rfl) (Nat.le_of_ble_eq_true rfl) (Nat.le_of_ble_eq_true rfl) dX11_closes_5 (fun z1 σ2 q3 => ?_)
  obtain ⟨w4, w5, w6⟩ := q3
  rw [w4]
  refine s_if_eq C dX11_closes_8 (tgt := 20) rfl (fun c7 => ?_) (fun c7 => ?_)
  ·
    refine s_iconst C dX11_closes_20 (-1) (by decide) (fun z8 h9 => ?_)
    exact a_iret Rt dX11_closes_21 rfl (rfl)
  ·
    refine a_iload_n C dX11_closes_11 (i := 2) rfl rfl ?_
    refine s_if_lt C dX11_closes_12 (tgt := 20) rfl (fun c10 => ?_) (fun c10 => ?_)
    ·
      refine s_iconst C dX11_closes_20 (-1) (by decide) (fun z11 h12 => ?_)
      exact a_iret Rt dX11_closes_21 rfl (rfl)
    ·
      refine a_iload_n C dX11_closes_15 (i := 2) rfl rfl ?_
      refine s_iconst C dX11_closes_16 (1) (by decide) (fun z13 h14 => ?_)
      refine s_ic_le C dX11_closes_17 (tgt := 22) rfl (fun c15 => ?_) (fun c15 => ?_)
      ·
        refine a_aload_n C dX11_closes_22 (i := 0) rfl rfl ?_
        refine a_get C fl_RX11_82 (i := 0) kd_0 (hid 0 (by decide)) (v := .ref (ad 30)) (congrArg (fun z => some (Value.ref (ad z))) htx0) dX11_closes_23 ?_
        refine a_get C fl_RX11_149 (i := 30) kd_30 (hid 30 (by decide)) (v := .ref (ad 34)) rfl dX11_closes_26 ?_
        refine a_iload_n C dX11_closes_29 (i := 1) rfl rfl ?_
        refine s_aaldH C (i := 34) kd_34 (hid 34 (by decide)) al_34 (by omega) (by omega) dX11_closes_30 (fun n16 h17 h18 => ?_)
        refine a_aload_n C dX11_closes_31 (i := 0) rfl rfl ?_
        refine a_get C fl_RX11_82 (i := 0) kd_0 (hid 0 (by decide)) (v := .ref (ad 30)) (congrArg (fun z => some (Value.ref (ad z))) htx0) dX11_closes_32 ?_
        refine a_get C fl_RX11_146 (i := 30) kd_30 (hid 30 (by decide)) (v := .ref (ad 40)) rfl dX11_closes_35 ?_
        refine a_iload_n C dX11_closes_38 (i := 1) rfl rfl ?_
        refine s_iald C (i := 40) kd_40 (hid 40 (by decide)) al_40 (by omega) (by omega) dX11_closes_39 (fun n19 h20 => ?_)
        refine s_val (fun z21 e22 => ?_)
        have g23 := bA_40 hG n19
        rw [e22] at g23
        refine a_iload_n C dX11_closes_40 (i := 2) rfl rfl ?_
        refine a_callSi C (S_X11_closingOf_H8 (x2 := z21) (x3 := x2) (ar1 := (34 + 1 + n16)) hid hG (by omega) (kdH_34 n16 h18).1 (hid _ (kdH_34 n16 h18).2.2) (kdH_34 n16 h18).2.1 (bH_34 hG h18)) ms_X11_closingOf ml_RX11_233 rfl rfl (Nat.le_of_ble_eq_true rfl) (Nat.le_of_ble_eq_true rfl) (Nat.le_of_ble_eq_true rfl) dX11_closes_41 (fun z24 σ25 q26 => ?_)
        rw [q26]
        exact a_iret Rt dX11_closes_44 rfl (rfl)
      ·
        refine s_iconst C dX11_closes_20 (-1) (by decide) (fun z27 h28 => ?_)
        exact a_iret Rt dX11_closes_21 rfl (rfl)
set_option maxHeartbeats 4000000 in
set_option maxRecDepth 100000 in
theorem S_X11_closingOf_29 {l : Launch} {D : va_G} {ids : List Nat} {ad : Nat → Nat} {ca : Nat → ClassId} {σ : HS} {x2 : Int32} {x3 : Int32} (hid : ∀ i, i < 277 → i ∈ ids) (hG : GIc σ) (hx2 : 0 ≤ x2.toInt ∧ x2.toInt ≤ 16) : Ki l D ids ad ca yX11_closingOf cX11_closingOf 4 .int 1 24 [.ref (ad 29), .int x2, .int x3] σ (fun r σ1 => (σ1 = σ)) := by
  refine Ki.of (by decide) (Nat.le_of_ble_eq_true rfl) 1 (fun Γ C Rt => ?_)
  show AW ids ad ca Γ 0 [some (.ref (ad 29)), some (.int x2), some (.int x3), none] [] σ
  refine a_aload_n C dX11_closingOf_0 (i := 0) rfl rfl ?_
  refine a_iload_n C dX11_closingOf_1 (i := 1) rfl rfl ?_
  refine a_callSi C (S_X3_close_29 (x2 := x2) hid hG (by omega)) ms_X3_close ml_RX11_243 rfl rfl (Nat.le_of_ble_eq_true rfl) (Nat.le_of_ble_eq_true rfl) (Nat.le_of_ble_eq_true rfl) dX11_closingOf_2 (fun z1 σ2 q3 => ?_)
  obtain ⟨w4, w5⟩ := q3
  rw [w4]
  refine a_istore_n C dX11_closingOf_5 (i := 3) rfl (by decide) rfl (vs1 := [some (.ref (ad 29)), some (.int x2), some (.int x3), some (.int z1)]) rfl ?_
  refine a_iload_n C dX11_closingOf_6 (i := 2) rfl rfl ?_
  refine s_if_ne C dX11_closingOf_7 (tgt := 20) rfl (fun c6 => ?_) (fun c6 => ?_)
  ·
    refine a_iload_n C dX11_closingOf_20 (i := 3) rfl rfl ?_
    refine s_if_eq C dX11_closingOf_21 (tgt := 32) rfl (fun c7 => ?_) (fun c7 => ?_)
    ·
      refine s_bipush C dX11_closingOf_32 (-2) (by decide) (fun z8 h9 => ?_)
      exact a_iret Rt dX11_closingOf_34 rfl (rfl)
    ·
      refine a_aload_n C dX11_closingOf_24 (i := 0) rfl rfl ?_
      refine a_iload_n C dX11_closingOf_25 (i := 1) rfl rfl ?_
      refine a_callSi C (S_X3_kept_29 (x2 := x2) hid hG (by omega)) ms_X3_kept ml_RX11_249 rfl rfl (Nat.le_of_ble_eq_true rfl) (Nat.le_of_ble_eq_true rfl) (Nat.le_of_ble_eq_true rfl) dX11_closingOf_26 (fun z10 σ11 q12 => ?_)
      rw [q12]
      refine a_goto C dX11_closingOf_29 (tgt := 34) rfl ?_
      exact a_iret Rt dX11_closingOf_34 rfl (rfl)
  ·
    refine a_iload_n C dX11_closingOf_10 (i := 3) rfl rfl ?_
    refine s_if_eq C dX11_closingOf_11 (tgt := 18) rfl (fun c13 => ?_) (fun c13 => ?_)
    ·
      refine s_iconst C dX11_closingOf_18 (0) (by decide) (fun z14 h15 => ?_)
      exact a_iret Rt dX11_closingOf_19 rfl (rfl)
    ·
      refine s_iconst C dX11_closingOf_14 (1) (by decide) (fun z16 h17 => ?_)
      refine a_goto C dX11_closingOf_15 (tgt := 19) rfl ?_
      exact a_iret Rt dX11_closingOf_19 rfl (rfl)
theorem dX11_joined_11 : decode cX11_joined 11 = .ok (.aload_n 0, 1) := by decide +kernel
theorem dX11_joined_12 : decode cX11_joined 12 = .ok (.getfield 82, 3) := by decide +kernel
theorem dX11_joined_15 : decode cX11_joined 15 = .ok (.iload_n 2, 1) := by decide +kernel
theorem dX11_joined_16 : decode cX11_joined 16 = .ok (.invokevirtual 143, 3) := by decide +kernel
theorem dX11_joined_19 : decode cX11_joined 19 = .ok (.ifCond .eq 12, 3) := by decide +kernel
theorem dX11_joined_22 : decode cX11_joined 22 = .ok (.iload_n 3, 1) := by decide +kernel
theorem dX11_joined_23 : decode cX11_joined 23 = .ok (.ifCond .lt 8, 3) := by decide +kernel
theorem dX11_joined_26 : decode cX11_joined 26 = .ok (.iload_n 3, 1) := by decide +kernel
theorem dX11_joined_27 : decode cX11_joined 27 = .ok (.iconst 1, 1) := by decide +kernel
theorem dX11_joined_28 : decode cX11_joined 28 = .ok (.if_icmp .le 5, 3) := by decide +kernel
theorem dX11_joined_33 : decode cX11_joined 33 = .ok (.aload_n 0, 1) := by decide +kernel
theorem dX11_joined_34 : decode cX11_joined 34 = .ok (.getfield 82, 3) := by decide +kernel
theorem dX11_joined_37 : decode cX11_joined 37 = .ok (.getfield 146, 3) := by decide +kernel
theorem dX11_joined_40 : decode cX11_joined 40 = .ok (.iload_n 1, 1) := by decide +kernel
theorem dX11_joined_41 : decode cX11_joined 41 = .ok (.iaload, 1) := by decide +kernel
theorem dX11_joined_42 : decode cX11_joined 42 = .ok (.istore 4, 2) := by decide +kernel
theorem dX11_joined_44 : decode cX11_joined 44 = .ok (.aload_n 0, 1) := by decide +kernel
theorem dX11_joined_45 : decode cX11_joined 45 = .ok (.getfield 82, 3) := by decide +kernel
theorem dX11_joined_48 : decode cX11_joined 48 = .ok (.getfield 149, 3) := by decide +kernel
theorem dX11_joined_51 : decode cX11_joined 51 = .ok (.iload_n 1, 1) := by decide +kernel
theorem dX11_joined_52 : decode cX11_joined 52 = .ok (.aaload, 1) := by decide +kernel
theorem dX11_joined_53 : decode cX11_joined 53 = .ok (.iconst 0, 1) := by decide +kernel
theorem dX11_joined_54 : decode cX11_joined 54 = .ok (.aload_n 0, 1) := by decide +kernel
theorem dX11_joined_55 : decode cX11_joined 55 = .ok (.getfield 76, 3) := by decide +kernel
theorem dX11_joined_58 : decode cX11_joined 58 = .ok (.iconst 0, 1) := by decide +kernel
theorem dX11_joined_59 : decode cX11_joined 59 = .ok (.iload 4, 2) := by decide +kernel
theorem dX11_joined_61 : decode cX11_joined 61 = .ok (.invokestatic 237, 3) := by decide +kernel
theorem dX11_joined_64 : decode cX11_joined 64 = .ok (.aload_n 0, 1) := by decide +kernel
theorem dX11_joined_65 : decode cX11_joined 65 = .ok (.getfield 82, 3) := by decide +kernel
theorem dX11_joined_68 : decode cX11_joined 68 = .ok (.getfield 149, 3) := by decide +kernel
theorem dX11_joined_71 : decode cX11_joined 71 = .ok (.iload_n 2, 1) := by decide +kernel
theorem dX11_joined_72 : decode cX11_joined 72 = .ok (.aaload, 1) := by decide +kernel
theorem dX11_joined_73 : decode cX11_joined 73 = .ok (.iconst 0, 1) := by decide +kernel
theorem dX11_joined_74 : decode cX11_joined 74 = .ok (.aload_n 0, 1) := by decide +kernel
theorem dX11_joined_75 : decode cX11_joined 75 = .ok (.getfield 76, 3) := by decide +kernel
theorem dX11_joined_78 : decode cX11_joined 78 = .ok (.iload 4, 2) := by decide +kernel
theorem dX11_joined_80 : decode cX11_joined 80 = .ok (.aload_n 0, 1) := by decide +kernel
theorem dX11_joined_81 : decode cX11_joined 81 = .ok (.getfield 82, 3) := by decide +kernel
theorem dX11_joined_84 : decode cX11_joined 84 = .ok (.getfield 146, 3) := by decide +kernel
theorem dX11_joined_87 : decode cX11_joined 87 = .ok (.iload_n 2, 1) := by decide +kernel
theorem dX11_joined_88 : decode cX11_joined 88 = .ok (.iaload, 1) := by decide +kernel
theorem dX11_joined_89 : decode cX11_joined 89 = .ok (.invokestatic 237, 3) := by decide +kernel
theorem dX11_joined_92 : decode cX11_joined 92 = .ok (.aload_n 0, 1) := by decide +kernel
theorem dX11_joined_93 : decode cX11_joined 93 = .ok (.getfield 76, 3) := by decide +kernel
theorem dX11_joined_96 : decode cX11_joined 96 = .ok (.iload 4, 2) := by decide +kernel
theorem dX11_joined_98 : decode cX11_joined 98 = .ok (.aload_n 0, 1) := by decide +kernel
theorem dX11_joined_99 : decode cX11_joined 99 = .ok (.getfield 82, 3) := by decide +kernel
theorem dX11_joined_102 : decode cX11_joined 102 = .ok (.getfield 146, 3) := by decide +kernel
theorem dX11_joined_105 : decode cX11_joined 105 = .ok (.iload_n 2, 1) := by decide +kernel
theorem dX11_joined_106 : decode cX11_joined 106 = .ok (.iaload, 1) := by decide +kernel
theorem dX11_joined_107 : decode cX11_joined 107 = .ok (.iadd, 1) := by decide +kernel
theorem dX11_joined_108 : decode cX11_joined 108 = .ok (.iload_n 3, 1) := by decide +kernel
theorem dX11_joined_109 : decode cX11_joined 109 = .ok (.invokestatic 233, 3) := by decide +kernel
theorem dX11_joined_112 : decode cX11_joined 112 = .ok (.ireturn, 1) := by decide +kernel
set_option maxHeartbeats 4000000 in
set_option maxRecDepth 100000 in
theorem S_X11_joined_0_t30 {l : Launch} {D : va_G} {ids : List Nat} {ad : Nat → Nat} {ca : Nat → ClassId} {σ : HS} {x1 : Int32} {x2 : Int32} {x3 : Int32} (hid : ∀ i, i < 277 → i ∈ ids) (hG : GIc σ) (htx0 : σ.2.2 0 = 30) (htx1 : σ.2.2 1 = 43) : Ki l D ids ad ca yX11_joined cX11_joined 5 .int 2 60 [.ref (ad 0), .int x1, .int x2, .int x3] σ (fun r σ1 => (GIc σ1) ∧ (ony [29] σ σ1)) := by
  refine Ki.of (by decide) (Nat.le_of_ble_eq_true rfl) 1 (fun Γ C Rt => ?_)
  show AW ids ad ca Γ 0 [some (.ref (ad 0)), some (.int x1), some (.int x2), some (.int x3), none] [] σ
  refine a_aload_n C dX11_joined_0 (i := 0) rfl rfl ?_
  refine a_get C fl_RX11_82 (i := 0) kd_0 (hid 0 (by decide)) (v := .ref (ad 30)) (congrArg (fun z => some (Value.ref (ad z))) htx0) dX11_joined_1 ?_
  refine a_iload_n C dX11_joined_4 (i := 1) rfl rfl ?_
  refine a_callVi C (i := 30) kd_30 (hid 30 (by decide)) ⟨_, _, rfl⟩ (by decide) (S_X10_hasPattern_30 (x1 := x1) hid hG) mi_X10_hasPattern ml_RX11_143 rfl rfl (Nat.le_of_ble_eq_true rfl) (Nat.le_of_ble_eq_true rfl) (Nat.le_of_ble_eq_true rfl) dX11_joined_5 (fun z1 σ2 q3 => ?_)
  obtain ⟨w4, w5, w6⟩ := q3
  rw [w4]
  refine s_if_eq C dX11_joined_8 (tgt := 31) rfl (fun c7 => ?_) (fun c7 => ?_)
  ·
    refine s_iconst C dX11_joined_31 (-1) (by decide) (fun z8 h9 => ?_)
    exact a_iret Rt dX11_joined_32 rfl (⟨hG, ony.rf⟩)
  ·
    refine a_aload_n C dX11_joined_11 (i := 0) rfl rfl ?_
    refine a_get C fl_RX11_82 (i := 0) kd_0 (hid 0 (by decide)) (v := .ref (ad 30)) (congrArg (fun z => some (Value.ref (ad z))) htx0) dX11_joined_12 ?_
    refine a_iload_n C dX11_joined_15 (i := 2) rfl rfl ?_
    refine a_callVi C (i := 30) kd_30 (hid 30 (by decide)) ⟨_, _, rfl⟩ (by decide) (S_X10_hasPattern_30 (x1 := x2) hid hG) mi_X10_hasPattern ml_RX11_143 rfl rfl (Nat.le_of_ble_eq_true rfl) (Nat.le_of_ble_eq_true rfl) (Nat.le_of_ble_eq_true rfl) dX11_joined_16 (fun z10 σ11 q12 => ?_)
    obtain ⟨w13, w14, w15⟩ := q12
    rw [w13]
    refine s_if_eq C dX11_joined_19 (tgt := 31) rfl (fun c16 => ?_) (fun c16 => ?_)
    ·
      refine s_iconst C dX11_joined_31 (-1) (by decide) (fun z17 h18 => ?_)
      exact a_iret Rt dX11_joined_32 rfl (⟨hG, ony.rf⟩)
    ·
      refine a_iload_n C dX11_joined_22 (i := 3) rfl rfl ?_
      refine s_if_lt C dX11_joined_23 (tgt := 31) rfl (fun c19 => ?_) (fun c19 => ?_)
      ·
        refine s_iconst C dX11_joined_31 (-1) (by decide) (fun z20 h21 => ?_)
        exact a_iret Rt dX11_joined_32 rfl (⟨hG, ony.rf⟩)
      ·
        refine a_iload_n C dX11_joined_26 (i := 3) rfl rfl ?_
        refine s_iconst C dX11_joined_27 (1) (by decide) (fun z22 h23 => ?_)
        refine s_ic_le C dX11_joined_28 (tgt := 33) rfl (fun c24 => ?_) (fun c24 => ?_)
        ·
          refine a_aload_n C dX11_joined_33 (i := 0) rfl rfl ?_
          refine a_get C fl_RX11_82 (i := 0) kd_0 (hid 0 (by decide)) (v := .ref (ad 30)) (congrArg (fun z => some (Value.ref (ad z))) htx0) dX11_joined_34 ?_
          refine a_get C fl_RX11_146 (i := 30) kd_30 (hid 30 (by decide)) (v := .ref (ad 40)) rfl dX11_joined_37 ?_
          refine a_iload_n C dX11_joined_40 (i := 1) rfl rfl ?_
          refine s_iald C (i := 40) kd_40 (hid 40 (by decide)) al_40 (by omega) (by omega) dX11_joined_41 (fun n25 h26 => ?_)
          refine s_val (fun z27 e28 => ?_)
          have g29 := bA_40 hG n25
          rw [e28] at g29
          refine a_istore C dX11_joined_42 (by decide) rfl (vs1 := [some (.ref (ad 0)), some (.int x1), some (.int x2), some (.int x3), some (.int z27)]) rfl ?_
          refine a_aload_n C dX11_joined_44 (i := 0) rfl rfl ?_
          refine a_get C fl_RX11_82 (i := 0) kd_0 (hid 0 (by decide)) (v := .ref (ad 30)) (congrArg (fun z => some (Value.ref (ad z))) htx0) dX11_joined_45 ?_
          refine a_get C fl_RX11_149 (i := 30) kd_30 (hid 30 (by decide)) (v := .ref (ad 34)) rfl dX11_joined_48 ?_
          refine a_iload_n C dX11_joined_51 (i := 1) rfl rfl ?_
          refine s_aaldH C (i := 34) kd_34 (hid 34 (by decide)) al_34 (by omega) (by omega) dX11_joined_52 (fun n30 h31 h32 => ?_)
          refine s_iconst C dX11_joined_53 (0) (by decide) (fun z33 h34 => ?_)
          refine a_aload_n C dX11_joined_54 (i := 0) rfl rfl ?_
          refine a_get C fl_RX11_76 (i := 0) kd_0 (hid 0 (by decide)) (v := .ref (ad 29)) rfl dX11_joined_55 ?_
          refine s_iconst C dX11_joined_58 (0) (by decide) (fun z35 h36 => ?_)
          refine a_iload C dX11_joined_59 rfl ?_
          refine s_copyg C (i0 := (34 + 1 + n30)) (i1 := 29) ml_RX11_237 ac_w.1 ac_w.2.1 ac_w.2.2 (kdH_34 n30 h32).1 (hid _ (kdH_34 n30 h32).2.2) (kdH_34 n30 h32).2.1 kd_29 (hid 29 (by decide)) al_29 (by omega) (by omega) (by omega) (by omega) (by omega) (Nat.le_of_ble_eq_true rfl) (Nat.le_of_ble_eq_true rfl) dX11_joined_61 (GIc.A hG nof_29 noa_29 (fun a ha => by omega) (by decide)) (fun σ37 hG38 ho39 => ?_)
          refine a_aload_n C dX11_joined_64 (i := 0) rfl rfl ?_
          refine a_get C fl_RX11_82 (i := 0) kd_0 (hid 0 (by decide)) (v := .ref (ad 30)) (congrArg (fun z => some (Value.ref (ad z))) ((congrFun ho39.2 0).trans htx0)) dX11_joined_65 ?_
          refine a_get C fl_RX11_149 (i := 30) kd_30 (hid 30 (by decide)) (v := .ref (ad 34)) rfl dX11_joined_68 ?_
          refine a_iload_n C dX11_joined_71 (i := 2) rfl rfl ?_
          refine s_aaldH C (i := 34) kd_34 (hid 34 (by decide)) al_34 (by omega) (by omega) dX11_joined_72 (fun n40 h41 h42 => ?_)
          refine s_iconst C dX11_joined_73 (0) (by decide) (fun z43 h44 => ?_)
          refine a_aload_n C dX11_joined_74 (i := 0) rfl rfl ?_
          refine a_get C fl_RX11_76 (i := 0) kd_0 (hid 0 (by decide)) (v := .ref (ad 29)) rfl dX11_joined_75 ?_
          refine a_iload C dX11_joined_78 rfl ?_
          refine a_aload_n C dX11_joined_80 (i := 0) rfl rfl ?_
          refine a_get C fl_RX11_82 (i := 0) kd_0 (hid 0 (by decide)) (v := .ref (ad 30)) (congrArg (fun z => some (Value.ref (ad z))) ((congrFun ho39.2 0).trans htx0)) dX11_joined_81 ?_
          refine a_get C fl_RX11_146 (i := 30) kd_30 (hid 30 (by decide)) (v := .ref (ad 40)) rfl dX11_joined_84 ?_
          refine a_iload_n C dX11_joined_87 (i := 2) rfl rfl ?_
          refine s_iald C (i := 40) kd_40 (hid 40 (by decide)) al_40 (by omega) (by omega) dX11_joined_88 (fun n45 h46 => ?_)
          refine s_val (fun z47 e48 => ?_)
          have g49 := bA_40 hG38 n45
          rw [e48] at g49
          refine s_copyg C (i0 := (34 + 1 + n40)) (i1 := 29) ml_RX11_237 ac_w.1 ac_w.2.1 ac_w.2.2 (kdH_34 n40 h42).1 (hid _ (kdH_34 n40 h42).2.2) (kdH_34 n40 h42).2.1 kd_29 (hid 29 (by decide)) al_29 (by omega) (by omega) (by omega) (by omega) (by omega) (Nat.le_of_ble_eq_true rfl) (Nat.le_of_ble_eq_true rfl) dX11_joined_89 (GIc.A hG38 nof_29 noa_29 (fun a ha => by omega) (by decide)) (fun σ50 hG51 ho52 => ?_)
          refine a_aload_n C dX11_joined_92 (i := 0) rfl rfl ?_
          refine a_get C fl_RX11_76 (i := 0) kd_0 (hid 0 (by decide)) (v := .ref (ad 29)) rfl dX11_joined_93 ?_
          refine a_iload C dX11_joined_96 rfl ?_
          refine a_aload_n C dX11_joined_98 (i := 0) rfl rfl ?_
          refine a_get C fl_RX11_82 (i := 0) kd_0 (hid 0 (by decide)) (v := .ref (ad 30)) (congrArg (fun z => some (Value.ref (ad z))) ((congrFun ho52.2 0).trans ((congrFun ho39.2 0).trans htx0))) dX11_joined_99 ?_
          refine a_get C fl_RX11_146 (i := 30) kd_30 (hid 30 (by decide)) (v := .ref (ad 40)) rfl dX11_joined_102 ?_
          refine a_iload_n C dX11_joined_105 (i := 2) rfl rfl ?_
          refine s_iald C (i := 40) kd_40 (hid 40 (by decide)) al_40 (by omega) (by omega) dX11_joined_106 (fun n53 h54 => ?_)
          refine s_val (fun z55 e56 => ?_)
          have g57 := bA_40 hG51 n53
          rw [e56] at g57
          refine s_iadd C dX11_joined_107 (by omega) (fun z58 h59 => ?_)
          refine a_iload_n C dX11_joined_108 (i := 3) rfl rfl ?_
          refine a_callSi C (S_X11_closingOf_29 (x2 := z58) (x3 := x3) hid hG51 (by omega)) ms_X11_closingOf ml_RX11_233 rfl rfl (Nat.le_of_ble_eq_true rfl) (Nat.le_of_ble_eq_true rfl) (Nat.le_of_ble_eq_true rfl) dX11_joined_109 (fun z60 σ61 q62 => ?_)
          rw [q62]
          exact a_iret Rt dX11_joined_112 rfl (⟨hG51, (ony.tr (ony.tr ony.rf (ony.mono ho39 (by decide))) (ony.mono ho52 (by decide)))⟩)
        ·
          refine s_iconst C dX11_joined_31 (-1) (by decide) (fun z63 h64 => ?_)
          exact a_iret Rt dX11_joined_32 rfl (⟨hG, ony.rf⟩)
theorem dX11_turned_11 : decode cX11_turned 11 = .ok (.aload_n 0, 1) := by decide +kernel
theorem dX11_turned_12 : decode cX11_turned 12 = .ok (.getfield 82, 3) := by decide +kernel
theorem dX11_turned_15 : decode cX11_turned 15 = .ok (.iload_n 2, 1) := by decide +kernel
theorem dX11_turned_16 : decode cX11_turned 16 = .ok (.invokevirtual 143, 3) := by decide +kernel
theorem dX11_turned_19 : decode cX11_turned 19 = .ok (.ifCond .ne 5, 3) := by decide +kernel
theorem dX11_turned_24 : decode cX11_turned 24 = .ok (.aload_n 0, 1) := by decide +kernel
theorem dX11_turned_25 : decode cX11_turned 25 = .ok (.getfield 82, 3) := by decide +kernel
theorem dX11_turned_28 : decode cX11_turned 28 = .ok (.getfield 146, 3) := by decide +kernel
theorem dX11_turned_31 : decode cX11_turned 31 = .ok (.iload_n 1, 1) := by decide +kernel
theorem dX11_turned_32 : decode cX11_turned 32 = .ok (.iaload, 1) := by decide +kernel
theorem dX11_turned_33 : decode cX11_turned 33 = .ok (.istore_n 3, 1) := by decide +kernel
theorem dX11_turned_34 : decode cX11_turned 34 = .ok (.iload_n 3, 1) := by decide +kernel
theorem dX11_turned_35 : decode cX11_turned 35 = .ok (.aload_n 0, 1) := by decide +kernel
theorem dX11_turned_36 : decode cX11_turned 36 = .ok (.getfield 82, 3) := by decide +kernel
theorem dX11_turned_39 : decode cX11_turned 39 = .ok (.getfield 146, 3) := by decide +kernel
theorem dX11_turned_42 : decode cX11_turned 42 = .ok (.iload_n 2, 1) := by decide +kernel
theorem dX11_turned_43 : decode cX11_turned 43 = .ok (.iaload, 1) := by decide +kernel
theorem dX11_turned_44 : decode cX11_turned 44 = .ok (.if_icmp .eq 6, 3) := by decide +kernel
theorem dX11_turned_47 : decode cX11_turned 47 = .ok (.bipush (-2), 2) := by decide +kernel
theorem dX11_turned_49 : decode cX11_turned 49 = .ok (.ireturn, 1) := by decide +kernel
theorem dX11_turned_50 : decode cX11_turned 50 = .ok (.aload_n 0, 1) := by decide +kernel
theorem dX11_turned_51 : decode cX11_turned 51 = .ok (.getfield 82, 3) := by decide +kernel
theorem dX11_turned_54 : decode cX11_turned 54 = .ok (.getfield 149, 3) := by decide +kernel
theorem dX11_turned_57 : decode cX11_turned 57 = .ok (.iload_n 1, 1) := by decide +kernel
theorem dX11_turned_58 : decode cX11_turned 58 = .ok (.aaload, 1) := by decide +kernel
theorem dX11_turned_59 : decode cX11_turned 59 = .ok (.aload_n 0, 1) := by decide +kernel
theorem dX11_turned_60 : decode cX11_turned 60 = .ok (.getfield 82, 3) := by decide +kernel
theorem dX11_turned_63 : decode cX11_turned 63 = .ok (.getfield 149, 3) := by decide +kernel
theorem dX11_turned_66 : decode cX11_turned 66 = .ok (.iload_n 2, 1) := by decide +kernel
theorem dX11_turned_67 : decode cX11_turned 67 = .ok (.aaload, 1) := by decide +kernel
theorem dX11_turned_68 : decode cX11_turned 68 = .ok (.iload_n 3, 1) := by decide +kernel
theorem dX11_turned_69 : decode cX11_turned 69 = .ok (.invokestatic 253, 3) := by decide +kernel
theorem dX11_turned_72 : decode cX11_turned 72 = .ok (.ireturn, 1) := by decide +kernel
set_option maxHeartbeats 4000000 in
set_option maxRecDepth 100000 in
theorem S_X11_turned_0_t30 {l : Launch} {D : va_G} {ids : List Nat} {ad : Nat → Nat} {ca : Nat → ClassId} {σ : HS} {x1 : Int32} {x2 : Int32} (hid : ∀ i, i < 277 → i ∈ ids) (hG : GIc σ) (htx0 : σ.2.2 0 = 30) (htx1 : σ.2.2 1 = 43) : Ki l D ids ad ca yX11_turned cX11_turned 4 .int 1 25 [.ref (ad 0), .int x1, .int x2] σ (fun r σ1 => (σ1 = σ)) := by
  refine Ki.of (by decide) (Nat.le_of_ble_eq_true rfl) 1 (fun Γ C Rt => ?_)
  show AW ids ad ca Γ 0 [some (.ref (ad 0)), some (.int x1), some (.int x2), none] [] σ
  refine a_aload_n C dX11_turned_0 (i := 0) rfl rfl ?_
  refine a_get C fl_RX11_82 (i := 0) kd_0 (hid 0 (by decide)) (v := .ref (ad 30)) (congrArg (fun z => some (Value.ref (ad z))) htx0) dX11_turned_1 ?_
  refine a_iload_n C dX11_turned_4 (i := 1) rfl rfl ?_
  refine a_callVi C (i := 30) kd_30 (hid 30 (by decide)) ⟨_, _, rfl⟩ (by decide) (S_X10_hasPattern_30 (x1 := x1) hid hG) mi_X10_hasPattern ml_RX11_143 rfl rfl (Nat.le_of_ble_eq_true rfl) (Nat.le_of_ble_eq_true rfl) (Nat.le_of_ble_eq_true rfl) dX11_turned_5 (fun z1 σ2 q3 => ?_)
  obtain ⟨w4, w5, w6⟩ := q3
  rw [w4]
  refine s_if_eq C dX11_turned_8 (tgt := 22) rfl (fun c7 => ?_) (fun c7 => ?_)
  ·
    refine s_iconst C dX11_turned_22 (-1) (by decide) (fun z8 h9 => ?_)
    exact a_iret Rt dX11_turned_23 rfl (rfl)
  ·
    refine a_aload_n C dX11_turned_11 (i := 0) rfl rfl ?_
    refine a_get C fl_RX11_82 (i := 0) kd_0 (hid 0 (by decide)) (v := .ref (ad 30)) (congrArg (fun z => some (Value.ref (ad z))) htx0) dX11_turned_12 ?_
    refine a_iload_n C dX11_turned_15 (i := 2) rfl rfl ?_
    refine a_callVi C (i := 30) kd_30 (hid 30 (by decide)) ⟨_, _, rfl⟩ (by decide) (S_X10_hasPattern_30 (x1 := x2) hid hG) mi_X10_hasPattern ml_RX11_143 rfl rfl (Nat.le_of_ble_eq_true rfl) (Nat.le_of_ble_eq_true rfl) (Nat.le_of_ble_eq_true rfl) dX11_turned_16 (fun z10 σ11 q12 => ?_)
    obtain ⟨w13, w14, w15⟩ := q12
    rw [w13]
    refine s_if_ne C dX11_turned_19 (tgt := 24) rfl (fun c16 => ?_) (fun c16 => ?_)
    ·
      refine a_aload_n C dX11_turned_24 (i := 0) rfl rfl ?_
      refine a_get C fl_RX11_82 (i := 0) kd_0 (hid 0 (by decide)) (v := .ref (ad 30)) (congrArg (fun z => some (Value.ref (ad z))) htx0) dX11_turned_25 ?_
      refine a_get C fl_RX11_146 (i := 30) kd_30 (hid 30 (by decide)) (v := .ref (ad 40)) rfl dX11_turned_28 ?_
      refine a_iload_n C dX11_turned_31 (i := 1) rfl rfl ?_
      refine s_iald C (i := 40) kd_40 (hid 40 (by decide)) al_40 (by omega) (by omega) dX11_turned_32 (fun n17 h18 => ?_)
      refine s_val (fun z19 e20 => ?_)
      have g21 := bA_40 hG n17
      rw [e20] at g21
      refine a_istore_n C dX11_turned_33 (i := 3) rfl (by decide) rfl (vs1 := [some (.ref (ad 0)), some (.int x1), some (.int x2), some (.int z19)]) rfl ?_
      refine a_iload_n C dX11_turned_34 (i := 3) rfl rfl ?_
      refine a_aload_n C dX11_turned_35 (i := 0) rfl rfl ?_
      refine a_get C fl_RX11_82 (i := 0) kd_0 (hid 0 (by decide)) (v := .ref (ad 30)) (congrArg (fun z => some (Value.ref (ad z))) htx0) dX11_turned_36 ?_
      refine a_get C fl_RX11_146 (i := 30) kd_30 (hid 30 (by decide)) (v := .ref (ad 40)) rfl dX11_turned_39 ?_
      refine a_iload_n C dX11_turned_42 (i := 2) rfl rfl ?_
      refine s_iald C (i := 40) kd_40 (hid 40 (by decide)) al_40 (by omega) (by omega) dX11_turned_43 (fun n22 h23 => ?_)
      refine s_val (fun z24 e25 => ?_)
      have g26 := bA_40 hG n22
      rw [e25] at g26
      refine s_ic_eq C dX11_turned_44 (tgt := 50) rfl (fun c27 => ?_) (fun c27 => ?_)
      ·
        refine a_aload_n C dX11_turned_50 (i := 0) rfl rfl ?_
        refine a_get C fl_RX11_82 (i := 0) kd_0 (hid 0 (by decide)) (v := .ref (ad 30)) (congrArg (fun z => some (Value.ref (ad z))) htx0) dX11_turned_51 ?_
        refine a_get C fl_RX11_149 (i := 30) kd_30 (hid 30 (by decide)) (v := .ref (ad 34)) rfl dX11_turned_54 ?_
        refine a_iload_n C dX11_turned_57 (i := 1) rfl rfl ?_
        refine s_aaldH C (i := 34) kd_34 (hid 34 (by decide)) al_34 (by omega) (by omega) dX11_turned_58 (fun n28 h29 h30 => ?_)
        refine a_aload_n C dX11_turned_59 (i := 0) rfl rfl ?_
        refine a_get C fl_RX11_82 (i := 0) kd_0 (hid 0 (by decide)) (v := .ref (ad 30)) (congrArg (fun z => some (Value.ref (ad z))) htx0) dX11_turned_60 ?_
        refine a_get C fl_RX11_149 (i := 30) kd_30 (hid 30 (by decide)) (v := .ref (ad 34)) rfl dX11_turned_63 ?_
        refine a_iload_n C dX11_turned_66 (i := 2) rfl rfl ?_
        refine s_aaldH C (i := 34) kd_34 (hid 34 (by decide)) al_34 (by omega) (by omega) dX11_turned_67 (fun n31 h32 h33 => ?_)
        refine a_iload_n C dX11_turned_68 (i := 3) rfl rfl ?_
        refine a_callSi C (S_X3_turns_H8_H8 (x3 := z19) (ar1 := (34 + 1 + n28)) (ar2 := (34 + 1 + n31)) hid hG (by omega) (kdH_34 n28 h30).1 (hid _ (kdH_34 n28 h30).2.2) (kdH_34 n28 h30).2.1 (bH_34 hG h30) (kdH_34 n31 h33).1 (hid _ (kdH_34 n31 h33).2.2) (kdH_34 n31 h33).2.1 (bH_34 hG h33)) ms_X3_turns ml_RX11_253 rfl rfl (Nat.le_of_ble_eq_true rfl) (Nat.le_of_ble_eq_true rfl) (Nat.le_of_ble_eq_true rfl) dX11_turned_69 (fun z34 σ35 q36 => ?_)
        rw [q36]
        exact a_iret Rt dX11_turned_72 rfl (rfl)
      ·
        refine s_bipush C dX11_turned_47 (-2) (by decide) (fun z37 h38 => ?_)
        exact a_iret Rt dX11_turned_49 rfl (rfl)
    ·
      refine s_iconst C dX11_turned_22 (-1) (by decide) (fun z39 h40 => ?_)
      exact a_iret Rt dX11_turned_23 rfl (rfl)
theorem dX11_span_13 : decode cX11_span 13 = .ok (.aload_n 0, 1) := by decide +kernel
theorem dX11_span_14 : decode cX11_span 14 = .ok (.getfield 82, 3) := by decide +kernel
theorem dX11_span_17 : decode cX11_span 17 = .ok (.getfield 149, 3) := by decide +kernel
theorem dX11_span_20 : decode cX11_span 20 = .ok (.iload_n 1, 1) := by decide +kernel
theorem dX11_span_21 : decode cX11_span 21 = .ok (.aaload, 1) := by decide +kernel
theorem dX11_span_22 : decode cX11_span 22 = .ok (.aload_n 0, 1) := by decide +kernel
theorem dX11_span_23 : decode cX11_span 23 = .ok (.getfield 82, 3) := by decide +kernel
theorem dX11_span_26 : decode cX11_span 26 = .ok (.getfield 146, 3) := by decide +kernel
theorem dX11_span_29 : decode cX11_span 29 = .ok (.iload_n 1, 1) := by decide +kernel
theorem dX11_span_30 : decode cX11_span 30 = .ok (.iaload, 1) := by decide +kernel
theorem dX11_span_31 : decode cX11_span 31 = .ok (.invokestatic 257, 3) := by decide +kernel
theorem dX11_span_34 : decode cX11_span 34 = .ok (.ireturn, 1) := by decide +kernel
set_option maxHeartbeats 4000000 in
set_option maxRecDepth 100000 in
theorem S_X11_span_0_t30 {l : Launch} {D : va_G} {ids : List Nat} {ad : Nat → Nat} {ca : Nat → ClassId} {σ : HS} {x1 : Int32} (hid : ∀ i, i < 277 → i ∈ ids) (hG : GIc σ) (htx0 : σ.2.2 0 = 30) (htx1 : σ.2.2 1 = 43) : Ki l D ids ad ca yX11_span cX11_span 2 .int 2 44 [.ref (ad 0), .int x1] σ (fun r σ1 => (σ1 = σ)) := by
  refine Ki.of (by decide) (Nat.le_of_ble_eq_true rfl) 0 (fun Γ C Rt => ?_)
  show AW ids ad ca Γ 0 [some (.ref (ad 0)), some (.int x1)] [] σ
  refine a_aload_n C dX11_span_0 (i := 0) rfl rfl ?_
  refine a_get C fl_RX11_82 (i := 0) kd_0 (hid 0 (by decide)) (v := .ref (ad 30)) (congrArg (fun z => some (Value.ref (ad z))) htx0) dX11_span_1 ?_
  refine a_iload_n C dX11_span_4 (i := 1) rfl rfl ?_
  refine a_callVi C (i := 30) kd_30 (hid 30 (by decide)) ⟨_, _, rfl⟩ (by decide) (S_X10_hasPattern_30 (x1 := x1) hid hG) mi_X10_hasPattern ml_RX11_143 rfl rfl (Nat.le_of_ble_eq_true rfl) (Nat.le_of_ble_eq_true rfl) (Nat.le_of_ble_eq_true rfl) dX11_span_5 (fun z1 σ2 q3 => ?_)
  obtain ⟨w4, w5, w6⟩ := q3
  rw [w4]
  refine s_if_ne C dX11_span_8 (tgt := 13) rfl (fun c7 => ?_) (fun c7 => ?_)
  ·
    refine a_aload_n C dX11_span_13 (i := 0) rfl rfl ?_
    refine a_get C fl_RX11_82 (i := 0) kd_0 (hid 0 (by decide)) (v := .ref (ad 30)) (congrArg (fun z => some (Value.ref (ad z))) htx0) dX11_span_14 ?_
    refine a_get C fl_RX11_149 (i := 30) kd_30 (hid 30 (by decide)) (v := .ref (ad 34)) rfl dX11_span_17 ?_
    refine a_iload_n C dX11_span_20 (i := 1) rfl rfl ?_
    refine s_aaldH C (i := 34) kd_34 (hid 34 (by decide)) al_34 (by omega) (by omega) dX11_span_21 (fun n8 h9 h10 => ?_)
    refine a_aload_n C dX11_span_22 (i := 0) rfl rfl ?_
    refine a_get C fl_RX11_82 (i := 0) kd_0 (hid 0 (by decide)) (v := .ref (ad 30)) (congrArg (fun z => some (Value.ref (ad z))) htx0) dX11_span_23 ?_
    refine a_get C fl_RX11_146 (i := 30) kd_30 (hid 30 (by decide)) (v := .ref (ad 40)) rfl dX11_span_26 ?_
    refine a_iload_n C dX11_span_29 (i := 1) rfl rfl ?_
    refine s_iald C (i := 40) kd_40 (hid 40 (by decide)) al_40 (by omega) (by omega) dX11_span_30 (fun n11 h12 => ?_)
    refine s_val (fun z13 e14 => ?_)
    have g15 := bA_40 hG n11
    rw [e14] at g15
    refine a_callSi C (S_X3_highest_H8 (x2 := z13) (ar1 := (34 + 1 + n8)) hid hG (by omega) (kdH_34 n8 h10).1 (hid _ (kdH_34 n8 h10).2.2) (kdH_34 n8 h10).2.1 (bH_34 hG h10)) ms_X3_highest ml_RX11_257 rfl rfl (Nat.le_of_ble_eq_true rfl) (Nat.le_of_ble_eq_true rfl) (Nat.le_of_ble_eq_true rfl) dX11_span_31 (fun z16 σ17 q18 => ?_)
    rw [q18]
    exact a_iret Rt dX11_span_34 rfl (rfl)
  ·
    refine s_iconst C dX11_span_11 (-1) (by decide) (fun z19 h20 => ?_)
    exact a_iret Rt dX11_span_12 rfl (rfl)
theorem dX11_orbits_13 : decode cX11_orbits 13 = .ok (.aload_n 0, 1) := by decide +kernel
theorem dX11_orbits_14 : decode cX11_orbits 14 = .ok (.getfield 82, 3) := by decide +kernel
theorem dX11_orbits_17 : decode cX11_orbits 17 = .ok (.getfield 149, 3) := by decide +kernel
theorem dX11_orbits_20 : decode cX11_orbits 20 = .ok (.iload_n 1, 1) := by decide +kernel
theorem dX11_orbits_21 : decode cX11_orbits 21 = .ok (.aaload, 1) := by decide +kernel
theorem dX11_orbits_22 : decode cX11_orbits 22 = .ok (.astore_n 2, 1) := by decide +kernel
theorem dX11_orbits_23 : decode cX11_orbits 23 = .ok (.aload_n 0, 1) := by decide +kernel
theorem dX11_orbits_24 : decode cX11_orbits 24 = .ok (.getfield 82, 3) := by decide +kernel
theorem dX11_orbits_27 : decode cX11_orbits 27 = .ok (.getfield 146, 3) := by decide +kernel
theorem dX11_orbits_30 : decode cX11_orbits 30 = .ok (.iload_n 1, 1) := by decide +kernel
theorem dX11_orbits_31 : decode cX11_orbits 31 = .ok (.iaload, 1) := by decide +kernel
theorem dX11_orbits_32 : decode cX11_orbits 32 = .ok (.istore_n 3, 1) := by decide +kernel
theorem dX11_orbits_33 : decode cX11_orbits 33 = .ok (.aload_n 2, 1) := by decide +kernel
theorem dX11_orbits_34 : decode cX11_orbits 34 = .ok (.iload_n 3, 1) := by decide +kernel
theorem dX11_orbits_35 : decode cX11_orbits 35 = .ok (.invokestatic 243, 3) := by decide +kernel
theorem dX11_orbits_38 : decode cX11_orbits 38 = .ok (.ifCond .eq 11, 3) := by decide +kernel
theorem dX11_orbits_41 : decode cX11_orbits 41 = .ok (.aload_n 2, 1) := by decide +kernel
theorem dX11_orbits_42 : decode cX11_orbits 42 = .ok (.iload_n 3, 1) := by decide +kernel
theorem dX11_orbits_43 : decode cX11_orbits 43 = .ok (.invokestatic 260, 3) := by decide +kernel
theorem dX11_orbits_46 : decode cX11_orbits 46 = .ok (.goto 5, 3) := by decide +kernel
theorem dX11_orbits_49 : decode cX11_orbits 49 = .ok (.bipush (-2), 2) := by decide +kernel
theorem dX11_orbits_51 : decode cX11_orbits 51 = .ok (.ireturn, 1) := by decide +kernel
set_option maxHeartbeats 4000000 in
set_option maxRecDepth 100000 in
theorem S_X11_orbits_0_t30 {l : Launch} {D : va_G} {ids : List Nat} {ad : Nat → Nat} {ca : Nat → ClassId} {σ : HS} {x1 : Int32} (hid : ∀ i, i < 277 → i ∈ ids) (hG : GIc σ) (htx0 : σ.2.2 0 = 30) (htx1 : σ.2.2 1 = 43) : Ki l D ids ad ca yX11_orbits cX11_orbits 4 .int 1 26 [.ref (ad 0), .int x1] σ (fun r σ1 => (σ1 = σ)) := by
  refine Ki.of (by decide) (Nat.le_of_ble_eq_true rfl) 2 (fun Γ C Rt => ?_)
  show AW ids ad ca Γ 0 [some (.ref (ad 0)), some (.int x1), none, none] [] σ
  refine a_aload_n C dX11_orbits_0 (i := 0) rfl rfl ?_
  refine a_get C fl_RX11_82 (i := 0) kd_0 (hid 0 (by decide)) (v := .ref (ad 30)) (congrArg (fun z => some (Value.ref (ad z))) htx0) dX11_orbits_1 ?_
  refine a_iload_n C dX11_orbits_4 (i := 1) rfl rfl ?_
  refine a_callVi C (i := 30) kd_30 (hid 30 (by decide)) ⟨_, _, rfl⟩ (by decide) (S_X10_hasPattern_30 (x1 := x1) hid hG) mi_X10_hasPattern ml_RX11_143 rfl rfl (Nat.le_of_ble_eq_true rfl) (Nat.le_of_ble_eq_true rfl) (Nat.le_of_ble_eq_true rfl) dX11_orbits_5 (fun z1 σ2 q3 => ?_)
  obtain ⟨w4, w5, w6⟩ := q3
  rw [w4]
  refine s_if_ne C dX11_orbits_8 (tgt := 13) rfl (fun c7 => ?_) (fun c7 => ?_)
  ·
    refine a_aload_n C dX11_orbits_13 (i := 0) rfl rfl ?_
    refine a_get C fl_RX11_82 (i := 0) kd_0 (hid 0 (by decide)) (v := .ref (ad 30)) (congrArg (fun z => some (Value.ref (ad z))) htx0) dX11_orbits_14 ?_
    refine a_get C fl_RX11_149 (i := 30) kd_30 (hid 30 (by decide)) (v := .ref (ad 34)) rfl dX11_orbits_17 ?_
    refine a_iload_n C dX11_orbits_20 (i := 1) rfl rfl ?_
    refine s_aaldH C (i := 34) kd_34 (hid 34 (by decide)) al_34 (by omega) (by omega) dX11_orbits_21 (fun n8 h9 h10 => ?_)
    refine a_astore_n C dX11_orbits_22 (i := 2) rfl (by decide) rfl (vs1 := [some (.ref (ad 0)), some (.int x1), some (.ref (ad (34 + 1 + n8))), none]) rfl ?_
    refine a_aload_n C dX11_orbits_23 (i := 0) rfl rfl ?_
    refine a_get C fl_RX11_82 (i := 0) kd_0 (hid 0 (by decide)) (v := .ref (ad 30)) (congrArg (fun z => some (Value.ref (ad z))) htx0) dX11_orbits_24 ?_
    refine a_get C fl_RX11_146 (i := 30) kd_30 (hid 30 (by decide)) (v := .ref (ad 40)) rfl dX11_orbits_27 ?_
    refine a_iload_n C dX11_orbits_30 (i := 1) rfl rfl ?_
    refine s_iald C (i := 40) kd_40 (hid 40 (by decide)) al_40 (by omega) (by omega) dX11_orbits_31 (fun n11 h12 => ?_)
    refine s_val (fun z13 e14 => ?_)
    have g15 := bA_40 hG n11
    rw [e14] at g15
    refine a_istore_n C dX11_orbits_32 (i := 3) rfl (by decide) rfl (vs1 := [some (.ref (ad 0)), some (.int x1), some (.ref (ad (34 + 1 + n8))), some (.int z13)]) rfl ?_
    refine a_aload_n C dX11_orbits_33 (i := 2) rfl rfl ?_
    refine a_iload_n C dX11_orbits_34 (i := 3) rfl rfl ?_
    refine a_callSi C (S_X3_close_H8 (x2 := z13) (ar1 := (34 + 1 + n8)) hid hG (by omega) (kdH_34 n8 h10).1 (hid _ (kdH_34 n8 h10).2.2) (kdH_34 n8 h10).2.1 (bH_34 hG h10)) ms_X3_close ml_RX11_243 rfl rfl (Nat.le_of_ble_eq_true rfl) (Nat.le_of_ble_eq_true rfl) (Nat.le_of_ble_eq_true rfl) dX11_orbits_35 (fun z16 σ17 q18 => ?_)
    obtain ⟨w19, w20⟩ := q18
    rw [w19]
    refine s_if_eq C dX11_orbits_38 (tgt := 49) rfl (fun c21 => ?_) (fun c21 => ?_)
    ·
      refine s_bipush C dX11_orbits_49 (-2) (by decide) (fun z22 h23 => ?_)
      exact a_iret Rt dX11_orbits_51 rfl (rfl)
    ·
      refine a_aload_n C dX11_orbits_41 (i := 2) rfl rfl ?_
      refine a_iload_n C dX11_orbits_42 (i := 3) rfl rfl ?_
      refine a_callSi C (S_X3_rounds_H8 (x2 := z13) (ar1 := (34 + 1 + n8)) hid hG (by omega) (kdH_34 n8 h10).1 (hid _ (kdH_34 n8 h10).2.2) (kdH_34 n8 h10).2.1 (bH_34 hG h10)) ms_X3_rounds ml_RX11_260 rfl rfl (Nat.le_of_ble_eq_true rfl) (Nat.le_of_ble_eq_true rfl) (Nat.le_of_ble_eq_true rfl) dX11_orbits_43 (fun z24 σ25 q26 => ?_)
      rw [q26]
      refine a_goto C dX11_orbits_46 (tgt := 51) rfl ?_
      exact a_iret Rt dX11_orbits_51 rfl (rfl)
  ·
    refine s_iconst C dX11_orbits_11 (-1) (by decide) (fun z27 h28 => ?_)
    exact a_iret Rt dX11_orbits_12 rfl (rfl)
theorem dX11_swaps_13 : decode cX11_swaps 13 = .ok (.aload_n 0, 1) := by decide +kernel
theorem dX11_swaps_14 : decode cX11_swaps 14 = .ok (.getfield 82, 3) := by decide +kernel
theorem dX11_swaps_17 : decode cX11_swaps 17 = .ok (.getfield 149, 3) := by decide +kernel
theorem dX11_swaps_20 : decode cX11_swaps 20 = .ok (.iload_n 1, 1) := by decide +kernel
theorem dX11_swaps_21 : decode cX11_swaps 21 = .ok (.aaload, 1) := by decide +kernel
theorem dX11_swaps_22 : decode cX11_swaps 22 = .ok (.aload_n 0, 1) := by decide +kernel
theorem dX11_swaps_23 : decode cX11_swaps 23 = .ok (.getfield 82, 3) := by decide +kernel
theorem dX11_swaps_26 : decode cX11_swaps 26 = .ok (.getfield 146, 3) := by decide +kernel
theorem dX11_swaps_29 : decode cX11_swaps 29 = .ok (.iload_n 1, 1) := by decide +kernel
theorem dX11_swaps_30 : decode cX11_swaps 30 = .ok (.iaload, 1) := by decide +kernel
theorem dX11_swaps_31 : decode cX11_swaps 31 = .ok (.invokestatic 263, 3) := by decide +kernel
theorem dX11_swaps_34 : decode cX11_swaps 34 = .ok (.ireturn, 1) := by decide +kernel
set_option maxHeartbeats 4000000 in
set_option maxRecDepth 100000 in
theorem S_X11_swaps_0_t30 {l : Launch} {D : va_G} {ids : List Nat} {ad : Nat → Nat} {ca : Nat → ClassId} {σ : HS} {x1 : Int32} (hid : ∀ i, i < 277 → i ∈ ids) (hG : GIc σ) (htx0 : σ.2.2 0 = 30) (htx1 : σ.2.2 1 = 43) : Ki l D ids ad ca yX11_swaps cX11_swaps 2 .int 2 44 [.ref (ad 0), .int x1] σ (fun r σ1 => (σ1 = σ)) := by
  refine Ki.of (by decide) (Nat.le_of_ble_eq_true rfl) 0 (fun Γ C Rt => ?_)
  show AW ids ad ca Γ 0 [some (.ref (ad 0)), some (.int x1)] [] σ
  refine a_aload_n C dX11_swaps_0 (i := 0) rfl rfl ?_
  refine a_get C fl_RX11_82 (i := 0) kd_0 (hid 0 (by decide)) (v := .ref (ad 30)) (congrArg (fun z => some (Value.ref (ad z))) htx0) dX11_swaps_1 ?_
  refine a_iload_n C dX11_swaps_4 (i := 1) rfl rfl ?_
  refine a_callVi C (i := 30) kd_30 (hid 30 (by decide)) ⟨_, _, rfl⟩ (by decide) (S_X10_hasPattern_30 (x1 := x1) hid hG) mi_X10_hasPattern ml_RX11_143 rfl rfl (Nat.le_of_ble_eq_true rfl) (Nat.le_of_ble_eq_true rfl) (Nat.le_of_ble_eq_true rfl) dX11_swaps_5 (fun z1 σ2 q3 => ?_)
  obtain ⟨w4, w5, w6⟩ := q3
  rw [w4]
  refine s_if_ne C dX11_swaps_8 (tgt := 13) rfl (fun c7 => ?_) (fun c7 => ?_)
  ·
    refine a_aload_n C dX11_swaps_13 (i := 0) rfl rfl ?_
    refine a_get C fl_RX11_82 (i := 0) kd_0 (hid 0 (by decide)) (v := .ref (ad 30)) (congrArg (fun z => some (Value.ref (ad z))) htx0) dX11_swaps_14 ?_
    refine a_get C fl_RX11_149 (i := 30) kd_30 (hid 30 (by decide)) (v := .ref (ad 34)) rfl dX11_swaps_17 ?_
    refine a_iload_n C dX11_swaps_20 (i := 1) rfl rfl ?_
    refine s_aaldH C (i := 34) kd_34 (hid 34 (by decide)) al_34 (by omega) (by omega) dX11_swaps_21 (fun n8 h9 h10 => ?_)
    refine a_aload_n C dX11_swaps_22 (i := 0) rfl rfl ?_
    refine a_get C fl_RX11_82 (i := 0) kd_0 (hid 0 (by decide)) (v := .ref (ad 30)) (congrArg (fun z => some (Value.ref (ad z))) htx0) dX11_swaps_23 ?_
    refine a_get C fl_RX11_146 (i := 30) kd_30 (hid 30 (by decide)) (v := .ref (ad 40)) rfl dX11_swaps_26 ?_
    refine a_iload_n C dX11_swaps_29 (i := 1) rfl rfl ?_
    refine s_iald C (i := 40) kd_40 (hid 40 (by decide)) al_40 (by omega) (by omega) dX11_swaps_30 (fun n11 h12 => ?_)
    refine s_val (fun z13 e14 => ?_)
    have g15 := bA_40 hG n11
    rw [e14] at g15
    refine a_callSi C (S_X3_pairsToSwap_H8 (x2 := z13) (ar1 := (34 + 1 + n8)) hid hG (by omega) (kdH_34 n8 h10).1 (hid _ (kdH_34 n8 h10).2.2) (kdH_34 n8 h10).2.1 (bH_34 hG h10)) ms_X3_pairsToSwap ml_RX11_263 rfl rfl (Nat.le_of_ble_eq_true rfl) (Nat.le_of_ble_eq_true rfl) (Nat.le_of_ble_eq_true rfl) dX11_swaps_31 (fun z16 σ17 q18 => ?_)
    rw [q18]
    exact a_iret Rt dX11_swaps_34 rfl (rfl)
  ·
    refine s_iconst C dX11_swaps_11 (-1) (by decide) (fun z19 h20 => ?_)
    exact a_iret Rt dX11_swaps_12 rfl (rfl)
set_option maxHeartbeats 4000000 in
set_option maxRecDepth 100000 in
theorem S_X11_lands_0_t30 {l : Launch} {D : va_G} {ids : List Nat} {ad : Nat → Nat} {ca : Nat → ClassId} {σ : HS} (hid : ∀ i, i < 277 → i ∈ ids) (hG : GIc σ) (htx0 : σ.2.2 0 = 30) (htx1 : σ.2.2 1 = 43) : Ki l D ids ad ca yX11_lands cX11_lands 1 .int 2 43 [.ref (ad 0)] σ (fun r σ1 => (σ1 = σ)) := by
  refine Ki.of (by decide) (Nat.le_of_ble_eq_true rfl) 0 (fun Γ C Rt => ?_)
  show AW ids ad ca Γ 0 [some (.ref (ad 0))] [] σ
  refine a_aload_n C dX11_lands_0 (i := 0) rfl rfl ?_
  refine a_get C fl_RX11_54 (i := 0) kd_0 (hid 0 (by decide)) (v := .ref (ad 56)) rfl dX11_lands_1 ?_
  refine a_callVi C (i := 56) kd_56 (hid 56 (by decide)) ⟨_, _, rfl⟩ (by decide) (S_X0_landingBits_56 hid hG) mi_X0_landingBits ml_RX11_276 rfl rfl (Nat.le_of_ble_eq_true rfl) (Nat.le_of_ble_eq_true rfl) (Nat.le_of_ble_eq_true rfl) dX11_lands_4 (fun z1 σ2 q3 => ?_)
  rw [q3]
  exact a_iret Rt dX11_lands_7 rfl (rfl)
set_option maxHeartbeats 4000000 in
set_option maxRecDepth 100000 in
theorem S_X11_findHands_0_t30 {l : Launch} {D : va_G} {ids : List Nat} {ad : Nat → Nat} {ca : Nat → ClassId} {σ : HS} {x1 : Int32} (hid : ∀ i, i < 277 → i ∈ ids) (hG : GIc σ) (htx0 : σ.2.2 0 = 30) (htx1 : σ.2.2 1 = 43) (hx1 : 0 ≤ x1.toInt ∧ x1.toInt ≤ 61) : Kv l D ids ad ca yX11_findHands cX11_findHands 3 6 146 [.ref (ad 0), .int x1] σ (fun σ1 => (GIc σ1) ∧ (ony [9, 10, 11, 27, 60, 61, 62, 63] σ σ1)) := by
  refine Kv.of (by decide) (Nat.le_of_ble_eq_true rfl) 1 (fun Γ C Rt => ?_)
  show AW ids ad ca Γ 0 [some (.ref (ad 0)), some (.int x1), none] [] σ
  have j13 : ∀ (d13 : Nat) (σq13 : HS) (y13_2 : Int32), 61 - y13_2.toInt < d13 → GIc σq13 → ony [9, 10, 11, 27, 60, 61, 62, 63] σ σq13 → 0 ≤ y13_2.toInt ∧ y13_2.toInt ≤ 61 → AW ids ad ca Γ 13 [some (.ref (ad 0)), some (.int x1), some (.int y13_2)] [] σq13 := by
    intro d13
    induction d13 with
    | zero =>
      intro σq13 y13_2 hd13 hGq13 hoq13 hx13_0
      exfalso
      omega
    | succ d13 ih13 =>
      intro σq13 y13_2 hd13 hGq13 hoq13 hx13_0
      refine a_iload_n C dX11_findHands_13 (i := 2) rfl rfl ?_
      refine a_iload_n C dX11_findHands_14 (i := 1) rfl rfl ?_
      refine s_ic_ge C dX11_findHands_15 (tgt := 61) rfl (fun c1 => ?_) (fun c1 => ?_)
      ·
        exact a_vret Rt dX11_findHands_61 (⟨hGq13, hoq13⟩)
      ·
        refine a_iload_n C dX11_findHands_18 (i := 2) rfl rfl ?_
        refine a_aload_n C dX11_findHands_19 (i := 0) rfl rfl ?_
        refine a_get C fl_RX11_69 (i := 0) kd_0 (hid 0 (by decide)) (v := .ref (ad 27)) rfl dX11_findHands_20 ?_
        refine s_alen C (by rw [kd_27]; decide) (hid 27 (by decide)) al_27 (by decide) dX11_findHands_23 (fun z2 h3 => ?_)
        refine s_ic_ge C dX11_findHands_24 (tgt := 61) rfl (fun c4 => absurd c4 (by omega)) (fun c4 => ?_)
        refine a_aload_n C dX11_findHands_27 (i := 0) rfl rfl ?_
        refine a_get C fl_RX11_69 (i := 0) kd_0 (hid 0 (by decide)) (v := .ref (ad 27)) rfl dX11_findHands_28 ?_
        refine a_iload_n C dX11_findHands_31 (i := 2) rfl rfl ?_
        refine a_aload_n C dX11_findHands_32 (i := 0) rfl rfl ?_
        refine a_get C fl_RX11_58 (i := 0) kd_0 (hid 0 (by decide)) (v := .ref (ad 60)) rfl dX11_findHands_33 ?_
        refine a_callVi C (i := 60) kd_60 (hid 60 (by decide)) ⟨_, _, rfl⟩ (by decide) (S_X0_firstLanding_60 hid hGq13) mi_X0_firstLanding ml_RX11_282 rfl rfl (Nat.le_of_ble_eq_true rfl) (Nat.le_of_ble_eq_true rfl) (Nat.le_of_ble_eq_true rfl) dX11_findHands_36 (fun z5 σ6 q7 => ?_)
        obtain ⟨w8, w9⟩ := q7
        rw [w8]
        refine s_iast C (i := 27) kd_27 (hid 27 (by decide)) al_27 (by omega) (by omega) dX11_findHands_39 (fun n10 h11 => ?_)
        have hG12 := wA_27 (v := z5) (j := n10) hGq13
        refine a_aload_n C dX11_findHands_40 (i := 0) rfl rfl ?_
        refine a_get C fl_RX11_19 (i := 0) kd_0 (hid 0 (by decide)) (v := .ref (ad 8)) rfl dX11_findHands_41 ?_
        refine a_aload_n C dX11_findHands_44 (i := 0) rfl rfl ?_
        refine a_get C fl_RX11_82 (i := 0) kd_0 (hid 0 (by decide)) (v := .ref (ad 30)) (congrArg (fun z => some (Value.ref (ad z))) ((congrFun hoq13.2 0).trans htx0)) dX11_findHands_45 ?_
        refine a_aload_n C dX11_findHands_48 (i := 0) rfl rfl ?_
        refine a_get C fl_RX11_58 (i := 0) kd_0 (hid 0 (by decide)) (v := .ref (ad 60)) rfl dX11_findHands_49 ?_
        refine a_callVv C (i := 8) kd_8 (hid 8 (by decide)) ⟨_, _, rfl⟩ (by decide) (S_X4_goOnSafely_8_30_60 hid hG12) mi_X4_goOnSafely ml_RX11_285 rfl rfl (Nat.le_of_ble_eq_true rfl) (Nat.le_of_ble_eq_true rfl) (Nat.le_of_ble_eq_true rfl) dX11_findHands_52 (fun σ14 q15 => ?_)
        obtain ⟨hG16, ho17⟩ := q15
        refine s_iinc C dX11_findHands_55 rfl (1) (by decide) (by omega) (by decide) rfl (fun z19 h20 => ?_)
        show AW ids ad ca Γ 58 [some (.ref (ad 0)), some (.int x1), some (.int z19)] _ _
        refine a_goto C dX11_findHands_58 (tgt := 13) rfl ?_
        exact ih13 _ z19 (by omega) hG16 (ony.tr (ony.I hoq13 (by decide)) (ony.mono ho17 (by decide))) (by omega)
  refine a_aload_n C dX11_findHands_0 (i := 0) rfl rfl ?_
  refine a_get C fl_RX11_58 (i := 0) kd_0 (hid 0 (by decide)) (v := .ref (ad 60)) rfl dX11_findHands_1 ?_
  refine a_aload_n C dX11_findHands_4 (i := 0) rfl rfl ?_
  refine a_get C fl_RX11_54 (i := 0) kd_0 (hid 0 (by decide)) (v := .ref (ad 56)) rfl dX11_findHands_5 ?_
  refine a_callVv C (i := 60) (n0 := 0) kd_60 (hid 60 (by decide)) ⟨_, _, rfl⟩ (by decide) (S_copy 0 1 rfl rfl (by decide) (by decide) hid hG) mi_X0_copy ml_RX11_230 rfl rfl (Nat.le_of_ble_eq_true rfl) (Nat.le_of_ble_eq_true rfl) (Nat.le_of_ble_eq_true rfl) dX11_findHands_8 (fun σ21 q22 => ?_)
  obtain ⟨hG23, ho24⟩ := q22
  refine s_iconst C dX11_findHands_11 (0) (by decide) (fun z25 h26 => ?_)
  refine a_istore_n C dX11_findHands_12 (i := 2) rfl (by decide) rfl (vs1 := [some (.ref (ad 0)), some (.int x1), some (.int z25)]) rfl ?_
  exact j13 100000 _ z25 (by omega) hG23 (ony.tr ony.rf (ony.mono ho24 (by decide))) (by omega)
theorem dX11_inHand_34 : decode cX11_inHand 34 = .ok (.aload_n 0, 1) := by decide +kernel
theorem dX11_inHand_35 : decode cX11_inHand 35 = .ok (.getfield 69, 3) := by decide +kernel
theorem dX11_inHand_38 : decode cX11_inHand 38 = .ok (.iload_n 1, 1) := by decide +kernel
theorem dX11_inHand_39 : decode cX11_inHand 39 = .ok (.iaload, 1) := by decide +kernel
set_option maxHeartbeats 4000000 in
set_option maxRecDepth 100000 in
theorem S_X11_inHand_0_t30 {l : Launch} {D : va_G} {ids : List Nat} {ad : Nat → Nat} {ca : Nat → ClassId} {σ : HS} {x1 : Int32} (hid : ∀ i, i < 277 → i ∈ ids) (hG : GIc σ) (htx0 : σ.2.2 0 = 30) (htx1 : σ.2.2 1 = 43) : Ki l D ids ad ca yX11_inHand cX11_inHand 2 .int 7 168 [.ref (ad 0), .int x1] σ (fun r σ1 => (GIc σ1) ∧ (ony [9, 10, 11, 27, 60, 61, 62, 63] σ σ1)) := by
  refine Ki.of (by decide) (Nat.le_of_ble_eq_true rfl) 0 (fun Γ C Rt => ?_)
  show AW ids ad ca Γ 0 [some (.ref (ad 0)), some (.int x1)] [] σ
  refine a_iload_n C dX11_inHand_0 (i := 1) rfl rfl ?_
  refine s_if_lt C dX11_inHand_1 (tgt := 10) rfl (fun c1 => ?_) (fun c1 => ?_)
  ·
    refine s_iconst C dX11_inHand_10 (-1) (by decide) (fun z2 h3 => ?_)
    exact a_iret Rt dX11_inHand_11 rfl (⟨hG, ony.rf⟩)
  ·
    refine a_iload_n C dX11_inHand_4 (i := 1) rfl rfl ?_
    refine s_bipush C dX11_inHand_5 (60) (by decide) (fun z4 h5 => ?_)
    refine s_ic_le C dX11_inHand_7 (tgt := 12) rfl (fun c6 => ?_) (fun c6 => ?_)
    ·
      refine a_aload_n C dX11_inHand_12 (i := 0) rfl rfl ?_
      refine a_iload_n C dX11_inHand_13 (i := 1) rfl rfl ?_
      refine s_iconst C dX11_inHand_14 (1) (by decide) (fun z7 h8 => ?_)
      refine s_iadd C dX11_inHand_15 (by omega) (fun z9 h10 => ?_)
      refine a_callVv C (i := 0) kd_0 (hid 0 (by decide)) ⟨_, _, rfl⟩ (by decide) (S_X11_findHands_0_t30 (x1 := z9) hid hG htx0 htx1 (by omega)) mi_X11_findHands ml_RX11_279 rfl rfl (Nat.le_of_ble_eq_true rfl) (Nat.le_of_ble_eq_true rfl) (Nat.le_of_ble_eq_true rfl) dX11_inHand_16 (fun σ12 q13 => ?_)
      obtain ⟨hG14, ho15⟩ := q13
      refine a_aload_n C dX11_inHand_19 (i := 0) rfl rfl ?_
      refine a_get C fl_RX11_69 (i := 0) kd_0 (hid 0 (by decide)) (v := .ref (ad 27)) rfl dX11_inHand_20 ?_
      refine a_iload_n C dX11_inHand_23 (i := 1) rfl rfl ?_
      refine s_iald C (i := 27) kd_27 (hid 27 (by decide)) al_27 (by omega) (by omega) dX11_inHand_24 (fun n17 h18 => ?_)
      refine s_val (fun z19 e20 => ?_)
      refine s_iconst C dX11_inHand_25 (-1) (by decide) (fun z21 h22 => ?_)
      refine s_ic_ne C dX11_inHand_26 (tgt := 34) rfl (fun c23 => ?_) (fun c23 => ?_)
      ·
        refine a_aload_n C dX11_inHand_34 (i := 0) rfl rfl ?_
        refine a_get C fl_RX11_69 (i := 0) kd_0 (hid 0 (by decide)) (v := .ref (ad 27)) rfl dX11_inHand_35 ?_
        refine a_iload_n C dX11_inHand_38 (i := 1) rfl rfl ?_
        refine s_iald C (i := 27) kd_27 (hid 27 (by decide)) al_27 (by omega) (by omega) dX11_inHand_39 (fun n24 h25 => ?_)
        refine s_val (fun z26 e27 => ?_)
        have g28 : z26.toInt = z19.toInt := congrArg Int32.toInt (e27.symm.trans ((congrArg (σ12.1 27) (show n24 = n17 by omega)).trans e20))
        exact a_iret Rt dX11_inHand_40 rfl (⟨hG14, (ony.tr ony.rf (ony.mono ho15 (by decide)))⟩)
      ·
        refine s_bipush C dX11_inHand_29 (-2) (by decide) (fun z29 h30 => ?_)
        refine a_goto C dX11_inHand_31 (tgt := 40) rfl ?_
        exact a_iret Rt dX11_inHand_40 rfl (⟨hG14, (ony.tr ony.rf (ony.mono ho15 (by decide)))⟩)
    ·
      refine s_iconst C dX11_inHand_10 (-1) (by decide) (fun z31 h32 => ?_)
      exact a_iret Rt dX11_inHand_11 rfl (⟨hG, ony.rf⟩)
theorem dX11_firstClash_18 : decode cX11_firstClash 18 = .ok (.iload_n 2, 1) := by decide +kernel
theorem dX11_firstClash_19 : decode cX11_firstClash 19 = .ok (.ireturn, 1) := by decide +kernel
set_option maxHeartbeats 4000000 in
set_option maxRecDepth 100000 in
theorem S_X11_firstClash_0_t30 {l : Launch} {D : va_G} {ids : List Nat} {ad : Nat → Nat} {ca : Nat → ClassId} {σ : HS} {x1 : Int32} (hid : ∀ i, i < 277 → i ∈ ids) (hG : GIc σ) (htx0 : σ.2.2 0 = 30) (htx1 : σ.2.2 1 = 43) (hx1 : 0 ≤ x1.toInt ∧ x1.toInt ≤ 60) : Ki l D ids ad ca yX11_firstClash cX11_firstClash 3 .int 6 146 [.ref (ad 0), .int x1] σ (fun r σ1 => (GIc σ1) ∧ (ony [9, 10, 11, 60, 61, 62, 63] σ σ1)) := by
  refine Ki.of (by decide) (Nat.le_of_ble_eq_true rfl) 1 (fun Γ C Rt => ?_)
  show AW ids ad ca Γ 0 [some (.ref (ad 0)), some (.int x1), none] [] σ
  have j2 : ∀ (d2 : Nat) (σq2 : HS) (y2_2 : Int32), 61 - y2_2.toInt < d2 → GIc σq2 → ony [9, 10, 11, 60, 61, 62, 63] σ σq2 → 0 ≤ y2_2.toInt ∧ y2_2.toInt ≤ 61 → AW ids ad ca Γ 2 [some (.ref (ad 0)), some (.int x1), some (.int y2_2)] [] σq2 := by
    intro d2
    induction d2 with
    | zero =>
      intro σq2 y2_2 hd2 hGq2 hoq2 hx2_0
      exfalso
      omega
    | succ d2 ih2 =>
      intro σq2 y2_2 hd2 hGq2 hoq2 hx2_0
      refine a_iload_n C dX11_firstClash_2 (i := 2) rfl rfl ?_
      refine a_iload_n C dX11_firstClash_3 (i := 1) rfl rfl ?_
      refine s_ic_gt C dX11_firstClash_4 (tgt := 41) rfl (fun c1 => ?_) (fun c1 => ?_)
      ·
        refine s_bipush C dX11_firstClash_41 (-2) (by decide) (fun z2 h3 => ?_)
        exact a_iret Rt dX11_firstClash_43 rfl (⟨hGq2, hoq2⟩)
      ·
        refine a_aload_n C dX11_firstClash_7 (i := 0) rfl rfl ?_
        refine a_get C fl_RX11_58 (i := 0) kd_0 (hid 0 (by decide)) (v := .ref (ad 60)) rfl dX11_firstClash_8 ?_
        refine a_callVi C (i := 60) kd_60 (hid 60 (by decide)) ⟨_, _, rfl⟩ (by decide) (S_X0_howManyLand_60 hid hGq2) mi_X0_howManyLand ml_RX11_292 rfl rfl (Nat.le_of_ble_eq_true rfl) (Nat.le_of_ble_eq_true rfl) (Nat.le_of_ble_eq_true rfl) dX11_firstClash_11 (fun z4 σ5 q6 => ?_)
        rw [q6]
        refine s_iconst C dX11_firstClash_14 (1) (by decide) (fun z7 h8 => ?_)
        refine s_ic_le C dX11_firstClash_15 (tgt := 20) rfl (fun c9 => ?_) (fun c9 => ?_)
        ·
          refine a_aload_n C dX11_firstClash_20 (i := 0) rfl rfl ?_
          refine a_get C fl_RX11_19 (i := 0) kd_0 (hid 0 (by decide)) (v := .ref (ad 8)) rfl dX11_firstClash_21 ?_
          refine a_aload_n C dX11_firstClash_24 (i := 0) rfl rfl ?_
          refine a_get C fl_RX11_82 (i := 0) kd_0 (hid 0 (by decide)) (v := .ref (ad 30)) (congrArg (fun z => some (Value.ref (ad z))) ((congrFun hoq2.2 0).trans htx0)) dX11_firstClash_25 ?_
          refine a_aload_n C dX11_firstClash_28 (i := 0) rfl rfl ?_
          refine a_get C fl_RX11_58 (i := 0) kd_0 (hid 0 (by decide)) (v := .ref (ad 60)) rfl dX11_firstClash_29 ?_
          refine a_callVv C (i := 8) kd_8 (hid 8 (by decide)) ⟨_, _, rfl⟩ (by decide) (S_X4_goOnSafely_8_30_60 hid hGq2) mi_X4_goOnSafely ml_RX11_285 rfl rfl (Nat.le_of_ble_eq_true rfl) (Nat.le_of_ble_eq_true rfl) (Nat.le_of_ble_eq_true rfl) dX11_firstClash_32 (fun σ11 q12 => ?_)
          obtain ⟨hG13, ho14⟩ := q12
          refine s_iinc C dX11_firstClash_35 rfl (1) (by decide) (by omega) (by decide) rfl (fun z16 h17 => ?_)
          show AW ids ad ca Γ 38 [some (.ref (ad 0)), some (.int x1), some (.int z16)] _ _
          refine a_goto C dX11_firstClash_38 (tgt := 2) rfl ?_
          exact ih2 _ z16 (by omega) hG13 (ony.tr hoq2 (ony.mono ho14 (by decide))) (by omega)
        ·
          refine a_iload_n C dX11_firstClash_18 (i := 2) rfl rfl ?_
          exact a_iret Rt dX11_firstClash_19 rfl (⟨hGq2, hoq2⟩)
  refine s_iconst C dX11_firstClash_0 (0) (by decide) (fun z18 h19 => ?_)
  refine a_istore_n C dX11_firstClash_1 (i := 2) rfl (by decide) rfl (vs1 := [some (.ref (ad 0)), some (.int x1), some (.int z18)]) rfl ?_
  exact j2 100000 _ z18 (by omega) hG ony.rf (by omega)
set_option maxHeartbeats 4000000 in
set_option maxRecDepth 100000 in
theorem S_X11_clash_0_t30 {l : Launch} {D : va_G} {ids : List Nat} {ad : Nat → Nat} {ca : Nat → ClassId} {σ : HS} (hid : ∀ i, i < 277 → i ∈ ids) (hG : GIc σ) (htx0 : σ.2.2 0 = 30) (htx1 : σ.2.2 1 = 43) : Ki l D ids ad ca yX11_clash cX11_clash 1 .int 7 168 [.ref (ad 0)] σ (fun r σ1 => (GIc σ1) ∧ (ony [9, 10, 11, 60, 61, 62, 63] σ σ1)) := by
  refine Ki.of (by decide) (Nat.le_of_ble_eq_true rfl) 0 (fun Γ C Rt => ?_)
  show AW ids ad ca Γ 0 [some (.ref (ad 0))] [] σ
  refine a_aload_n C dX11_clash_0 (i := 0) rfl rfl ?_
  refine a_get C fl_RX11_58 (i := 0) kd_0 (hid 0 (by decide)) (v := .ref (ad 60)) rfl dX11_clash_1 ?_
  refine a_aload_n C dX11_clash_4 (i := 0) rfl rfl ?_
  refine a_get C fl_RX11_54 (i := 0) kd_0 (hid 0 (by decide)) (v := .ref (ad 56)) rfl dX11_clash_5 ?_
  refine a_callVv C (i := 60) (n0 := 0) kd_60 (hid 60 (by decide)) ⟨_, _, rfl⟩ (by decide) (S_copy 0 1 rfl rfl (by decide) (by decide) hid hG) mi_X0_copy ml_RX11_230 rfl rfl (Nat.le_of_ble_eq_true rfl) (Nat.le_of_ble_eq_true rfl) (Nat.le_of_ble_eq_true rfl) dX11_clash_8 (fun σ1 q2 => ?_)
  obtain ⟨hG3, ho4⟩ := q2
  refine a_aload_n C dX11_clash_11 (i := 0) rfl rfl ?_
  refine s_bipush C dX11_clash_12 (60) (by decide) (fun z5 h6 => ?_)
  refine a_callVi C (i := 0) kd_0 (hid 0 (by decide)) ⟨_, _, rfl⟩ (by decide) (S_X11_firstClash_0_t30 (x1 := z5) hid hG3 ((congrFun ho4.2 0).trans htx0) ((congrFun ho4.2 1).trans htx1) (by omega)) mi_X11_firstClash ml_RX11_289 rfl rfl (Nat.le_of_ble_eq_true rfl) (Nat.le_of_ble_eq_true rfl) (Nat.le_of_ble_eq_true rfl) dX11_clash_14 (fun z7 σ8 q9 => ?_)
  obtain ⟨hG10, ho11⟩ := q9
  exact a_iret Rt dX11_clash_17 rfl (⟨hG10, (ony.tr (ony.tr ony.rf (ony.mono ho4 (by decide))) (ony.mono ho11 (by decide)))⟩)
theorem dX11_gap_31 : decode cX11_gap 31 = .ok (.aload_n 0, 1) := by decide +kernel
theorem dX11_gap_32 : decode cX11_gap 32 = .ok (.getfield 19, 3) := by decide +kernel
theorem dX11_gap_35 : decode cX11_gap 35 = .ok (.aload_n 0, 1) := by decide +kernel
theorem dX11_gap_36 : decode cX11_gap 36 = .ok (.getfield 82, 3) := by decide +kernel
theorem dX11_gap_39 : decode cX11_gap 39 = .ok (.aload_n 0, 1) := by decide +kernel
theorem dX11_gap_40 : decode cX11_gap 40 = .ok (.getfield 58, 3) := by decide +kernel
theorem dX11_gap_43 : decode cX11_gap 43 = .ok (.invokevirtual 285, 3) := by decide +kernel
theorem dX11_gap_46 : decode cX11_gap 46 = .ok (.iinc 1 1, 3) := by decide +kernel
theorem dX11_gap_49 : decode cX11_gap 49 = .ok (.goto (-36), 3) := by decide +kernel
theorem dX11_gap_52 : decode cX11_gap 52 = .ok (.bipush (-2), 2) := by decide +kernel
theorem dX11_gap_54 : decode cX11_gap 54 = .ok (.ireturn, 1) := by decide +kernel
set_option maxHeartbeats 4000000 in
set_option maxRecDepth 100000 in
theorem S_X11_gap_0_t30 {l : Launch} {D : va_G} {ids : List Nat} {ad : Nat → Nat} {ca : Nat → ClassId} {σ : HS} (hid : ∀ i, i < 277 → i ∈ ids) (hG : GIc σ) (htx0 : σ.2.2 0 = 30) (htx1 : σ.2.2 1 = 43) : Ki l D ids ad ca yX11_gap cX11_gap 2 .int 6 146 [.ref (ad 0)] σ (fun r σ1 => (GIc σ1) ∧ (ony [9, 10, 11, 60, 61, 62, 63] σ σ1)) := by
  refine Ki.of (by decide) (Nat.le_of_ble_eq_true rfl) 1 (fun Γ C Rt => ?_)
  show AW ids ad ca Γ 0 [some (.ref (ad 0)), none] [] σ
  have j13 : ∀ (d13 : Nat) (σq13 : HS) (y13_1 : Int32), 61 - y13_1.toInt < d13 → GIc σq13 → ony [9, 10, 11, 60, 61, 62, 63] σ σq13 → 0 ≤ y13_1.toInt ∧ y13_1.toInt ≤ 61 → AW ids ad ca Γ 13 [some (.ref (ad 0)), some (.int y13_1)] [] σq13 := by
    intro d13
    induction d13 with
    | zero =>
      intro σq13 y13_1 hd13 hGq13 hoq13 hx13_0
      exfalso
      omega
    | succ d13 ih13 =>
      intro σq13 y13_1 hd13 hGq13 hoq13 hx13_0
      refine a_iload_n C dX11_gap_13 (i := 1) rfl rfl ?_
      refine s_bipush C dX11_gap_14 (60) (by decide) (fun z1 h2 => ?_)
      refine s_ic_gt C dX11_gap_16 (tgt := 52) rfl (fun c3 => ?_) (fun c3 => ?_)
      ·
        refine s_bipush C dX11_gap_52 (-2) (by decide) (fun z4 h5 => ?_)
        exact a_iret Rt dX11_gap_54 rfl (⟨hGq13, hoq13⟩)
      ·
        refine a_aload_n C dX11_gap_19 (i := 0) rfl rfl ?_
        refine a_get C fl_RX11_58 (i := 0) kd_0 (hid 0 (by decide)) (v := .ref (ad 60)) rfl dX11_gap_20 ?_
        refine a_callVi C (i := 60) kd_60 (hid 60 (by decide)) ⟨_, _, rfl⟩ (by decide) (S_X0_howManyLand_60 hid hGq13) mi_X0_howManyLand ml_RX11_292 rfl rfl (Nat.le_of_ble_eq_true rfl) (Nat.le_of_ble_eq_true rfl) (Nat.le_of_ble_eq_true rfl) dX11_gap_23 (fun z6 σ7 q8 => ?_)
        rw [q8]
        refine s_if_ne C dX11_gap_26 (tgt := 31) rfl (fun c9 => ?_) (fun c9 => ?_)
        ·
          refine a_aload_n C dX11_gap_31 (i := 0) rfl rfl ?_
          refine a_get C fl_RX11_19 (i := 0) kd_0 (hid 0 (by decide)) (v := .ref (ad 8)) rfl dX11_gap_32 ?_
          refine a_aload_n C dX11_gap_35 (i := 0) rfl rfl ?_
          refine a_get C fl_RX11_82 (i := 0) kd_0 (hid 0 (by decide)) (v := .ref (ad 30)) (congrArg (fun z => some (Value.ref (ad z))) ((congrFun hoq13.2 0).trans htx0)) dX11_gap_36 ?_
          refine a_aload_n C dX11_gap_39 (i := 0) rfl rfl ?_
          refine a_get C fl_RX11_58 (i := 0) kd_0 (hid 0 (by decide)) (v := .ref (ad 60)) rfl dX11_gap_40 ?_
          refine a_callVv C (i := 8) kd_8 (hid 8 (by decide)) ⟨_, _, rfl⟩ (by decide) (S_X4_goOnSafely_8_30_60 hid hGq13) mi_X4_goOnSafely ml_RX11_285 rfl rfl (Nat.le_of_ble_eq_true rfl) (Nat.le_of_ble_eq_true rfl) (Nat.le_of_ble_eq_true rfl) dX11_gap_43 (fun σ11 q12 => ?_)
          obtain ⟨hG13, ho14⟩ := q12
          refine s_iinc C dX11_gap_46 rfl (1) (by decide) (by omega) (by decide) rfl (fun z16 h17 => ?_)
          show AW ids ad ca Γ 49 [some (.ref (ad 0)), some (.int z16)] _ _
          refine a_goto C dX11_gap_49 (tgt := 13) rfl ?_
          exact ih13 _ z16 (by omega) hG13 (ony.tr hoq13 (ony.mono ho14 (by decide))) (by omega)
        ·
          refine a_iload_n C dX11_gap_29 (i := 1) rfl rfl ?_
          exact a_iret Rt dX11_gap_30 rfl (⟨hGq13, hoq13⟩)
  refine a_aload_n C dX11_gap_0 (i := 0) rfl rfl ?_
  refine a_get C fl_RX11_58 (i := 0) kd_0 (hid 0 (by decide)) (v := .ref (ad 60)) rfl dX11_gap_1 ?_
  refine a_aload_n C dX11_gap_4 (i := 0) rfl rfl ?_
  refine a_get C fl_RX11_54 (i := 0) kd_0 (hid 0 (by decide)) (v := .ref (ad 56)) rfl dX11_gap_5 ?_
  refine a_callVv C (i := 60) (n0 := 0) kd_60 (hid 60 (by decide)) ⟨_, _, rfl⟩ (by decide) (S_copy 0 1 rfl rfl (by decide) (by decide) hid hG) mi_X0_copy ml_RX11_230 rfl rfl (Nat.le_of_ble_eq_true rfl) (Nat.le_of_ble_eq_true rfl) (Nat.le_of_ble_eq_true rfl) dX11_gap_8 (fun σ18 q19 => ?_)
  obtain ⟨hG20, ho21⟩ := q19
  refine s_iconst C dX11_gap_11 (0) (by decide) (fun z22 h23 => ?_)
  refine a_istore_n C dX11_gap_12 (i := 1) rfl (by decide) rfl (vs1 := [some (.ref (ad 0)), some (.int z22)]) rfl ?_
  exact j13 100000 _ z22 (by omega) hG20 (ony.tr ony.rf (ony.mono ho21 (by decide))) (by omega)
theorem dX11_room_11 : decode cX11_room 11 = .ok (.aload_n 0, 1) := by decide +kernel
theorem dX11_room_12 : decode cX11_room 12 = .ok (.getfield 54, 3) := by decide +kernel
theorem dX11_room_15 : decode cX11_room 15 = .ok (.iload_n 1, 1) := by decide +kernel
theorem dX11_room_16 : decode cX11_room 16 = .ok (.invokevirtual 134, 3) := by decide +kernel
theorem dX11_room_19 : decode cX11_room 19 = .ok (.ifCond .eq 5, 3) := by decide +kernel
theorem dX11_room_24 : decode cX11_room 24 = .ok (.iconst 0, 1) := by decide +kernel
theorem dX11_room_25 : decode cX11_room 25 = .ok (.istore_n 2, 1) := by decide +kernel
theorem dX11_room_26 : decode cX11_room 26 = .ok (.iload_n 2, 1) := by decide +kernel
theorem dX11_room_27 : decode cX11_room 27 = .ok (.bipush 9, 2) := by decide +kernel
theorem dX11_room_29 : decode cX11_room 29 = .ok (.if_icmp .gt 42, 3) := by decide +kernel
theorem dX11_room_32 : decode cX11_room 32 = .ok (.aload_n 0, 1) := by decide +kernel
theorem dX11_room_33 : decode cX11_room 33 = .ok (.getfield 58, 3) := by decide +kernel
theorem dX11_room_36 : decode cX11_room 36 = .ok (.aload_n 0, 1) := by decide +kernel
theorem dX11_room_37 : decode cX11_room 37 = .ok (.getfield 54, 3) := by decide +kernel
theorem dX11_room_40 : decode cX11_room 40 = .ok (.invokevirtual 230, 3) := by decide +kernel
theorem dX11_room_43 : decode cX11_room 43 = .ok (.aload_n 0, 1) := by decide +kernel
theorem dX11_room_44 : decode cX11_room 44 = .ok (.getfield 58, 3) := by decide +kernel
theorem dX11_room_47 : decode cX11_room 47 = .ok (.iload_n 1, 1) := by decide +kernel
theorem dX11_room_48 : decode cX11_room 48 = .ok (.iload_n 2, 1) := by decide +kernel
theorem dX11_room_49 : decode cX11_room 49 = .ok (.invokevirtual 210, 3) := by decide +kernel
theorem dX11_room_52 : decode cX11_room 52 = .ok (.aload_n 0, 1) := by decide +kernel
theorem dX11_room_53 : decode cX11_room 53 = .ok (.bipush 59, 2) := by decide +kernel
theorem dX11_room_55 : decode cX11_room 55 = .ok (.invokevirtual 289, 3) := by decide +kernel
theorem dX11_room_58 : decode cX11_room 58 = .ok (.bipush (-2), 2) := by decide +kernel
theorem dX11_room_60 : decode cX11_room 60 = .ok (.if_icmp .ne 5, 3) := by decide +kernel
theorem dX11_room_63 : decode cX11_room 63 = .ok (.iload_n 2, 1) := by decide +kernel
theorem dX11_room_64 : decode cX11_room 64 = .ok (.ireturn, 1) := by decide +kernel
theorem dX11_room_65 : decode cX11_room 65 = .ok (.iinc 2 1, 3) := by decide +kernel
theorem dX11_room_68 : decode cX11_room 68 = .ok (.goto (-42), 3) := by decide +kernel
theorem dX11_room_71 : decode cX11_room 71 = .ok (.bipush (-2), 2) := by decide +kernel
theorem dX11_room_73 : decode cX11_room 73 = .ok (.ireturn, 1) := by decide +kernel
set_option maxHeartbeats 4000000 in
set_option maxRecDepth 100000 in
theorem S_X11_room_0_t30 {l : Launch} {D : va_G} {ids : List Nat} {ad : Nat → Nat} {ca : Nat → ClassId} {σ : HS} {x1 : Int32} (hid : ∀ i, i < 277 → i ∈ ids) (hG : GIc σ) (htx0 : σ.2.2 0 = 30) (htx1 : σ.2.2 1 = 43) : Ki l D ids ad ca yX11_room cX11_room 3 .int 7 168 [.ref (ad 0), .int x1] σ (fun r σ1 => (GIc σ1) ∧ (ony [9, 10, 11, 60, 61, 62, 63] σ σ1)) := by
  refine Ki.of (by decide) (Nat.le_of_ble_eq_true rfl) 1 (fun Γ C Rt => ?_)
  show AW ids ad ca Γ 0 [some (.ref (ad 0)), some (.int x1), none] [] σ
  have j26 : ∀ (d26 : Nat) (σq26 : HS) (y26_2 : Int32), 10 - y26_2.toInt < d26 → GIc σq26 → ony [9, 10, 11, 60, 61, 62, 63] σ σq26 → 0 ≤ y26_2.toInt ∧ y26_2.toInt ≤ 10 → 0 ≤ x1.toInt ∧ x1.toInt ≤ 6 → AW ids ad ca Γ 26 [some (.ref (ad 0)), some (.int x1), some (.int y26_2)] [] σq26 := by
    intro d26
    induction d26 with
    | zero =>
      intro σq26 y26_2 hd26 hGq26 hoq26 hx26_0 hx26_1
      exfalso
      omega
    | succ d26 ih26 =>
      intro σq26 y26_2 hd26 hGq26 hoq26 hx26_0 hx26_1
      refine a_iload_n C dX11_room_26 (i := 2) rfl rfl ?_
      refine s_bipush C dX11_room_27 (9) (by decide) (fun z1 h2 => ?_)
      refine s_ic_gt C dX11_room_29 (tgt := 71) rfl (fun c3 => ?_) (fun c3 => ?_)
      ·
        refine s_bipush C dX11_room_71 (-2) (by decide) (fun z4 h5 => ?_)
        exact a_iret Rt dX11_room_73 rfl (⟨hGq26, hoq26⟩)
      ·
        refine a_aload_n C dX11_room_32 (i := 0) rfl rfl ?_
        refine a_get C fl_RX11_58 (i := 0) kd_0 (hid 0 (by decide)) (v := .ref (ad 60)) rfl dX11_room_33 ?_
        refine a_aload_n C dX11_room_36 (i := 0) rfl rfl ?_
        refine a_get C fl_RX11_54 (i := 0) kd_0 (hid 0 (by decide)) (v := .ref (ad 56)) rfl dX11_room_37 ?_
        refine a_callVv C (i := 60) (n0 := 0) kd_60 (hid 60 (by decide)) ⟨_, _, rfl⟩ (by decide) (S_copy 0 1 rfl rfl (by decide) (by decide) hid hGq26) mi_X0_copy ml_RX11_230 rfl rfl (Nat.le_of_ble_eq_true rfl) (Nat.le_of_ble_eq_true rfl) (Nat.le_of_ble_eq_true rfl) dX11_room_40 (fun σ6 q7 => ?_)
        obtain ⟨hG8, ho9⟩ := q7
        refine a_aload_n C dX11_room_43 (i := 0) rfl rfl ?_
        refine a_get C fl_RX11_58 (i := 0) kd_0 (hid 0 (by decide)) (v := .ref (ad 60)) rfl dX11_room_44 ?_
        refine a_iload_n C dX11_room_47 (i := 1) rfl rfl ?_
        refine a_iload_n C dX11_room_48 (i := 2) rfl rfl ?_
        refine a_callVv C (i := 60) kd_60 (hid 60 (by decide)) ⟨_, _, rfl⟩ (by decide) (S_X0_putUp_60 (x1 := x1) (x2 := y26_2) hid hG8 (by omega)) mi_X0_putUp ml_RX11_210 rfl rfl (Nat.le_of_ble_eq_true rfl) (Nat.le_of_ble_eq_true rfl) (Nat.le_of_ble_eq_true rfl) dX11_room_49 (fun σ11 q12 => ?_)
        obtain ⟨hG13, ho14⟩ := q12
        refine a_aload_n C dX11_room_52 (i := 0) rfl rfl ?_
        refine s_bipush C dX11_room_53 (59) (by decide) (fun z16 h17 => ?_)
        refine a_callVi C (i := 0) kd_0 (hid 0 (by decide)) ⟨_, _, rfl⟩ (by decide) (S_X11_firstClash_0_t30 (x1 := z16) hid hG13 ((congrFun ho14.2 0).trans ((congrFun ho9.2 0).trans ((congrFun hoq26.2 0).trans htx0))) ((congrFun ho14.2 1).trans ((congrFun ho9.2 1).trans ((congrFun hoq26.2 1).trans htx1))) (by omega)) mi_X11_firstClash ml_RX11_289 rfl rfl (Nat.le_of_ble_eq_true rfl) (Nat.le_of_ble_eq_true rfl) (Nat.le_of_ble_eq_true rfl) dX11_room_55 (fun z18 σ19 q20 => ?_)
        obtain ⟨hG21, ho22⟩ := q20
        refine s_bipush C dX11_room_58 (-2) (by decide) (fun z24 h25 => ?_)
        refine s_ic_ne C dX11_room_60 (tgt := 65) rfl (fun c26 => ?_) (fun c26 => ?_)
        ·
          refine s_iinc C dX11_room_65 rfl (1) (by decide) (by omega) (by decide) rfl (fun z27 h28 => ?_)
          show AW ids ad ca Γ 68 [some (.ref (ad 0)), some (.int x1), some (.int z27)] _ _
          refine a_goto C dX11_room_68 (tgt := 26) rfl ?_
          exact ih26 _ z27 (by omega) hG21 (ony.tr (ony.tr (ony.tr hoq26 (ony.mono ho9 (by decide))) (ony.mono ho14 (by decide))) (ony.mono ho22 (by decide))) (by omega) (by omega)
        ·
          refine a_iload_n C dX11_room_63 (i := 2) rfl rfl ?_
          exact a_iret Rt dX11_room_64 rfl (⟨hG21, (ony.tr (ony.tr (ony.tr hoq26 (ony.mono ho9 (by decide))) (ony.mono ho14 (by decide))) (ony.mono ho22 (by decide)))⟩)
  refine a_aload_n C dX11_room_0 (i := 0) rfl rfl ?_
  refine a_get C fl_RX11_82 (i := 0) kd_0 (hid 0 (by decide)) (v := .ref (ad 30)) (congrArg (fun z => some (Value.ref (ad z))) htx0) dX11_room_1 ?_
  refine a_iload_n C dX11_room_4 (i := 1) rfl rfl ?_
  refine a_callVi C (i := 30) kd_30 (hid 30 (by decide)) ⟨_, _, rfl⟩ (by decide) (S_X10_hasThing_30 (x1 := x1) hid hG) mi_X10_hasThing ml_RX11_121 rfl rfl (Nat.le_of_ble_eq_true rfl) (Nat.le_of_ble_eq_true rfl) (Nat.le_of_ble_eq_true rfl) dX11_room_5 (fun z29 σ30 q31 => ?_)
  obtain ⟨w32, w33, w34⟩ := q31
  rw [w32]
  refine s_if_eq C dX11_room_8 (tgt := 22) rfl (fun c35 => ?_) (fun c35 => ?_)
  ·
    refine s_iconst C dX11_room_22 (-1) (by decide) (fun z36 h37 => ?_)
    exact a_iret Rt dX11_room_23 rfl (⟨hG, ony.rf⟩)
  ·
    refine a_aload_n C dX11_room_11 (i := 0) rfl rfl ?_
    refine a_get C fl_RX11_54 (i := 0) kd_0 (hid 0 (by decide)) (v := .ref (ad 56)) rfl dX11_room_12 ?_
    refine a_iload_n C dX11_room_15 (i := 1) rfl rfl ?_
    refine a_callVi C (i := 56) kd_56 (hid 56 (by decide)) ⟨_, _, rfl⟩ (by decide) (S_X0_isUp_56 (x1 := x1) hid hG (by omega)) mi_X0_isUp ml_RX11_134 rfl rfl (Nat.le_of_ble_eq_true rfl) (Nat.le_of_ble_eq_true rfl) (Nat.le_of_ble_eq_true rfl) dX11_room_16 (fun z38 σ39 q40 => ?_)
    obtain ⟨w41, w42⟩ := q40
    rw [w41]
    refine s_if_eq C dX11_room_19 (tgt := 24) rfl (fun c43 => ?_) (fun c43 => ?_)
    ·
      refine s_iconst C dX11_room_24 (0) (by decide) (fun z44 h45 => ?_)
      refine a_istore_n C dX11_room_25 (i := 2) rfl (by decide) rfl (vs1 := [some (.ref (ad 0)), some (.int x1), some (.int z44)]) rfl ?_
      exact j26 100000 _ z44 (by omega) hG ony.rf (by omega) (by omega)
    ·
      refine s_iconst C dX11_room_22 (-1) (by decide) (fun z46 h47 => ?_)
      exact a_iret Rt dX11_room_23 rfl (⟨hG, ony.rf⟩)
set_option maxHeartbeats 4000000 in
set_option maxRecDepth 100000 in
theorem S_J7_fill_53178_28 {l : Launch} {D : va_G} {ids : List Nat} {ad : Nat → Nat} {ca : Nat → ClassId} {σ : HS} {x2 : Int32} (hid : ∀ i, i < 277 → i ∈ ids) (hG : GIc σ) : Kv l D ids ad ca yJ7_fill_53178 cJ7_fill_53178 4 0 0 [.ref (ad 28), .int x2] σ (fun σ1 => (GIc σ1) ∧ (ony [28] σ σ1)) := by
  refine Kv.of (by decide) (Nat.le_of_ble_eq_true rfl) 2 (fun Γ C Rt => ?_)
  show AW ids ad ca Γ 0 [some (.ref (ad 28)), some (.int x2), none, none] [] σ
  have j5 : ∀ (d5 : Nat) (σq5 : HS) (y5_2 : Int32) (y5_3 : Int32), 7 - y5_2.toInt < d5 → GIc σq5 → ony [28] σ σq5 → 0 ≤ y5_2.toInt ∧ y5_2.toInt ≤ 7 → 7 ≤ y5_3.toInt ∧ y5_3.toInt ≤ 7 → AW ids ad ca Γ 5 [some (.ref (ad 28)), some (.int x2), some (.int y5_2), some (.int y5_3)] [] σq5 := by
    intro d5
    induction d5 with
    | zero =>
      intro σq5 y5_2 y5_3 hd5 hGq5 hoq5 hx5_0 hx5_1
      exfalso
      omega
    | succ d5 ih5 =>
      intro σq5 y5_2 y5_3 hd5 hGq5 hoq5 hx5_0 hx5_1
      refine a_iload_n C dJ7_fill_53178_5 (i := 2) rfl rfl ?_
      refine a_iload_n C dJ7_fill_53178_6 (i := 3) rfl rfl ?_
      refine s_ic_ge C dJ7_fill_53178_7 (tgt := 20) rfl (fun c1 => ?_) (fun c1 => ?_)
      ·
        exact a_vret Rt dJ7_fill_53178_20 (⟨hGq5, hoq5⟩)
      ·
        refine a_aload_n C dJ7_fill_53178_10 (i := 0) rfl rfl ?_
        refine a_iload_n C dJ7_fill_53178_11 (i := 2) rfl rfl ?_
        refine a_iload_n C dJ7_fill_53178_12 (i := 1) rfl rfl ?_
        refine s_iast C (i := 28) kd_28 (hid 28 (by decide)) al_28 (by omega) (by omega) dJ7_fill_53178_13 (fun n2 h3 => ?_)
        have hG4 := wA_28 (v := x2) (j := n2) hGq5
        refine s_iinc C dJ7_fill_53178_14 rfl (1) (by decide) (by omega) (by decide) rfl (fun z5 h6 => ?_)
        show AW ids ad ca Γ 17 [some (.ref (ad 28)), some (.int x2), some (.int z5), some (.int y5_3)] _ _
        refine a_goto C dJ7_fill_53178_17 (tgt := 5) rfl ?_
        exact ih5 _ z5 y5_3 (by omega) hG4 (ony.I hoq5 (by decide)) (by omega) (by omega)
  refine s_iconst C dJ7_fill_53178_0 (0) (by decide) (fun z7 h8 => ?_)
  refine a_istore_n C dJ7_fill_53178_1 (i := 2) rfl (by decide) rfl (vs1 := [some (.ref (ad 28)), some (.int x2), some (.int z7), none]) rfl ?_
  refine a_aload_n C dJ7_fill_53178_2 (i := 0) rfl rfl ?_
  refine s_alen C (by rw [kd_28]; decide) (hid 28 (by decide)) al_28 (by decide) dJ7_fill_53178_3 (fun z9 h10 => ?_)
  refine a_istore_n C dJ7_fill_53178_4 (i := 3) rfl (by decide) rfl (vs1 := [some (.ref (ad 28)), some (.int x2), some (.int z7), some (.int z9)]) rfl ?_
  exact j5 100000 _ z7 z9 (by omega) hG ony.rf (by omega) (by omega)
