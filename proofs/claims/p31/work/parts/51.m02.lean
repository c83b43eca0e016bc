theorem dX12_heightNow_10 : decode cX12_heightNow 10 = .ok (.aload_n 0, 1) := by decide +kernel
theorem dX12_heightNow_11 : decode cX12_heightNow 11 = .ok (.getfield 110, 3) := by decide +kernel
theorem dX12_heightNow_14 : decode cX12_heightNow 14 = .ok (.bipush 28, 2) := by decide +kernel
theorem dX12_heightNow_16 : decode cX12_heightNow 16 = .ok (.iaload, 1) := by decide +kernel
theorem dX12_heightNow_17 : decode cX12_heightNow 17 = .ok (.ireturn, 1) := by decide +kernel
theorem dX12_heightNow_32 : decode cX12_heightNow 32 = .ok (.aload_n 0, 1) := by decide +kernel
theorem dX12_heightNow_33 : decode cX12_heightNow 33 = .ok (.aload_n 0, 1) := by decide +kernel
theorem dX12_heightNow_34 : decode cX12_heightNow 34 = .ok (.getfield 110, 3) := by decide +kernel
theorem dX12_heightNow_37 : decode cX12_heightNow 37 = .ok (.bipush 26, 2) := by decide +kernel
theorem dX12_heightNow_39 : decode cX12_heightNow 39 = .ok (.iaload, 1) := by decide +kernel
theorem dX12_heightNow_40 : decode cX12_heightNow 40 = .ok (.aload_n 0, 1) := by decide +kernel
theorem dX12_heightNow_41 : decode cX12_heightNow 41 = .ok (.getfield 110, 3) := by decide +kernel
theorem dX12_heightNow_44 : decode cX12_heightNow 44 = .ok (.bipush 21, 2) := by decide +kernel
theorem dX12_heightNow_46 : decode cX12_heightNow 46 = .ok (.iaload, 1) := by decide +kernel
theorem dX12_heightNow_47 : decode cX12_heightNow 47 = .ok (.aload_n 0, 1) := by decide +kernel
theorem dX12_heightNow_48 : decode cX12_heightNow 48 = .ok (.getfield 110, 3) := by decide +kernel
theorem dX12_heightNow_51 : decode cX12_heightNow 51 = .ok (.bipush 27, 2) := by decide +kernel
theorem dX12_heightNow_53 : decode cX12_heightNow 53 = .ok (.iaload, 1) := by decide +kernel
theorem dX12_heightNow_54 : decode cX12_heightNow 54 = .ok (.isub, 1) := by decide +kernel
theorem dX12_heightNow_55 : decode cX12_heightNow 55 = .ok (.invokevirtual 321, 3) := by decide +kernel
set_option maxHeartbeats 4000000 in
set_option maxRecDepth 100000 in
theorem S_X12_heightNow_236 {l : Launch} {D : va_G} {ids : List Nat} {ad : Nat → Nat} {ca : Nat → ClassId} {σ : HS} (hid : ∀ i, i < 277 → i ∈ ids) (hG : GIm σ) {b : Int} (hR : RKm b σ) : Ki l D ids ad ca yX12_heightNow cX12_heightNow 1 .int 2 43 [.ref (ad 236)] σ (fun r σ1 => (σ1 = σ)) := by
  refine Ki.of (by decide) (Nat.le_of_ble_eq_true rfl) 0 (fun Γ C Rt => ?_)
  show AW ids ad ca Γ 0 [some (.ref (ad 236))] [] σ
  refine a_aload_n C dX12_heightNow_0 (i := 0) rfl rfl ?_
  refine a_get C fl_RX12_110 (i := 236) kd_236 (hid 236 (by decide)) (v := .ref (ad 267)) rfl dX12_heightNow_1 ?_
  refine s_bipush C dX12_heightNow_4 (28) (by decide) (fun z1 h2 => ?_)
  refine s_iald C (i := 267) kd_267 (hid 267 (by decide)) al_267 (by omega) (by omega) dX12_heightNow_6 (fun n3 h4 => ?_)
  refine s_val (fun z5 e6 => ?_)
  refine s_if_lt C dX12_heightNow_7 (tgt := 18) rfl (fun c7 => ?_) (fun c7 => ?_)
  ·
    refine a_aload_n C dX12_heightNow_18 (i := 0) rfl rfl ?_
    refine a_get C fl_RX12_110 (i := 236) kd_236 (hid 236 (by decide)) (v := .ref (ad 267)) rfl dX12_heightNow_19 ?_
    refine s_bipush C dX12_heightNow_22 (26) (by decide) (fun z8 h9 => ?_)
    refine s_iald C (i := 267) kd_267 (hid 267 (by decide)) al_267 (by omega) (by omega) dX12_heightNow_24 (fun n10 h11 => ?_)
    refine s_val (fun z12 e13 => ?_)
    obtain rfl : n10 = 26 := by omega
    have g14 : z12.toInt = (σ.1 267 26).toInt := congrArg Int32.toInt (e13.symm.trans (rfl : _ = (σ.1 267 26)))
    have g15 := RKm.row hR
    rw [e13] at g15
    have g16 := pl_le hG
    refine s_if_ge C dX12_heightNow_25 (tgt := 32) rfl (fun c17 => ?_) (fun c17 => ?_)
    ·
      refine a_aload_n C dX12_heightNow_32 (i := 0) rfl rfl ?_
      refine a_aload_n C dX12_heightNow_33 (i := 0) rfl rfl ?_
      refine a_get C fl_RX12_110 (i := 236) kd_236 (hid 236 (by decide)) (v := .ref (ad 267)) rfl dX12_heightNow_34 ?_
      refine s_bipush C dX12_heightNow_37 (26) (by decide) (fun z18 h19 => ?_)
      refine s_iald C (i := 267) kd_267 (hid 267 (by decide)) al_267 (by omega) (by omega) dX12_heightNow_39 (fun n20 h21 => ?_)
      refine s_val (fun z22 e23 => ?_)
      obtain rfl : n20 = 26 := by omega
      have g24 : z22.toInt = (σ.1 267 26).toInt := congrArg Int32.toInt (e23.symm.trans (rfl : _ = (σ.1 267 26)))
      have g25 := RKm.row hR
      rw [e23] at g25
      have g26 := pl_le hG
      refine a_aload_n C dX12_heightNow_40 (i := 0) rfl rfl ?_
      refine a_get C fl_RX12_110 (i := 236) kd_236 (hid 236 (by decide)) (v := .ref (ad 267)) rfl dX12_heightNow_41 ?_
      refine s_bipush C dX12_heightNow_44 (21) (by decide) (fun z27 h28 => ?_)
      refine s_iald C (i := 267) kd_267 (hid 267 (by decide)) al_267 (by omega) (by omega) dX12_heightNow_46 (fun n29 h30 => ?_)
      refine s_val (fun z31 e32 => ?_)
      obtain rfl : n29 = 21 := by omega
      have g33 : z31.toInt = (σ.1 267 21).toInt := congrArg Int32.toInt (e32.symm.trans (rfl : _ = (σ.1 267 21)))
      have g34 := RKm.row hR
      rw [e32] at g34
      have g35 := pl_le hG
      refine a_aload_n C dX12_heightNow_47 (i := 0) rfl rfl ?_
      refine a_get C fl_RX12_110 (i := 236) kd_236 (hid 236 (by decide)) (v := .ref (ad 267)) rfl dX12_heightNow_48 ?_
      refine s_bipush C dX12_heightNow_51 (27) (by decide) (fun z36 h37 => ?_)
      refine s_iald C (i := 267) kd_267 (hid 267 (by decide)) al_267 (by omega) (by omega) dX12_heightNow_53 (fun n38 h39 => ?_)
      refine s_val (fun z40 e41 => ?_)
      obtain rfl : n38 = 27 := by omega
      have g42 : z40.toInt = (σ.1 267 27).toInt := congrArg Int32.toInt (e41.symm.trans (rfl : _ = (σ.1 267 27)))
      have g43 := RKm.row hR
      rw [e41] at g43
      have g44 := pl_le hG
      refine s_isub C dX12_heightNow_54 (by omega) (fun z45 h46 => ?_)
      refine a_callVi C (i := 236) kd_236 (hid 236 (by decide)) ⟨_, _, rfl⟩ (by decide) (S_X12_heightAt_236 (x1 := z22) (x2 := z45) hid hG hR (by omega) (by omega) (by omega)) mi_X12_heightAt ml_RX12_321 rfl rfl (Nat.le_of_ble_eq_true rfl) (Nat.le_of_ble_eq_true rfl) (Nat.le_of_ble_eq_true rfl) dX12_heightNow_55 (fun z47 σ48 q49 => ?_)
      obtain ⟨w50, w51⟩ := q49
      rw [w50]
      exact a_iret Rt dX12_heightNow_58 rfl (rfl)
    ·
      refine s_iconst C dX12_heightNow_28 (3) (by decide) (fun z52 h53 => ?_)
      refine a_goto C dX12_heightNow_29 (tgt := 58) rfl ?_
      exact a_iret Rt dX12_heightNow_58 rfl (rfl)
  ·
    refine a_aload_n C dX12_heightNow_10 (i := 0) rfl rfl ?_
    refine a_get C fl_RX12_110 (i := 236) kd_236 (hid 236 (by decide)) (v := .ref (ad 267)) rfl dX12_heightNow_11 ?_
    refine s_bipush C dX12_heightNow_14 (28) (by decide) (fun z54 h55 => ?_)
    refine s_iald C (i := 267) kd_267 (hid 267 (by decide)) al_267 (by omega) (by omega) dX12_heightNow_16 (fun n56 h57 => ?_)
    refine s_val (fun z58 e59 => ?_)
    exact a_iret Rt dX12_heightNow_17 rfl (rfl)
theorem dX12_looksAt_0 : decode cX12_looksAt 0 = .ok (.aload_n 0, 1) := by decide +kernel
theorem dX12_looksAt_1 : decode cX12_looksAt 1 = .ok (.getfield 101, 3) := by decide +kernel
theorem dX12_looksAt_4 : decode cX12_looksAt 4 = .ok (.iconst 0, 1) := by decide +kernel
theorem dX12_looksAt_5 : decode cX12_looksAt 5 = .ok (.aload_n 0, 1) := by decide +kernel
theorem dX12_looksAt_6 : decode cX12_looksAt 6 = .ok (.getfield 46, 3) := by decide +kernel
theorem dX12_looksAt_9 : decode cX12_looksAt 9 = .ok (.bipush 7, 2) := by decide +kernel
theorem dX12_looksAt_11 : decode cX12_looksAt 11 = .ok (.aload_n 0, 1) := by decide +kernel
theorem dX12_looksAt_12 : decode cX12_looksAt 12 = .ok (.getfield 221, 3) := by decide +kernel
theorem dX12_looksAt_15 : decode cX12_looksAt 15 = .ok (.imul, 1) := by decide +kernel
theorem dX12_looksAt_16 : decode cX12_looksAt 16 = .ok (.iload_n 1, 1) := by decide +kernel
theorem dX12_looksAt_17 : decode cX12_looksAt 17 = .ok (.iadd, 1) := by decide +kernel
theorem dX12_looksAt_18 : decode cX12_looksAt 18 = .ok (.iaload, 1) := by decide +kernel
theorem dX12_looksAt_19 : decode cX12_looksAt 19 = .ok (.iastore, 1) := by decide +kernel
theorem dX12_looksAt_20 : decode cX12_looksAt 20 = .ok (.aload_n 0, 1) := by decide +kernel
theorem dX12_looksAt_21 : decode cX12_looksAt 21 = .ok (.getfield 101, 3) := by decide +kernel
theorem dX12_looksAt_24 : decode cX12_looksAt 24 = .ok (.iconst 1, 1) := by decide +kernel
theorem dX12_looksAt_25 : decode cX12_looksAt 25 = .ok (.aload_n 0, 1) := by decide +kernel
theorem dX12_looksAt_26 : decode cX12_looksAt 26 = .ok (.getfield 49, 3) := by decide +kernel
theorem dX12_looksAt_29 : decode cX12_looksAt 29 = .ok (.bipush 7, 2) := by decide +kernel
theorem dX12_looksAt_31 : decode cX12_looksAt 31 = .ok (.aload_n 0, 1) := by decide +kernel
theorem dX12_looksAt_32 : decode cX12_looksAt 32 = .ok (.getfield 221, 3) := by decide +kernel
theorem dX12_looksAt_35 : decode cX12_looksAt 35 = .ok (.imul, 1) := by decide +kernel
theorem dX12_looksAt_36 : decode cX12_looksAt 36 = .ok (.iload_n 1, 1) := by decide +kernel
theorem dX12_looksAt_37 : decode cX12_looksAt 37 = .ok (.iadd, 1) := by decide +kernel
theorem dX12_looksAt_38 : decode cX12_looksAt 38 = .ok (.iaload, 1) := by decide +kernel
theorem dX12_looksAt_39 : decode cX12_looksAt 39 = .ok (.iastore, 1) := by decide +kernel
theorem dX12_looksAt_40 : decode cX12_looksAt 40 = .ok (.aload_n 0, 1) := by decide +kernel
theorem dX12_looksAt_41 : decode cX12_looksAt 41 = .ok (.getfield 101, 3) := by decide +kernel
theorem dX12_looksAt_44 : decode cX12_looksAt 44 = .ok (.iconst 2, 1) := by decide +kernel
theorem dX12_looksAt_45 : decode cX12_looksAt 45 = .ok (.iload_n 2, 1) := by decide +kernel
theorem dX12_looksAt_46 : decode cX12_looksAt 46 = .ok (.iastore, 1) := by decide +kernel
theorem dX12_looksAt_47 : decode cX12_looksAt 47 = .ok (.aload_n 0, 1) := by decide +kernel
theorem dX12_looksAt_48 : decode cX12_looksAt 48 = .ok (.getfield 101, 3) := by decide +kernel
theorem dX12_looksAt_51 : decode cX12_looksAt 51 = .ok (.iconst 3, 1) := by decide +kernel
theorem dX12_looksAt_52 : decode cX12_looksAt 52 = .ok (.aload_n 0, 1) := by decide +kernel
theorem dX12_looksAt_53 : decode cX12_looksAt 53 = .ok (.getfield 110, 3) := by decide +kernel
theorem dX12_looksAt_56 : decode cX12_looksAt 56 = .ok (.bipush 21, 2) := by decide +kernel
theorem dX12_looksAt_58 : decode cX12_looksAt 58 = .ok (.iaload, 1) := by decide +kernel
theorem dX12_looksAt_59 : decode cX12_looksAt 59 = .ok (.iastore, 1) := by decide +kernel
theorem dX12_looksAt_60 : decode cX12_looksAt 60 = .ok (.aload_n 0, 1) := by decide +kernel
theorem dX12_looksAt_61 : decode cX12_looksAt 61 = .ok (.getfield 101, 3) := by decide +kernel
theorem dX12_looksAt_64 : decode cX12_looksAt 64 = .ok (.iconst 4, 1) := by decide +kernel
theorem dX12_looksAt_65 : decode cX12_looksAt 65 = .ok (.aload_n 0, 1) := by decide +kernel
theorem dX12_looksAt_66 : decode cX12_looksAt 66 = .ok (.getfield 110, 3) := by decide +kernel
theorem dX12_looksAt_69 : decode cX12_looksAt 69 = .ok (.bipush 22, 2) := by decide +kernel
theorem dX12_looksAt_71 : decode cX12_looksAt 71 = .ok (.iaload, 1) := by decide +kernel
theorem dX12_looksAt_72 : decode cX12_looksAt 72 = .ok (.iastore, 1) := by decide +kernel
theorem dX12_looksAt_73 : decode cX12_looksAt 73 = .ok (.aload_n 0, 1) := by decide +kernel
theorem dX12_looksAt_74 : decode cX12_looksAt 74 = .ok (.getfield 101, 3) := by decide +kernel
theorem dX12_looksAt_77 : decode cX12_looksAt 77 = .ok (.iconst 5, 1) := by decide +kernel
theorem dX12_looksAt_78 : decode cX12_looksAt 78 = .ok (.iload_n 3, 1) := by decide +kernel
theorem dX12_looksAt_79 : decode cX12_looksAt 79 = .ok (.iastore, 1) := by decide +kernel
theorem dX12_looksAt_80 : decode cX12_looksAt 80 = .ok (.aload_n 0, 1) := by decide +kernel
theorem dX12_looksAt_81 : decode cX12_looksAt 81 = .ok (.getfield 101, 3) := by decide +kernel
theorem dX12_looksAt_84 : decode cX12_looksAt 84 = .ok (.bipush 6, 2) := by decide +kernel
theorem dX12_looksAt_86 : decode cX12_looksAt 86 = .ok (.iload_n 1, 1) := by decide +kernel
theorem dX12_looksAt_87 : decode cX12_looksAt 87 = .ok (.iastore, 1) := by decide +kernel
theorem dX12_looksAt_88 : decode cX12_looksAt 88 = .ok (.aload_n 0, 1) := by decide +kernel
theorem dX12_looksAt_89 : decode cX12_looksAt 89 = .ok (.getfield 101, 3) := by decide +kernel
theorem dX12_looksAt_92 : decode cX12_looksAt 92 = .ok (.bipush 7, 2) := by decide +kernel
theorem dX12_looksAt_94 : decode cX12_looksAt 94 = .ok (.aload_n 0, 1) := by decide +kernel
theorem dX12_looksAt_95 : decode cX12_looksAt 95 = .ok (.getfield 110, 3) := by decide +kernel
theorem dX12_looksAt_98 : decode cX12_looksAt 98 = .ok (.bipush 24, 2) := by decide +kernel
theorem dX12_looksAt_100 : decode cX12_looksAt 100 = .ok (.iaload, 1) := by decide +kernel
theorem dX12_looksAt_101 : decode cX12_looksAt 101 = .ok (.iastore, 1) := by decide +kernel
theorem dX12_looksAt_102 : decode cX12_looksAt 102 = .ok (.aload_n 0, 1) := by decide +kernel
theorem dX12_looksAt_103 : decode cX12_looksAt 103 = .ok (.getfield 101, 3) := by decide +kernel
theorem dX12_looksAt_106 : decode cX12_looksAt 106 = .ok (.bipush 8, 2) := by decide +kernel
theorem dX12_looksAt_108 : decode cX12_looksAt 108 = .ok (.aload_n 0, 1) := by decide +kernel
theorem dX12_looksAt_109 : decode cX12_looksAt 109 = .ok (.getfield 110, 3) := by decide +kernel
theorem dX12_looksAt_112 : decode cX12_looksAt 112 = .ok (.bipush 21, 2) := by decide +kernel
theorem dX12_looksAt_114 : decode cX12_looksAt 114 = .ok (.iaload, 1) := by decide +kernel
theorem dX12_looksAt_115 : decode cX12_looksAt 115 = .ok (.iconst 2, 1) := by decide +kernel
theorem dX12_looksAt_116 : decode cX12_looksAt 116 = .ok (.irem, 1) := by decide +kernel
theorem dX12_looksAt_117 : decode cX12_looksAt 117 = .ok (.iastore, 1) := by decide +kernel
theorem dX12_looksAt_118 : decode cX12_looksAt 118 = .ok (.return_, 1) := by decide +kernel
set_option maxHeartbeats 4000000 in
set_option maxRecDepth 100000 in
theorem S_X12_looksAt_236 {l : Launch} {D : va_G} {ids : List Nat} {ad : Nat → Nat} {ca : Nat → ClassId} {σ : HS} {x1 : Int32} {x2 : Int32} {x3 : Int32} (hid : ∀ i, i < 277 → i ∈ ids) (hG : GIm σ) (hx1 : 0 ≤ x1.toInt ∧ x1.toInt ≤ 6) : Kv l D ids ad ca yX12_looksAt cX12_looksAt 4 0 0 [.ref (ad 236), .int x1, .int x2, .int x3] σ (fun σ1 => (GIm σ1) ∧ (onm [264] σ σ1)) := by
  refine Kv.of (by decide) (Nat.le_of_ble_eq_true rfl) 0 (fun Γ C Rt => ?_)
  show AW ids ad ca Γ 0 [some (.ref (ad 236)), some (.int x1), some (.int x2), some (.int x3)] [] σ
  refine a_aload_n C dX12_looksAt_0 (i := 0) rfl rfl ?_
  refine a_get C fl_RX12_101 (i := 236) kd_236 (hid 236 (by decide)) (v := .ref (ad 264)) rfl dX12_looksAt_1 ?_
  refine s_iconst C dX12_looksAt_4 (0) (by decide) (fun z1 h2 => ?_)
  refine a_aload_n C dX12_looksAt_5 (i := 0) rfl rfl ?_
  refine a_get C fl_RX12_46 (i := 236) kd_236 (hid 236 (by decide)) (v := .ref (ad 246)) rfl dX12_looksAt_6 ?_
  refine s_bipush C dX12_looksAt_9 (7) (by decide) (fun z3 h4 => ?_)
  refine a_aload_n C dX12_looksAt_11 (i := 0) rfl rfl ?_
  have g5 := bF_236_18 hG
  refine a_get C fl_RX12_221 (i := 236) kd_236 (hid 236 (by decide)) (v := .int (σ.1 236 18)) rfl dX12_looksAt_12 ?_
  refine s_imuld C dX12_looksAt_15 (7) (by omega) (by omega) (fun z6 h7 => ?_)
  refine a_iload_n C dX12_looksAt_16 (i := 1) rfl rfl ?_
  refine s_iadd C dX12_looksAt_17 (by omega) (fun z8 h9 => ?_)
  refine s_iald C (i := 246) kd_246 (hid 246 (by decide)) al_246 (by omega) (by omega) dX12_looksAt_18 (fun n10 h11 => ?_)
  refine s_val (fun z12 e13 => ?_)
  refine s_iast C (i := 264) kd_264 (hid 264 (by decide)) al_264 (by omega) (by omega) dX12_looksAt_19 (fun n14 h15 => ?_)
  have hG16 := wA_264 (v := z12) (j := n14) hG
  refine a_aload_n C dX12_looksAt_20 (i := 0) rfl rfl ?_
  refine a_get C fl_RX12_101 (i := 236) kd_236 (hid 236 (by decide)) (v := .ref (ad 264)) rfl dX12_looksAt_21 ?_
  refine s_iconst C dX12_looksAt_24 (1) (by decide) (fun z17 h18 => ?_)
  refine a_aload_n C dX12_looksAt_25 (i := 0) rfl rfl ?_
  refine a_get C fl_RX12_49 (i := 236) kd_236 (hid 236 (by decide)) (v := .ref (ad 247)) rfl dX12_looksAt_26 ?_
  refine s_bipush C dX12_looksAt_29 (7) (by decide) (fun z19 h20 => ?_)
  refine a_aload_n C dX12_looksAt_31 (i := 0) rfl rfl ?_
  refine a_get C fl_RX12_221 (i := 236) kd_236 (hid 236 (by decide)) (v := .int (σ.1 236 18)) rfl dX12_looksAt_32 ?_
  refine s_imuld C dX12_looksAt_35 (7) (by omega) (by omega) (fun z21 h22 => ?_)
  refine a_iload_n C dX12_looksAt_36 (i := 1) rfl rfl ?_
  refine s_iadd C dX12_looksAt_37 (by omega) (fun z23 h24 => ?_)
  refine s_iald C (i := 247) kd_247 (hid 247 (by decide)) al_247 (by omega) (by omega) dX12_looksAt_38 (fun n25 h26 => ?_)
  refine s_val (fun z27 e28 => ?_)
  refine s_iast C (i := 264) kd_264 (hid 264 (by decide)) al_264 (by omega) (by omega) dX12_looksAt_39 (fun n29 h30 => ?_)
  have hG31 := wA_264 (v := z27) (j := n29) hG16
  refine a_aload_n C dX12_looksAt_40 (i := 0) rfl rfl ?_
  refine a_get C fl_RX12_101 (i := 236) kd_236 (hid 236 (by decide)) (v := .ref (ad 264)) rfl dX12_looksAt_41 ?_
  refine s_iconst C dX12_looksAt_44 (2) (by decide) (fun z32 h33 => ?_)
  refine a_iload_n C dX12_looksAt_45 (i := 2) rfl rfl ?_
  refine s_iast C (i := 264) kd_264 (hid 264 (by decide)) al_264 (by omega) (by omega) dX12_looksAt_46 (fun n34 h35 => ?_)
  have hG36 := wA_264 (v := x2) (j := n34) hG31
  refine a_aload_n C dX12_looksAt_47 (i := 0) rfl rfl ?_
  refine a_get C fl_RX12_101 (i := 236) kd_236 (hid 236 (by decide)) (v := .ref (ad 264)) rfl dX12_looksAt_48 ?_
  refine s_iconst C dX12_looksAt_51 (3) (by decide) (fun z37 h38 => ?_)
  refine a_aload_n C dX12_looksAt_52 (i := 0) rfl rfl ?_
  refine a_get C fl_RX12_110 (i := 236) kd_236 (hid 236 (by decide)) (v := .ref (ad 267)) rfl dX12_looksAt_53 ?_
  refine s_bipush C dX12_looksAt_56 (21) (by decide) (fun z39 h40 => ?_)
  refine s_iald C (i := 267) kd_267 (hid 267 (by decide)) al_267 (by omega) (by omega) dX12_looksAt_58 (fun n41 h42 => ?_)
  refine s_val (fun z43 e44 => ?_)
  obtain rfl : n41 = 21 := by omega
  have g45 : z43.toInt = (σ.1 267 21).toInt := congrArg Int32.toInt (e44.symm.trans (show _ = (σ.1 267 21) from ((congrFun (hI_o (by decide)) 21).trans ((congrFun (hI_o (by decide)) 21).trans (congrFun (hI_o (by decide)) 21)))))
  refine s_iast C (i := 264) kd_264 (hid 264 (by decide)) al_264 (by omega) (by omega) dX12_looksAt_59 (fun n46 h47 => ?_)
  have hG48 := wA_264 (v := z43) (j := n46) hG36
  refine a_aload_n C dX12_looksAt_60 (i := 0) rfl rfl ?_
  refine a_get C fl_RX12_101 (i := 236) kd_236 (hid 236 (by decide)) (v := .ref (ad 264)) rfl dX12_looksAt_61 ?_
  refine s_iconst C dX12_looksAt_64 (4) (by decide) (fun z49 h50 => ?_)
  refine a_aload_n C dX12_looksAt_65 (i := 0) rfl rfl ?_
  refine a_get C fl_RX12_110 (i := 236) kd_236 (hid 236 (by decide)) (v := .ref (ad 267)) rfl dX12_looksAt_66 ?_
  refine s_bipush C dX12_looksAt_69 (22) (by decide) (fun z51 h52 => ?_)
  refine s_iald C (i := 267) kd_267 (hid 267 (by decide)) al_267 (by omega) (by omega) dX12_looksAt_71 (fun n53 h54 => ?_)
  refine s_val (fun z55 e56 => ?_)
  refine s_iast C (i := 264) kd_264 (hid 264 (by decide)) al_264 (by omega) (by omega) dX12_looksAt_72 (fun n57 h58 => ?_)
  have hG59 := wA_264 (v := z55) (j := n57) hG48
  refine a_aload_n C dX12_looksAt_73 (i := 0) rfl rfl ?_
  refine a_get C fl_RX12_101 (i := 236) kd_236 (hid 236 (by decide)) (v := .ref (ad 264)) rfl dX12_looksAt_74 ?_
  refine s_iconst C dX12_looksAt_77 (5) (by decide) (fun z60 h61 => ?_)
  refine a_iload_n C dX12_looksAt_78 (i := 3) rfl rfl ?_
  refine s_iast C (i := 264) kd_264 (hid 264 (by decide)) al_264 (by omega) (by omega) dX12_looksAt_79 (fun n62 h63 => ?_)
  have hG64 := wA_264 (v := x3) (j := n62) hG59
  refine a_aload_n C dX12_looksAt_80 (i := 0) rfl rfl ?_
  refine a_get C fl_RX12_101 (i := 236) kd_236 (hid 236 (by decide)) (v := .ref (ad 264)) rfl dX12_looksAt_81 ?_
  refine s_bipush C dX12_looksAt_84 (6) (by decide) (fun z65 h66 => ?_)
  refine a_iload_n C dX12_looksAt_86 (i := 1) rfl rfl ?_
  refine s_iast C (i := 264) kd_264 (hid 264 (by decide)) al_264 (by omega) (by omega) dX12_looksAt_87 (fun n67 h68 => ?_)
  have hG69 := wA_264 (v := x1) (j := n67) hG64
  refine a_aload_n C dX12_looksAt_88 (i := 0) rfl rfl ?_
  refine a_get C fl_RX12_101 (i := 236) kd_236 (hid 236 (by decide)) (v := .ref (ad 264)) rfl dX12_looksAt_89 ?_
  refine s_bipush C dX12_looksAt_92 (7) (by decide) (fun z70 h71 => ?_)
  refine a_aload_n C dX12_looksAt_94 (i := 0) rfl rfl ?_
  refine a_get C fl_RX12_110 (i := 236) kd_236 (hid 236 (by decide)) (v := .ref (ad 267)) rfl dX12_looksAt_95 ?_
  refine s_bipush C dX12_looksAt_98 (24) (by decide) (fun z72 h73 => ?_)
  refine s_iald C (i := 267) kd_267 (hid 267 (by decide)) al_267 (by omega) (by omega) dX12_looksAt_100 (fun n74 h75 => ?_)
  refine s_val (fun z76 e77 => ?_)
  refine s_iast C (i := 264) kd_264 (hid 264 (by decide)) al_264 (by omega) (by omega) dX12_looksAt_101 (fun n78 h79 => ?_)
  have hG80 := wA_264 (v := z76) (j := n78) hG69
  refine a_aload_n C dX12_looksAt_102 (i := 0) rfl rfl ?_
  refine a_get C fl_RX12_101 (i := 236) kd_236 (hid 236 (by decide)) (v := .ref (ad 264)) rfl dX12_looksAt_103 ?_
  refine s_bipush C dX12_looksAt_106 (8) (by decide) (fun z81 h82 => ?_)
  refine a_aload_n C dX12_looksAt_108 (i := 0) rfl rfl ?_
  refine a_get C fl_RX12_110 (i := 236) kd_236 (hid 236 (by decide)) (v := .ref (ad 267)) rfl dX12_looksAt_109 ?_
  refine s_bipush C dX12_looksAt_112 (21) (by decide) (fun z83 h84 => ?_)
  refine s_iald C (i := 267) kd_267 (hid 267 (by decide)) al_267 (by omega) (by omega) dX12_looksAt_114 (fun n85 h86 => ?_)
  refine s_val (fun z87 e88 => ?_)
  obtain rfl : n85 = 21 := by omega
  have g89 : z87.toInt = (σ.1 267 21).toInt := congrArg Int32.toInt (e88.symm.trans (show _ = (σ.1 267 21) from ((congrFun (hI_o (by decide)) 21).trans ((congrFun (hI_o (by decide)) 21).trans ((congrFun (hI_o (by decide)) 21).trans ((congrFun (hI_o (by decide)) 21).trans ((congrFun (hI_o (by decide)) 21).trans ((congrFun (hI_o (by decide)) 21).trans ((congrFun (hI_o (by decide)) 21).trans (congrFun (hI_o (by decide)) 21))))))))))
  refine s_iconst C dX12_looksAt_115 (2) (by decide) (fun z90 h91 => ?_)
  refine s_iremU C dX12_looksAt_116 (by omega) (fun z92 => ?_)
  refine s_iast C (i := 264) kd_264 (hid 264 (by decide)) al_264 (by omega) (by omega) dX12_looksAt_117 (fun n94 h95 => ?_)
  have hG96 := wA_264 (v := z92) (j := n94) hG80
  exact a_vret Rt dX12_looksAt_118 (⟨hG96, (onm.I (onm.I (onm.I (onm.I (onm.I (onm.I (onm.I (onm.I (onm.I onm.rf (by decide)) (by decide)) (by decide)) (by decide)) (by decide)) (by decide)) (by decide)) (by decide)) (by decide))⟩)
theorem dX12_termOf_0 : decode cX12_termOf 0 = .ok (.iconst 0, 1) := by decide +kernel
theorem dX12_termOf_1 : decode cX12_termOf 1 = .ok (.istore_n 3, 1) := by decide +kernel
theorem dX12_termOf_2 : decode cX12_termOf 2 = .ok (.iload_n 1, 1) := by decide +kernel
theorem dX12_termOf_3 : decode cX12_termOf 3 = .ok (.istore 4, 2) := by decide +kernel
theorem dX12_termOf_5 : decode cX12_termOf 5 = .ok (.iload 4, 2) := by decide +kernel
theorem dX12_termOf_7 : decode cX12_termOf 7 = .ok (.iload_n 2, 1) := by decide +kernel
theorem dX12_termOf_8 : decode cX12_termOf 8 = .ok (.if_icmp .ge 157, 3) := by decide +kernel
theorem dX12_termOf_11 : decode cX12_termOf 11 = .ok (.aload_n 0, 1) := by decide +kernel
theorem dX12_termOf_12 : decode cX12_termOf 12 = .ok (.getfield 92, 3) := by decide +kernel
theorem dX12_termOf_15 : decode cX12_termOf 15 = .ok (.iload 4, 2) := by decide +kernel
theorem dX12_termOf_17 : decode cX12_termOf 17 = .ok (.iaload, 1) := by decide +kernel
theorem dX12_termOf_18 : decode cX12_termOf 18 = .ok (.istore 5, 2) := by decide +kernel
theorem dX12_termOf_20 : decode cX12_termOf 20 = .ok (.iload 5, 2) := by decide +kernel
theorem dX12_termOf_22 : decode cX12_termOf 22 = .ok (.iconst 2, 1) := by decide +kernel
theorem dX12_termOf_23 : decode cX12_termOf 23 = .ok (.if_icmp .ge 42, 3) := by decide +kernel
theorem dX12_termOf_26 : decode cX12_termOf 26 = .ok (.aload_n 0, 1) := by decide +kernel
theorem dX12_termOf_27 : decode cX12_termOf 27 = .ok (.getfield 104, 3) := by decide +kernel
theorem dX12_termOf_30 : decode cX12_termOf 30 = .ok (.iload_n 3, 1) := by decide +kernel
theorem dX12_termOf_31 : decode cX12_termOf 31 = .ok (.iload 5, 2) := by decide +kernel
theorem dX12_termOf_33 : decode cX12_termOf 33 = .ok (.ifCond .ne 13, 3) := by decide +kernel
theorem dX12_termOf_36 : decode cX12_termOf 36 = .ok (.aload_n 0, 1) := by decide +kernel
theorem dX12_termOf_37 : decode cX12_termOf 37 = .ok (.getfield 95, 3) := by decide +kernel
theorem dX12_termOf_40 : decode cX12_termOf 40 = .ok (.iload 4, 2) := by decide +kernel
theorem dX12_termOf_42 : decode cX12_termOf 42 = .ok (.iaload, 1) := by decide +kernel
theorem dX12_termOf_43 : decode cX12_termOf 43 = .ok (.goto 15, 3) := by decide +kernel
theorem dX12_termOf_46 : decode cX12_termOf 46 = .ok (.aload_n 0, 1) := by decide +kernel
theorem dX12_termOf_47 : decode cX12_termOf 47 = .ok (.getfield 101, 3) := by decide +kernel
theorem dX12_termOf_50 : decode cX12_termOf 50 = .ok (.aload_n 0, 1) := by decide +kernel
theorem dX12_termOf_51 : decode cX12_termOf 51 = .ok (.getfield 95, 3) := by decide +kernel
theorem dX12_termOf_54 : decode cX12_termOf 54 = .ok (.iload 4, 2) := by decide +kernel
theorem dX12_termOf_56 : decode cX12_termOf 56 = .ok (.iaload, 1) := by decide +kernel
theorem dX12_termOf_57 : decode cX12_termOf 57 = .ok (.iaload, 1) := by decide +kernel
theorem dX12_termOf_58 : decode cX12_termOf 58 = .ok (.iastore, 1) := by decide +kernel
theorem dX12_termOf_59 : decode cX12_termOf 59 = .ok (.iinc 3 1, 3) := by decide +kernel
theorem dX12_termOf_62 : decode cX12_termOf 62 = .ok (.goto 97, 3) := by decide +kernel
theorem dX12_termOf_65 : decode cX12_termOf 65 = .ok (.iinc 3 (-1), 3) := by decide +kernel
theorem dX12_termOf_68 : decode cX12_termOf 68 = .ok (.aload_n 0, 1) := by decide +kernel
theorem dX12_termOf_69 : decode cX12_termOf 69 = .ok (.getfield 104, 3) := by decide +kernel
theorem dX12_termOf_72 : decode cX12_termOf 72 = .ok (.iload_n 3, 1) := by decide +kernel
theorem dX12_termOf_73 : decode cX12_termOf 73 = .ok (.iconst 1, 1) := by decide +kernel
theorem dX12_termOf_74 : decode cX12_termOf 74 = .ok (.isub, 1) := by decide +kernel
theorem dX12_termOf_75 : decode cX12_termOf 75 = .ok (.iaload, 1) := by decide +kernel
theorem dX12_termOf_76 : decode cX12_termOf 76 = .ok (.istore 6, 2) := by decide +kernel
theorem dX12_termOf_78 : decode cX12_termOf 78 = .ok (.aload_n 0, 1) := by decide +kernel
theorem dX12_termOf_79 : decode cX12_termOf 79 = .ok (.getfield 104, 3) := by decide +kernel
theorem dX12_termOf_82 : decode cX12_termOf 82 = .ok (.iload_n 3, 1) := by decide +kernel
theorem dX12_termOf_83 : decode cX12_termOf 83 = .ok (.iaload, 1) := by decide +kernel
theorem dX12_termOf_84 : decode cX12_termOf 84 = .ok (.istore 7, 2) := by decide +kernel
theorem dX12_termOf_86 : decode cX12_termOf 86 = .ok (.iload 5, 2) := by decide +kernel
theorem dX12_termOf_88 : decode cX12_termOf 88 = .ok (.iconst 5, 1) := by decide +kernel
theorem dX12_termOf_89 : decode cX12_termOf 89 = .ok (.if_icmp .ne 15, 3) := by decide +kernel
theorem dX12_termOf_92 : decode cX12_termOf 92 = .ok (.iload 7, 2) := by decide +kernel
theorem dX12_termOf_94 : decode cX12_termOf 94 = .ok (.ifCond .ne 10, 3) := by decide +kernel
theorem dX12_termOf_97 : decode cX12_termOf 97 = .ok (.aload_n 0, 1) := by decide +kernel
theorem dX12_termOf_98 : decode cX12_termOf 98 = .ok (.iconst 1, 1) := by decide +kernel
theorem dX12_termOf_99 : decode cX12_termOf 99 = .ok (.putfield 297, 3) := by decide +kernel
theorem dX12_termOf_102 : decode cX12_termOf 102 = .ok (.iconst 0, 1) := by decide +kernel
theorem dX12_termOf_103 : decode cX12_termOf 103 = .ok (.ireturn, 1) := by decide +kernel
theorem dX12_termOf_104 : decode cX12_termOf 104 = .ok (.aload_n 0, 1) := by decide +kernel
theorem dX12_termOf_105 : decode cX12_termOf 105 = .ok (.getfield 104, 3) := by decide +kernel
theorem dX12_termOf_108 : decode cX12_termOf 108 = .ok (.iload_n 3, 1) := by decide +kernel
theorem dX12_termOf_109 : decode cX12_termOf 109 = .ok (.iconst 1, 1) := by decide +kernel
theorem dX12_termOf_110 : decode cX12_termOf 110 = .ok (.isub, 1) := by decide +kernel
theorem dX12_termOf_111 : decode cX12_termOf 111 = .ok (.iload 5, 2) := by decide +kernel
theorem dX12_termOf_113 : decode cX12_termOf 113 = .ok (.iconst 2, 1) := by decide +kernel
theorem dX12_termOf_114 : decode cX12_termOf 114 = .ok (.if_icmp .ne 11, 3) := by decide +kernel
theorem dX12_termOf_117 : decode cX12_termOf 117 = .ok (.iload 6, 2) := by decide +kernel
theorem dX12_termOf_119 : decode cX12_termOf 119 = .ok (.iload 7, 2) := by decide +kernel
theorem dX12_termOf_121 : decode cX12_termOf 121 = .ok (.iadd, 1) := by decide +kernel
theorem dX12_termOf_122 : decode cX12_termOf 122 = .ok (.goto 36, 3) := by decide +kernel
theorem dX12_termOf_125 : decode cX12_termOf 125 = .ok (.iload 5, 2) := by decide +kernel
theorem dX12_termOf_127 : decode cX12_termOf 127 = .ok (.iconst 3, 1) := by decide +kernel
theorem dX12_termOf_128 : decode cX12_termOf 128 = .ok (.if_icmp .ne 11, 3) := by decide +kernel
theorem dX12_termOf_131 : decode cX12_termOf 131 = .ok (.iload 6, 2) := by decide +kernel
theorem dX12_termOf_133 : decode cX12_termOf 133 = .ok (.iload 7, 2) := by decide +kernel
theorem dX12_termOf_135 : decode cX12_termOf 135 = .ok (.isub, 1) := by decide +kernel
theorem dX12_termOf_136 : decode cX12_termOf 136 = .ok (.goto 22, 3) := by decide +kernel
theorem dX12_termOf_139 : decode cX12_termOf 139 = .ok (.iload 5, 2) := by decide +kernel
theorem dX12_termOf_141 : decode cX12_termOf 141 = .ok (.iconst 4, 1) := by decide +kernel
theorem dX12_termOf_142 : decode cX12_termOf 142 = .ok (.if_icmp .ne 11, 3) := by decide +kernel
theorem dX12_termOf_145 : decode cX12_termOf 145 = .ok (.iload 6, 2) := by decide +kernel
theorem dX12_termOf_147 : decode cX12_termOf 147 = .ok (.iload 7, 2) := by decide +kernel
theorem dX12_termOf_149 : decode cX12_termOf 149 = .ok (.imul, 1) := by decide +kernel
theorem dX12_termOf_150 : decode cX12_termOf 150 = .ok (.goto 8, 3) := by decide +kernel
theorem dX12_termOf_153 : decode cX12_termOf 153 = .ok (.iload 6, 2) := by decide +kernel
theorem dX12_termOf_155 : decode cX12_termOf 155 = .ok (.iload 7, 2) := by decide +kernel
theorem dX12_termOf_157 : decode cX12_termOf 157 = .ok (.idiv, 1) := by decide +kernel
theorem dX12_termOf_158 : decode cX12_termOf 158 = .ok (.iastore, 1) := by decide +kernel
theorem dX12_termOf_159 : decode cX12_termOf 159 = .ok (.iinc 4 1, 3) := by decide +kernel
theorem dX12_termOf_162 : decode cX12_termOf 162 = .ok (.goto (-157), 3) := by decide +kernel
theorem dX12_termOf_165 : decode cX12_termOf 165 = .ok (.aload_n 0, 1) := by decide +kernel
theorem dX12_termOf_166 : decode cX12_termOf 166 = .ok (.getfield 104, 3) := by decide +kernel
theorem dX12_termOf_169 : decode cX12_termOf 169 = .ok (.iconst 0, 1) := by decide +kernel
theorem dX12_termOf_170 : decode cX12_termOf 170 = .ok (.iaload, 1) := by decide +kernel
theorem dX12_termOf_171 : decode cX12_termOf 171 = .ok (.ireturn, 1) := by decide +kernel
set_option maxHeartbeats 4000000 in
set_option maxRecDepth 100000 in
theorem S_X12_termOf_236 {l : Launch} {D : va_G} {ids : List Nat} {ad : Nat → Nat} {ca : Nat → ClassId} {σ : HS} {x1 : Int32} {x2 : Int32} (hid : ∀ i, i < 277 → i ∈ ids) (hG : GIm σ) (hx1 : 0 ≤ x1.toInt ∧ x1.toInt ≤ 840) (hx2 : x2.toInt ≤ 840) (hp0 : SGm (σ.1 261) (σ.1 262) x1 x2) : Ki l D ids ad ca yX12_termOf cX12_termOf 8 .int 0 0 [.ref (ad 236), .int x1, .int x2] σ (fun r σ1 => (GIm σ1) ∧ (onm [265, 1046] σ σ1)) := by
  refine Ki.of (by decide) (Nat.le_of_ble_eq_true rfl) 5 (fun Γ C Rt => ?_)
  show AW ids ad ca Γ 0 [some (.ref (ad 236)), some (.int x1), some (.int x2), none, none, none, none, none] [] σ
  have j5 : ∀ (d5 : Nat) (σq5 : HS) (y5_3 : Int32) (y5_4 : Int32), 840 - y5_4.toInt < d5 → GIm σq5 → onm [265, 1046] σ σq5 → 0 ≤ y5_3.toInt ∧ y5_3.toInt ≤ 400 → 0 ≤ y5_4.toInt ∧ y5_4.toInt ≤ 840 → (x1.toInt ≤ y5_4.toInt) → (y5_3.toInt = dep (σ.1 261) x1.toInt.toNat (y5_4.toInt - x1.toInt).toNat) → AW ids ad ca Γ 5 [some (.ref (ad 236)), none, some (.int x2), some (.int y5_3), some (.int y5_4), none, none, none] [] σq5 := by
    intro d5
    induction d5 with
    | zero =>
      intro σq5 y5_3 y5_4 hd5 hGq5 hoq5 hx5_0 hx5_1 hx5_2 hx5_3
      exfalso
      omega
    | succ d5 ih5 =>
      intro σq5 y5_3 y5_4 hd5 hGq5 hoq5 hx5_0 hx5_1 hx5_2 hx5_3
      have j159 : ∀ (σq159 : HS) (y159_3 : Int32), GIm σq159 → onm [265, 1046] σ σq159 → -1 ≤ y159_3.toInt ∧ y159_3.toInt ≤ 401 → 1 ≤ x2.toInt ∧ x2.toInt ≤ 840 → 0 ≤ y5_4.toInt ∧ y5_4.toInt ≤ 839 → (0 ≤ y159_3.toInt) → (y159_3.toInt ≤ 400) → (dep (σ.1 261) x1.toInt.toNat ((y5_4.toInt - x1.toInt).toNat + 1) = y159_3.toInt) → AW ids ad ca Γ 159 [some (.ref (ad 236)), none, some (.int x2), some (.int y159_3), some (.int y5_4), none, none, none] [] σq159 := by
        intro σq159 y159_3 hGq159 hoq159 hx159_0 hx159_1 hx159_2 hx159_3 hx159_4 hx159_5
        refine s_iinc C dX12_termOf_159 rfl (1) (by decide) (by omega) (by decide) rfl (fun z1 h2 => ?_)
        show AW ids ad ca Γ 162 [some (.ref (ad 236)), none, some (.int x2), some (.int y159_3), some (.int z1), none, none, none] _ _
        refine a_goto C dX12_termOf_162 (tgt := 5) rfl ?_
        exact ih5 _ y159_3 z1 (by omega) hGq159 hoq159 (by omega) (by omega) (show x1.toInt ≤ z1.toInt by omega) (show y159_3.toInt = dep (σ.1 261) x1.toInt.toNat (z1.toInt - x1.toInt).toNat by rw [show (z1.toInt - x1.toInt).toNat = (y5_4.toInt - x1.toInt).toNat + 1 by omega]; omega)
      have j158 : ∀ (σq158 : HS) (y158_3 : Int32) (u158_0 : Int32) (u158_1 : Int32), GIm σq158 → onm [265, 1046] σ σq158 → -1 ≤ y158_3.toInt ∧ y158_3.toInt ≤ 399 → -2 ≤ u158_1.toInt ∧ u158_1.toInt ≤ 398 → 1 ≤ x2.toInt ∧ x2.toInt ≤ 840 → 0 ≤ y5_4.toInt ∧ y5_4.toInt ≤ 839 → (0 ≤ u158_1.toInt) → (u158_1.toInt ≤ 399) → (dep (σ.1 261) x1.toInt.toNat ((y5_4.toInt - x1.toInt).toNat + 1) = y158_3.toInt) → (0 ≤ y158_3.toInt) → (y158_3.toInt ≤ 399) → AW ids ad ca Γ 158 [some (.ref (ad 236)), none, some (.int x2), some (.int y158_3), some (.int y5_4), none, none, none] [.int u158_0, .int u158_1, .ref (ad 265)] σq158 := by
        intro σq158 y158_3 u158_0 u158_1 hGq158 hoq158 hx158_0 hx158_1 hx158_2 hx158_3 hx158_4 hx158_5 hx158_6 hx158_7 hx158_8
        refine s_iast C (i := 265) kd_265 (hid 265 (by decide)) al_265 (by omega) (by omega) dX12_termOf_158 (fun n3 h4 => ?_)
        have hG5 := wA_265 (v := u158_0) (j := n3) hGq158
        exact j159 _ y158_3 hG5 (onm.I hoq158 (by decide)) (by omega) (by omega) (by omega) (show 0 ≤ y158_3.toInt by omega) (show y158_3.toInt ≤ 400 by omega) (show dep (σ.1 261) x1.toInt.toNat ((y5_4.toInt - x1.toInt).toNat + 1) = y158_3.toInt by omega)
      have j104 : ∀ (σq104 : HS) (y104_3 : Int32) (y104_5 : Int32) (y104_6 : Int32) (y104_7 : Int32), GIm σq104 → onm [265, 1046] σ σq104 → -1 ≤ y104_3.toInt ∧ y104_3.toInt ≤ 399 → 2 ≤ y104_5.toInt → 1 ≤ x2.toInt ∧ x2.toInt ≤ 840 → 0 ≤ y5_4.toInt ∧ y5_4.toInt ≤ 839 → (1 ≤ y104_3.toInt) → (y104_3.toInt ≤ 399) → (y104_5.toInt = 5 → y104_7.toInt ≠ 0) → (2 ≤ y104_5.toInt) → (y104_5.toInt ≤ 5) → (dep (σ.1 261) x1.toInt.toNat ((y5_4.toInt - x1.toInt).toNat + 1) = y104_3.toInt) → AW ids ad ca Γ 104 [some (.ref (ad 236)), none, some (.int x2), some (.int y104_3), some (.int y5_4), some (.int y104_5), some (.int y104_6), some (.int y104_7)] [] σq104 := by
        intro σq104 y104_3 y104_5 y104_6 y104_7 hGq104 hoq104 hx104_0 hx104_1 hx104_2 hx104_3 hx104_4 hx104_5 hx104_6 hx104_7 hx104_8 hx104_9
        refine a_aload_n C dX12_termOf_104 (i := 0) rfl rfl ?_
        refine a_get C fl_RX12_104 (i := 236) kd_236 (hid 236 (by decide)) (v := .ref (ad 265)) rfl dX12_termOf_105 ?_
        refine a_iload_n C dX12_termOf_108 (i := 3) rfl rfl ?_
        refine s_iconst C dX12_termOf_109 (1) (by decide) (fun z6 h7 => ?_)
        refine s_isub C dX12_termOf_110 (by omega) (fun z8 h9 => ?_)
        refine a_iload C dX12_termOf_111 rfl ?_
        refine s_iconst C dX12_termOf_113 (2) (by decide) (fun z10 h11 => ?_)
        refine s_ic_ne C dX12_termOf_114 (tgt := 125) rfl (fun c12 => ?_) (fun c12 => ?_)
        ·
          refine a_iload C dX12_termOf_125 rfl ?_
          refine s_iconst C dX12_termOf_127 (3) (by decide) (fun z13 h14 => ?_)
          refine s_ic_ne C dX12_termOf_128 (tgt := 139) rfl (fun c15 => ?_) (fun c15 => ?_)
          ·
            refine a_iload C dX12_termOf_139 rfl ?_
            refine s_iconst C dX12_termOf_141 (4) (by decide) (fun z16 h17 => ?_)
            refine s_ic_ne C dX12_termOf_142 (tgt := 153) rfl (fun c18 => ?_) (fun c18 => ?_)
            ·
              refine a_iload C dX12_termOf_153 rfl ?_
              refine a_iload C dX12_termOf_155 rfl ?_
              refine s_idivU C dX12_termOf_157 (by omega) (fun z19 => ?_)
              refine AW.sub (vs' := [some (.ref (ad 236)), none, some (.int x2), some (.int y104_3), some (.int y5_4), none, none, none]) (lsub_of (by simp [lsubB])) ?_
              exact j158 _ y104_3 z19 z8 hGq104 hoq104 (by omega) (by omega) (by omega) (by omega) (show 0 ≤ z8.toInt by omega) (show z8.toInt ≤ 399 by omega) (show dep (σ.1 261) x1.toInt.toNat ((y5_4.toInt - x1.toInt).toNat + 1) = y104_3.toInt by omega) (show 0 ≤ y104_3.toInt by omega) (show y104_3.toInt ≤ 399 by omega)
            ·
              refine a_iload C dX12_termOf_145 rfl ?_
              refine a_iload C dX12_termOf_147 rfl ?_
              refine s_imulU C dX12_termOf_149 (fun z21 => ?_)
              refine a_goto C dX12_termOf_150 (tgt := 158) rfl ?_
              refine AW.sub (vs' := [some (.ref (ad 236)), none, some (.int x2), some (.int y104_3), some (.int y5_4), none, none, none]) (lsub_of (by simp [lsubB])) ?_
              exact j158 _ y104_3 z21 z8 hGq104 hoq104 (by omega) (by omega) (by omega) (by omega) (show 0 ≤ z8.toInt by omega) (show z8.toInt ≤ 399 by omega) (show dep (σ.1 261) x1.toInt.toNat ((y5_4.toInt - x1.toInt).toNat + 1) = y104_3.toInt by omega) (show 0 ≤ y104_3.toInt by omega) (show y104_3.toInt ≤ 399 by omega)
          ·
            refine a_iload C dX12_termOf_131 rfl ?_
            refine a_iload C dX12_termOf_133 rfl ?_
            refine s_isubU C dX12_termOf_135 (fun z23 => ?_)
            refine a_goto C dX12_termOf_136 (tgt := 158) rfl ?_
            refine AW.sub (vs' := [some (.ref (ad 236)), none, some (.int x2), some (.int y104_3), some (.int y5_4), none, none, none]) (lsub_of (by simp [lsubB])) ?_
            exact j158 _ y104_3 z23 z8 hGq104 hoq104 (by omega) (by omega) (by omega) (by omega) (show 0 ≤ z8.toInt by omega) (show z8.toInt ≤ 399 by omega) (show dep (σ.1 261) x1.toInt.toNat ((y5_4.toInt - x1.toInt).toNat + 1) = y104_3.toInt by omega) (show 0 ≤ y104_3.toInt by omega) (show y104_3.toInt ≤ 399 by omega)
        ·
          refine a_iload C dX12_termOf_117 rfl ?_
          refine a_iload C dX12_termOf_119 rfl ?_
          refine s_iaddU C dX12_termOf_121 (fun z25 => ?_)
          refine a_goto C dX12_termOf_122 (tgt := 158) rfl ?_
          refine AW.sub (vs' := [some (.ref (ad 236)), none, some (.int x2), some (.int y104_3), some (.int y5_4), none, none, none]) (lsub_of (by simp [lsubB])) ?_
          exact j158 _ y104_3 z25 z8 hGq104 hoq104 (by omega) (by omega) (by omega) (by omega) (show 0 ≤ z8.toInt by omega) (show z8.toInt ≤ 399 by omega) (show dep (σ.1 261) x1.toInt.toNat ((y5_4.toInt - x1.toInt).toNat + 1) = y104_3.toInt by omega) (show 0 ≤ y104_3.toInt by omega) (show y104_3.toInt ≤ 399 by omega)
      have j58 : ∀ (σq58 : HS) (u58_0 : Int32) (u58_1 : Int32), GIm σq58 → onm [265, 1046] σ σq58 → 0 ≤ u58_1.toInt ∧ u58_1.toInt ≤ 400 → 1 ≤ x2.toInt ∧ x2.toInt ≤ 840 → 0 ≤ y5_4.toInt ∧ y5_4.toInt ≤ 839 → (u58_1.toInt = y5_3.toInt) → (y5_3.toInt ≤ 399) → (dep (σ.1 261) x1.toInt.toNat ((y5_4.toInt - x1.toInt).toNat + 1) = y5_3.toInt + 1) → AW ids ad ca Γ 58 [some (.ref (ad 236)), none, some (.int x2), some (.int y5_3), some (.int y5_4), none, none, none] [.int u58_0, .int u58_1, .ref (ad 265)] σq58 := by
        intro σq58 u58_0 u58_1 hGq58 hoq58 hx58_0 hx58_1 hx58_2 hx58_3 hx58_4 hx58_5
        refine s_iast C (i := 265) kd_265 (hid 265 (by decide)) al_265 (by omega) (by omega) dX12_termOf_58 (fun n27 h28 => ?_)
        have hG29 := wA_265 (v := u58_0) (j := n27) hGq58
        refine s_iinc C dX12_termOf_59 rfl (1) (by decide) (by omega) (by decide) rfl (fun z30 h31 => ?_)
        show AW ids ad ca Γ 62 [some (.ref (ad 236)), none, some (.int x2), some (.int z30), some (.int y5_4), none, none, none] _ _
        refine a_goto C dX12_termOf_62 (tgt := 159) rfl ?_
        exact j159 _ z30 hG29 (onm.I hoq58 (by decide)) (by omega) (by omega) (by omega) (show 0 ≤ z30.toInt by omega) (show z30.toInt ≤ 400 by omega) (show dep (σ.1 261) x1.toInt.toNat ((y5_4.toInt - x1.toInt).toNat + 1) = z30.toInt by omega)
      refine a_iload C dX12_termOf_5 rfl ?_
      refine a_iload_n C dX12_termOf_7 (i := 2) rfl rfl ?_
      refine s_ic_ge C dX12_termOf_8 (tgt := 165) rfl (fun c32 => ?_) (fun c32 => ?_)
      ·
        refine a_aload_n C dX12_termOf_165 (i := 0) rfl rfl ?_
        refine a_get C fl_RX12_104 (i := 236) kd_236 (hid 236 (by decide)) (v := .ref (ad 265)) rfl dX12_termOf_166 ?_
        refine s_iconst C dX12_termOf_169 (0) (by decide) (fun z33 h34 => ?_)
        refine s_iald C (i := 265) kd_265 (hid 265 (by decide)) al_265 (by omega) (by omega) dX12_termOf_170 (fun n35 h36 => ?_)
        refine s_val (fun z37 e38 => ?_)
        exact a_iret Rt dX12_termOf_171 rfl (⟨hGq5, hoq5⟩)
      ·
        refine a_aload_n C dX12_termOf_11 (i := 0) rfl rfl ?_
        refine a_get C fl_RX12_92 (i := 236) kd_236 (hid 236 (by decide)) (v := .ref (ad 261)) rfl dX12_termOf_12 ?_
        refine a_iload C dX12_termOf_15 rfl ?_
        refine s_iald C (i := 261) kd_261 (hid 261 (by decide)) al_261 (by omega) (by omega) dX12_termOf_17 (fun n39 h40 => ?_)
        refine s_val (fun z41 e42 => ?_)
        have gs := hp0.2.2.2 n39 (by omega) (by omega)
        rw [show σ.1 261 n39 = z41 from ((congrFun (hoq5.a (i := 261) (by decide)) n39).symm.trans e42), show n39 - x1.toInt.toNat = (y5_4.toInt - x1.toInt).toNat by omega] at gs
        have gd := dep_in (cd := σ.1 261) (u := x1.toInt.toNat) (n := (y5_4.toInt - x1.toInt).toNat) (c := n39) (v := z41) (by omega) ((congrFun (hoq5.a (i := 261) (by decide)) n39).symm.trans e42)
        have gl := dep_le (cd := σ.1 261) (u := x1.toInt.toNat) (y5_4.toInt - x1.toInt).toNat
        have gS := hp0.2.2.1
        refine a_istore C dX12_termOf_18 (by decide) rfl (vs1 := [some (.ref (ad 236)), none, some (.int x2), some (.int y5_3), some (.int y5_4), some (.int z41), none, none]) rfl ?_
        refine a_iload C dX12_termOf_20 rfl ?_
        refine s_iconst C dX12_termOf_22 (2) (by decide) (fun z43 h44 => ?_)
        refine s_ic_ge C dX12_termOf_23 (tgt := 65) rfl (fun c45 => ?_) (fun c45 => ?_)
        ·
          refine s_iinc C dX12_termOf_65 rfl (-1) (by decide) (by omega) (by decide) rfl (fun z46 h47 => ?_)
          show AW ids ad ca Γ 68 [some (.ref (ad 236)), none, some (.int x2), some (.int z46), some (.int y5_4), some (.int z41), none, none] _ _
          refine a_aload_n C dX12_termOf_68 (i := 0) rfl rfl ?_
          refine a_get C fl_RX12_104 (i := 236) kd_236 (hid 236 (by decide)) (v := .ref (ad 265)) rfl dX12_termOf_69 ?_
          refine a_iload_n C dX12_termOf_72 (i := 3) rfl rfl ?_
          refine s_iconst C dX12_termOf_73 (1) (by decide) (fun z48 h49 => ?_)
          refine s_isub C dX12_termOf_74 (by omega) (fun z50 h51 => ?_)
          refine s_iald C (i := 265) kd_265 (hid 265 (by decide)) al_265 (by omega) (by omega) dX12_termOf_75 (fun n52 h53 => ?_)
          refine s_val (fun z54 e55 => ?_)
          refine a_istore C dX12_termOf_76 (by decide) rfl (vs1 := [some (.ref (ad 236)), none, some (.int x2), some (.int z46), some (.int y5_4), some (.int z41), some (.int z54), none]) rfl ?_
          refine a_aload_n C dX12_termOf_78 (i := 0) rfl rfl ?_
          refine a_get C fl_RX12_104 (i := 236) kd_236 (hid 236 (by decide)) (v := .ref (ad 265)) rfl dX12_termOf_79 ?_
          refine a_iload_n C dX12_termOf_82 (i := 3) rfl rfl ?_
          refine s_iald C (i := 265) kd_265 (hid 265 (by decide)) al_265 (by omega) (by omega) dX12_termOf_83 (fun n56 h57 => ?_)
          refine s_val (fun z58 e59 => ?_)
          refine a_istore C dX12_termOf_84 (by decide) rfl (vs1 := [some (.ref (ad 236)), none, some (.int x2), some (.int z46), some (.int y5_4), some (.int z41), some (.int z54), some (.int z58)]) rfl ?_
          refine a_iload C dX12_termOf_86 rfl ?_
          refine s_iconst C dX12_termOf_88 (5) (by decide) (fun z60 h61 => ?_)
          refine s_ic_ne C dX12_termOf_89 (tgt := 104) rfl (fun c62 => ?_) (fun c62 => ?_)
          ·
            exact j104 _ z46 z41 z54 z58 hGq5 hoq5 (by omega) (by omega) (by omega) (by omega) (show 1 ≤ z46.toInt by omega) (show z46.toInt ≤ 399 by omega) (show z41.toInt = 5 → z58.toInt ≠ 0 by omega) (show 2 ≤ z41.toInt by omega) (show z41.toInt ≤ 5 by omega) (show dep (σ.1 261) x1.toInt.toNat ((y5_4.toInt - x1.toInt).toNat + 1) = z46.toInt by rw [gd]; split <;> omega)
          ·
            refine a_iload C dX12_termOf_92 rfl ?_
            refine s_if_ne C dX12_termOf_94 (tgt := 104) rfl (fun c63 => ?_) (fun c63 => ?_)
            ·
              exact j104 _ z46 z41 z54 z58 hGq5 hoq5 (by omega) (by omega) (by omega) (by omega) (show 1 ≤ z46.toInt by omega) (show z46.toInt ≤ 399 by omega) (show z41.toInt = 5 → z58.toInt ≠ 0 by omega) (show 2 ≤ z41.toInt by omega) (show z41.toInt ≤ 5 by omega) (show dep (σ.1 261) x1.toInt.toNat ((y5_4.toInt - x1.toInt).toNat + 1) = z46.toInt by rw [gd]; split <;> omega)
            ·
              refine a_aload_n C dX12_termOf_97 (i := 0) rfl rfl ?_
              refine s_iconst C dX12_termOf_98 (1) (by decide) (fun z64 h65 => ?_)
              refine a_put C fp_RX12_297 (i := 236) kd_236 (hid 236 (by decide)) (nar_z (by omega)).1 (nar_z (by omega)).2 dX12_termOf_99 ?_
              have hG66 := wF_236_46 (v := z64) hGq5
              refine s_iconst C dX12_termOf_102 (0) (by decide) (fun z67 h68 => ?_)
              exact a_iret Rt dX12_termOf_103 rfl (⟨hG66, (onm.F hoq5 (by decide))⟩)
        ·
          refine a_aload_n C dX12_termOf_26 (i := 0) rfl rfl ?_
          refine a_get C fl_RX12_104 (i := 236) kd_236 (hid 236 (by decide)) (v := .ref (ad 265)) rfl dX12_termOf_27 ?_
          refine a_iload_n C dX12_termOf_30 (i := 3) rfl rfl ?_
          refine a_iload C dX12_termOf_31 rfl ?_
          refine s_if_ne C dX12_termOf_33 (tgt := 46) rfl (fun c69 => ?_) (fun c69 => ?_)
          ·
            refine a_aload_n C dX12_termOf_46 (i := 0) rfl rfl ?_
            refine a_get C fl_RX12_101 (i := 236) kd_236 (hid 236 (by decide)) (v := .ref (ad 264)) rfl dX12_termOf_47 ?_
            refine a_aload_n C dX12_termOf_50 (i := 0) rfl rfl ?_
            refine a_get C fl_RX12_95 (i := 236) kd_236 (hid 236 (by decide)) (v := .ref (ad 262)) rfl dX12_termOf_51 ?_
            refine a_iload C dX12_termOf_54 rfl ?_
            refine s_iald C (i := 262) kd_262 (hid 262 (by decide)) al_262 (by omega) (by omega) dX12_termOf_56 (fun n70 h71 => ?_)
            refine s_val (fun z72 e73 => ?_)
            rw [show σ.1 262 n39 = z72 from ((congrFun (hoq5.a (i := 262) (by decide)) n39).symm.trans (by rw [show n39 = n70 by omega]; exact e73))] at gs
            refine s_iald C (i := 264) kd_264 (hid 264 (by decide)) al_264 (by omega) (by omega) dX12_termOf_57 (fun n74 h75 => ?_)
            refine s_val (fun z76 e77 => ?_)
            refine AW.sub (vs' := [some (.ref (ad 236)), none, some (.int x2), some (.int y5_3), some (.int y5_4), none, none, none]) (lsub_of (by simp [lsubB])) ?_
            exact j58 _ z76 y5_3 hGq5 hoq5 (by omega) (by omega) (by omega) (show y5_3.toInt = y5_3.toInt by omega) (show y5_3.toInt ≤ 399 by omega) (by rw [gd]; split <;> omega)
          ·
            refine a_aload_n C dX12_termOf_36 (i := 0) rfl rfl ?_
            refine a_get C fl_RX12_95 (i := 236) kd_236 (hid 236 (by decide)) (v := .ref (ad 262)) rfl dX12_termOf_37 ?_
            refine a_iload C dX12_termOf_40 rfl ?_
            refine s_iald C (i := 262) kd_262 (hid 262 (by decide)) al_262 (by omega) (by omega) dX12_termOf_42 (fun n78 h79 => ?_)
            refine s_val (fun z80 e81 => ?_)
            refine a_goto C dX12_termOf_43 (tgt := 58) rfl ?_
            refine AW.sub (vs' := [some (.ref (ad 236)), none, some (.int x2), some (.int y5_3), some (.int y5_4), none, none, none]) (lsub_of (by simp [lsubB])) ?_
            exact j58 _ z80 y5_3 hGq5 hoq5 (by omega) (by omega) (by omega) (show y5_3.toInt = y5_3.toInt by omega) (show y5_3.toInt ≤ 399 by omega) (by rw [gd]; split <;> omega)
  refine s_iconst C dX12_termOf_0 (0) (by decide) (fun z82 h83 => ?_)
  refine a_istore_n C dX12_termOf_1 (i := 3) rfl (by decide) rfl (vs1 := [some (.ref (ad 236)), some (.int x1), some (.int x2), some (.int z82), none, none, none, none]) rfl ?_
  refine a_iload_n C dX12_termOf_2 (i := 1) rfl rfl ?_
  refine a_istore C dX12_termOf_3 (by decide) rfl (vs1 := [some (.ref (ad 236)), some (.int x1), some (.int x2), some (.int z82), some (.int x1), none, none, none]) rfl ?_
  refine AW.sub (vs' := [some (.ref (ad 236)), none, some (.int x2), some (.int z82), some (.int x1), none, none, none]) (lsub_of (by simp [lsubB])) ?_
  exact j5 100000 _ z82 x1 (by omega) hG onm.rf (by omega) (by omega) (show x1.toInt ≤ x1.toInt by omega) (show z82.toInt = dep (σ.1 261) x1.toInt.toNat (x1.toInt - x1.toInt).toNat by rw [show (x1.toInt - x1.toInt).toNat = 0 by omega]; show _ = (0 : Int); omega)
theorem dX12_lawTells_0 : decode cX12_lawTells 0 = .ok (.iconst 4, 1) := by decide +kernel
theorem dX12_lawTells_1 : decode cX12_lawTells 1 = .ok (.aload_n 0, 1) := by decide +kernel
theorem dX12_lawTells_2 : decode cX12_lawTells 2 = .ok (.getfield 221, 3) := by decide +kernel
theorem dX12_lawTells_5 : decode cX12_lawTells 5 = .ok (.imul, 1) := by decide +kernel
theorem dX12_lawTells_6 : decode cX12_lawTells 6 = .ok (.iload_n 1, 1) := by decide +kernel
theorem dX12_lawTells_7 : decode cX12_lawTells 7 = .ok (.iadd, 1) := by decide +kernel
theorem dX12_lawTells_8 : decode cX12_lawTells 8 = .ok (.istore_n 3, 1) := by decide +kernel
theorem dX12_lawTells_9 : decode cX12_lawTells 9 = .ok (.aload_n 0, 1) := by decide +kernel
theorem dX12_lawTells_10 : decode cX12_lawTells 10 = .ok (.getfield 70, 3) := by decide +kernel
theorem dX12_lawTells_13 : decode cX12_lawTells 13 = .ok (.iload_n 3, 1) := by decide +kernel
theorem dX12_lawTells_14 : decode cX12_lawTells 14 = .ok (.iaload, 1) := by decide +kernel
theorem dX12_lawTells_15 : decode cX12_lawTells 15 = .ok (.aload_n 0, 1) := by decide +kernel
theorem dX12_lawTells_16 : decode cX12_lawTells 16 = .ok (.getfield 73, 3) := by decide +kernel
theorem dX12_lawTells_19 : decode cX12_lawTells 19 = .ok (.iload_n 3, 1) := by decide +kernel
theorem dX12_lawTells_20 : decode cX12_lawTells 20 = .ok (.iaload, 1) := by decide +kernel
theorem dX12_lawTells_21 : decode cX12_lawTells 21 = .ok (.if_icmp .ne 5, 3) := by decide +kernel
theorem dX12_lawTells_24 : decode cX12_lawTells 24 = .ok (.iload_n 2, 1) := by decide +kernel
theorem dX12_lawTells_25 : decode cX12_lawTells 25 = .ok (.ireturn, 1) := by decide +kernel
theorem dX12_lawTells_26 : decode cX12_lawTells 26 = .ok (.aload_n 0, 1) := by decide +kernel
theorem dX12_lawTells_27 : decode cX12_lawTells 27 = .ok (.iconst 0, 1) := by decide +kernel
theorem dX12_lawTells_28 : decode cX12_lawTells 28 = .ok (.putfield 297, 3) := by decide +kernel
theorem dX12_lawTells_31 : decode cX12_lawTells 31 = .ok (.aload_n 0, 1) := by decide +kernel
theorem dX12_lawTells_32 : decode cX12_lawTells 32 = .ok (.getfield 70, 3) := by decide +kernel
theorem dX12_lawTells_35 : decode cX12_lawTells 35 = .ok (.iload_n 3, 1) := by decide +kernel
theorem dX12_lawTells_36 : decode cX12_lawTells 36 = .ok (.iaload, 1) := by decide +kernel
theorem dX12_lawTells_37 : decode cX12_lawTells 37 = .ok (.istore 4, 2) := by decide +kernel
theorem dX12_lawTells_39 : decode cX12_lawTells 39 = .ok (.iload 4, 2) := by decide +kernel
theorem dX12_lawTells_41 : decode cX12_lawTells 41 = .ok (.aload_n 0, 1) := by decide +kernel
theorem dX12_lawTells_42 : decode cX12_lawTells 42 = .ok (.getfield 73, 3) := by decide +kernel
theorem dX12_lawTells_45 : decode cX12_lawTells 45 = .ok (.iload_n 3, 1) := by decide +kernel
theorem dX12_lawTells_46 : decode cX12_lawTells 46 = .ok (.iaload, 1) := by decide +kernel
theorem dX12_lawTells_47 : decode cX12_lawTells 47 = .ok (.if_icmp .ge 112, 3) := by decide +kernel
theorem dX12_lawTells_50 : decode cX12_lawTells 50 = .ok (.aload_n 0, 1) := by decide +kernel
theorem dX12_lawTells_51 : decode cX12_lawTells 51 = .ok (.getfield 76, 3) := by decide +kernel
theorem dX12_lawTells_54 : decode cX12_lawTells 54 = .ok (.iload 4, 2) := by decide +kernel
theorem dX12_lawTells_56 : decode cX12_lawTells 56 = .ok (.baload, 1) := by decide +kernel
theorem dX12_lawTells_57 : decode cX12_lawTells 57 = .ok (.ifCond .eq 62, 3) := by decide +kernel
theorem dX12_lawTells_60 : decode cX12_lawTells 60 = .ok (.aload_n 0, 1) := by decide +kernel
theorem dX12_lawTells_61 : decode cX12_lawTells 61 = .ok (.aload_n 0, 1) := by decide +kernel
theorem dX12_lawTells_62 : decode cX12_lawTells 62 = .ok (.getfield 80, 3) := by decide +kernel
theorem dX12_lawTells_65 : decode cX12_lawTells 65 = .ok (.iload 4, 2) := by decide +kernel
theorem dX12_lawTells_67 : decode cX12_lawTells 67 = .ok (.iaload, 1) := by decide +kernel
theorem dX12_lawTells_68 : decode cX12_lawTells 68 = .ok (.aload_n 0, 1) := by decide +kernel
theorem dX12_lawTells_69 : decode cX12_lawTells 69 = .ok (.getfield 83, 3) := by decide +kernel
theorem dX12_lawTells_72 : decode cX12_lawTells 72 = .ok (.iload 4, 2) := by decide +kernel
theorem dX12_lawTells_74 : decode cX12_lawTells 74 = .ok (.iaload, 1) := by decide +kernel
theorem dX12_lawTells_75 : decode cX12_lawTells 75 = .ok (.invokevirtual 328, 3) := by decide +kernel
theorem dX12_lawTells_78 : decode cX12_lawTells 78 = .ok (.istore 5, 2) := by decide +kernel
theorem dX12_lawTells_80 : decode cX12_lawTells 80 = .ok (.aload_n 0, 1) := by decide +kernel
theorem dX12_lawTells_81 : decode cX12_lawTells 81 = .ok (.aload_n 0, 1) := by decide +kernel
theorem dX12_lawTells_82 : decode cX12_lawTells 82 = .ok (.getfield 83, 3) := by decide +kernel
theorem dX12_lawTells_85 : decode cX12_lawTells 85 = .ok (.iload 4, 2) := by decide +kernel
theorem dX12_lawTells_87 : decode cX12_lawTells 87 = .ok (.iaload, 1) := by decide +kernel
theorem dX12_lawTells_88 : decode cX12_lawTells 88 = .ok (.aload_n 0, 1) := by decide +kernel
theorem dX12_lawTells_89 : decode cX12_lawTells 89 = .ok (.getfield 86, 3) := by decide +kernel
theorem dX12_lawTells_92 : decode cX12_lawTells 92 = .ok (.iload 4, 2) := by decide +kernel
theorem dX12_lawTells_94 : decode cX12_lawTells 94 = .ok (.iaload, 1) := by decide +kernel
theorem dX12_lawTells_95 : decode cX12_lawTells 95 = .ok (.invokevirtual 328, 3) := by decide +kernel
theorem dX12_lawTells_98 : decode cX12_lawTells 98 = .ok (.istore 6, 2) := by decide +kernel
theorem dX12_lawTells_100 : decode cX12_lawTells 100 = .ok (.aload_n 0, 1) := by decide +kernel
theorem dX12_lawTells_101 : decode cX12_lawTells 101 = .ok (.getfield 297, 3) := by decide +kernel
theorem dX12_lawTells_104 : decode cX12_lawTells 104 = .ok (.ifCond .eq 5, 3) := by decide +kernel
theorem dX12_lawTells_107 : decode cX12_lawTells 107 = .ok (.iconst 0, 1) := by decide +kernel
theorem dX12_lawTells_108 : decode cX12_lawTells 108 = .ok (.ireturn, 1) := by decide +kernel
theorem dX12_lawTells_109 : decode cX12_lawTells 109 = .ok (.iload 5, 2) := by decide +kernel
theorem dX12_lawTells_111 : decode cX12_lawTells 111 = .ok (.iload 6, 2) := by decide +kernel
theorem dX12_lawTells_113 : decode cX12_lawTells 113 = .ok (.if_icmp .lt 6, 3) := by decide +kernel
theorem dX12_lawTells_116 : decode cX12_lawTells 116 = .ok (.goto 37, 3) := by decide +kernel
theorem dX12_lawTells_119 : decode cX12_lawTells 119 = .ok (.aload_n 0, 1) := by decide +kernel
theorem dX12_lawTells_120 : decode cX12_lawTells 120 = .ok (.aload_n 0, 1) := by decide +kernel
theorem dX12_lawTells_121 : decode cX12_lawTells 121 = .ok (.getfield 86, 3) := by decide +kernel
theorem dX12_lawTells_124 : decode cX12_lawTells 124 = .ok (.iload 4, 2) := by decide +kernel
theorem dX12_lawTells_126 : decode cX12_lawTells 126 = .ok (.iaload, 1) := by decide +kernel
theorem dX12_lawTells_127 : decode cX12_lawTells 127 = .ok (.aload_n 0, 1) := by decide +kernel
theorem dX12_lawTells_128 : decode cX12_lawTells 128 = .ok (.getfield 89, 3) := by decide +kernel
theorem dX12_lawTells_131 : decode cX12_lawTells 131 = .ok (.iload 4, 2) := by decide +kernel
theorem dX12_lawTells_133 : decode cX12_lawTells 133 = .ok (.iaload, 1) := by decide +kernel
theorem dX12_lawTells_134 : decode cX12_lawTells 134 = .ok (.invokevirtual 328, 3) := by decide +kernel
theorem dX12_lawTells_137 : decode cX12_lawTells 137 = .ok (.istore 5, 2) := by decide +kernel
theorem dX12_lawTells_139 : decode cX12_lawTells 139 = .ok (.aload_n 0, 1) := by decide +kernel
theorem dX12_lawTells_140 : decode cX12_lawTells 140 = .ok (.getfield 297, 3) := by decide +kernel
theorem dX12_lawTells_143 : decode cX12_lawTells 143 = .ok (.ifCond .eq 7, 3) := by decide +kernel
theorem dX12_lawTells_146 : decode cX12_lawTells 146 = .ok (.iconst 0, 1) := by decide +kernel
theorem dX12_lawTells_147 : decode cX12_lawTells 147 = .ok (.goto 5, 3) := by decide +kernel
theorem dX12_lawTells_150 : decode cX12_lawTells 150 = .ok (.iload 5, 2) := by decide +kernel
theorem dX12_lawTells_152 : decode cX12_lawTells 152 = .ok (.ireturn, 1) := by decide +kernel
theorem dX12_lawTells_153 : decode cX12_lawTells 153 = .ok (.iinc 4 1, 3) := by decide +kernel
theorem dX12_lawTells_156 : decode cX12_lawTells 156 = .ok (.goto (-117), 3) := by decide +kernel
theorem dX12_lawTells_159 : decode cX12_lawTells 159 = .ok (.iconst 0, 1) := by decide +kernel
theorem dX12_lawTells_160 : decode cX12_lawTells 160 = .ok (.ireturn, 1) := by decide +kernel
set_option maxHeartbeats 4000000 in
set_option maxRecDepth 100000 in
theorem S_X12_lawTells_236 {l : Launch} {D : va_G} {ids : List Nat} {ad : Nat → Nat} {ca : Nat → ClassId} {σ : HS} {x1 : Int32} {x2 : Int32} (hid : ∀ i, i < 277 → i ∈ ids) (hG : GIm σ) {b : Int} (hR : RKm b σ) (hx1 : 0 ≤ x1.toInt ∧ x1.toInt ≤ 3) : Ki l D ids ad ca yX12_lawTells cX12_lawTells 7 .int 1 27 [.ref (ad 236), .int x1, .int x2] σ (fun r σ1 => (GIm σ1) ∧ (onm [265, 1046] σ σ1) ∧ (RKm b σ1)) := by
  refine Ki.of (by decide) (Nat.le_of_ble_eq_true rfl) 4 (fun Γ C Rt => ?_)
  show AW ids ad ca Γ 0 [some (.ref (ad 236)), some (.int x1), some (.int x2), none, none, none, none] [] σ
  have j119 : ∀ (σq119 : HS) (y119_4 : Int32), GIm σq119 → onm [265, 1046] σ σq119 → RKm b σq119 → 0 ≤ y119_4.toInt ∧ y119_4.toInt ≤ 260 → (y119_4.toInt ≤ 259) → (BRq (σ.1 256) (σ.1 257) (σ.1 258) (σ.1 259) (σ.1 260) (σ.1 261) (σ.1 262) y119_4.toInt.toNat) → AW ids ad ca Γ 119 [some (.ref (ad 236)), none, none, none, some (.int y119_4), none, none] [] σq119 := by
    intro σq119 y119_4 hGq119 hoq119 hRq119 hx119_0 hx119_1 hx119_2
    refine a_aload_n C dX12_lawTells_119 (i := 0) rfl rfl ?_
    refine a_aload_n C dX12_lawTells_120 (i := 0) rfl rfl ?_
    refine a_get C fl_RX12_86 (i := 236) kd_236 (hid 236 (by decide)) (v := .ref (ad 259)) rfl dX12_lawTells_121 ?_
    refine a_iload C dX12_lawTells_124 rfl ?_
    refine s_iald C (i := 259) kd_259 (hid 259 (by decide)) al_259 (by omega) (by omega) dX12_lawTells_126 (fun n1 h2 => ?_)
    refine s_val (fun z3 e4 => ?_)
    have gz126 : σ.1 259 y119_4.toInt.toNat = z3 := ((congrFun ((hoq119 : onm [265, 1046] σ _).a (i := 259) (by decide)) _).symm).trans (by rw [show y119_4.toInt.toNat = n1 by omega]; exact e4)
    refine a_aload_n C dX12_lawTells_127 (i := 0) rfl rfl ?_
    refine a_get C fl_RX12_89 (i := 236) kd_236 (hid 236 (by decide)) (v := .ref (ad 260)) rfl dX12_lawTells_128 ?_
    refine a_iload C dX12_lawTells_131 rfl ?_
    refine s_iald C (i := 260) kd_260 (hid 260 (by decide)) al_260 (by omega) (by omega) dX12_lawTells_133 (fun n5 h6 => ?_)
    refine s_val (fun z7 e8 => ?_)
    have gz133 : σ.1 260 y119_4.toInt.toNat = z7 := ((congrFun ((hoq119 : onm [265, 1046] σ _).a (i := 260) (by decide)) _).symm).trans (by rw [show y119_4.toInt.toNat = n5 by omega]; exact e8)
    have gS134 : SGm (σ.1 261) (σ.1 262) z3 z7 := by rw [← gz126, ← gz133]; exact hx119_2.2
    have gS134a := gS134.1
    have gS134b := gS134.2.1
    refine a_callVi C (i := 236) kd_236 (hid 236 (by decide)) ⟨_, _, rfl⟩ (by decide) (S_X12_termOf_236 (x1 := z3) (x2 := z7) hid hGq119 (by omega) (by omega) (by rw [(hoq119 : onm [265, 1046] σ _).a (i := 261) (by decide), (hoq119 : onm [265, 1046] σ _).a (i := 262) (by decide)]; exact gS134)) mi_X12_termOf ml_RX12_328 rfl rfl (Nat.le_of_ble_eq_true rfl) (Nat.le_of_ble_eq_true rfl) (Nat.le_of_ble_eq_true rfl) dX12_lawTells_134 (fun z9 σ10 q11 => ?_)
    obtain ⟨hG12, ho13⟩ := q11
    have hR14 := RKm.ony hRq119 ho13 (by decide)
    refine a_istore C dX12_lawTells_137 (by decide) rfl (vs1 := [some (.ref (ad 236)), none, none, none, some (.int y119_4), some (.int z9), none]) rfl ?_
    refine a_aload_n C dX12_lawTells_139 (i := 0) rfl rfl ?_
    refine a_get C fl_RX12_297 (i := 236) kd_236 (hid 236 (by decide)) (v := .int (σ10.1 236 46)) rfl dX12_lawTells_140 ?_
    refine s_if_eq C dX12_lawTells_143 (tgt := 150) rfl (fun c15 => ?_) (fun c15 => ?_)
    ·
      refine a_iload C dX12_lawTells_150 rfl ?_
      exact a_iret Rt dX12_lawTells_152 rfl (⟨hG12, (onm.tr hoq119 (onm.mono ho13 (by decide))), hR14⟩)
    ·
      refine s_iconst C dX12_lawTells_146 (0) (by decide) (fun z16 h17 => ?_)
      refine a_goto C dX12_lawTells_147 (tgt := 152) rfl ?_
      exact a_iret Rt dX12_lawTells_152 rfl (⟨hG12, (onm.tr hoq119 (onm.mono ho13 (by decide))), hR14⟩)
  have j39 : ∀ (d39 : Nat) (σq39 : HS) (y39_3 : Int32) (y39_4 : Int32), 260 - y39_4.toInt < d39 → GIm σq39 → onm [265, 1046] σ σq39 → RKm b σq39 → 0 ≤ y39_3.toInt ∧ y39_3.toInt ≤ 7 → 0 ≤ y39_4.toInt ∧ y39_4.toInt ≤ 260 → (y39_3.toInt = 4 * (σ.1 236 18).toInt + x1.toInt) → ((σ.1 254 (4 * (σ.1 236 18).toInt.toNat + x1.toInt.toNat)).toInt ≤ y39_4.toInt) → AW ids ad ca Γ 39 [some (.ref (ad 236)), none, none, some (.int y39_3), some (.int y39_4), none, none] [] σq39 := by
    intro d39
    induction d39 with
    | zero =>
      intro σq39 y39_3 y39_4 hd39 hGq39 hoq39 hRq39 hx39_0 hx39_1 hx39_2 hx39_3
      exfalso
      omega
    | succ d39 ih39 =>
      intro σq39 y39_3 y39_4 hd39 hGq39 hoq39 hRq39 hx39_0 hx39_1 hx39_2 hx39_3
      have gv := bF_236_18 hG
      refine a_iload C dX12_lawTells_39 rfl ?_
      refine a_aload_n C dX12_lawTells_41 (i := 0) rfl rfl ?_
      refine a_get C fl_RX12_73 (i := 236) kd_236 (hid 236 (by decide)) (v := .ref (ad 255)) rfl dX12_lawTells_42 ?_
      refine a_iload_n C dX12_lawTells_45 (i := 3) rfl rfl ?_
      refine s_iald C (i := 255) kd_255 (hid 255 (by decide)) al_255 (by omega) (by omega) dX12_lawTells_46 (fun n18 h19 => ?_)
      refine s_val (fun z20 e21 => ?_)
      have ge : (σ.1 255 (4 * (σ.1 236 18).toInt.toNat + x1.toInt.toNat)).toInt = z20.toInt := congrArg Int32.toInt (((congrFun (hoq39.a (i := 255) (by decide)) (4 * (σ.1 236 18).toInt.toNat + x1.toInt.toNat)).symm).trans (by rw [show (4 * (σ.1 236 18).toInt.toNat + x1.toInt.toNat) = n18 by omega]; exact e21))
      have gw := (hR.2 x1.toInt.toNat (by omega)).2.1
      refine s_ic_ge C dX12_lawTells_47 (tgt := 159) rfl (fun c22 => ?_) (fun c22 => ?_)
      ·
        refine s_iconst C dX12_lawTells_159 (0) (by decide) (fun z23 h24 => ?_)
        exact a_iret Rt dX12_lawTells_160 rfl (⟨hGq39, hoq39, hRq39⟩)
      ·
        have gB := ((hR.2 x1.toInt.toNat (by omega)).2.2 y39_4.toInt.toNat (by omega) (by omega)).1
        refine a_aload_n C dX12_lawTells_50 (i := 0) rfl rfl ?_
        refine a_get C fl_RX12_76 (i := 236) kd_236 (hid 236 (by decide)) (v := .ref (ad 256)) rfl dX12_lawTells_51 ?_
        refine a_iload C dX12_lawTells_54 rfl ?_
        refine s_zald C (i := 256) kd_256 (hid 256 (by decide)) al_256 (by omega) (by omega) dX12_lawTells_56 (fun n25 h26 => ?_)
        refine s_val (fun z27 e28 => ?_)
        have gz56 : σ.1 256 y39_4.toInt.toNat = z27 := ((congrFun ((hoq39 : onm [265, 1046] σ _).a (i := 256) (by decide)) _).symm).trans (by rw [show y39_4.toInt.toNat = n25 by omega]; exact e28)
        refine s_if_eq C dX12_lawTells_57 (tgt := 119) rfl (fun c29 => ?_) (fun c29 => ?_)
        ·
          refine AW.sub (vs' := [some (.ref (ad 236)), none, none, none, some (.int y39_4), none, none]) (lsub_of (by simp [lsubB])) ?_
          exact j119 _ y39_4 hGq39 hoq39 hRq39 (by omega) (show y39_4.toInt ≤ 259 by omega) (show BRq (σ.1 256) (σ.1 257) (σ.1 258) (σ.1 259) (σ.1 260) (σ.1 261) (σ.1 262) y39_4.toInt.toNat from gB)
        ·
          refine a_aload_n C dX12_lawTells_60 (i := 0) rfl rfl ?_
          refine a_aload_n C dX12_lawTells_61 (i := 0) rfl rfl ?_
          refine a_get C fl_RX12_80 (i := 236) kd_236 (hid 236 (by decide)) (v := .ref (ad 257)) rfl dX12_lawTells_62 ?_
          refine a_iload C dX12_lawTells_65 rfl ?_
          refine s_iald C (i := 257) kd_257 (hid 257 (by decide)) al_257 (by omega) (by omega) dX12_lawTells_67 (fun n30 h31 => ?_)
          refine s_val (fun z32 e33 => ?_)
          have gz67 : σ.1 257 y39_4.toInt.toNat = z32 := ((congrFun ((hoq39 : onm [265, 1046] σ _).a (i := 257) (by decide)) _).symm).trans (by rw [show y39_4.toInt.toNat = n30 by omega]; exact e33)
          refine a_aload_n C dX12_lawTells_68 (i := 0) rfl rfl ?_
          refine a_get C fl_RX12_83 (i := 236) kd_236 (hid 236 (by decide)) (v := .ref (ad 258)) rfl dX12_lawTells_69 ?_
          refine a_iload C dX12_lawTells_72 rfl ?_
          refine s_iald C (i := 258) kd_258 (hid 258 (by decide)) al_258 (by omega) (by omega) dX12_lawTells_74 (fun n34 h35 => ?_)
          refine s_val (fun z36 e37 => ?_)
          have gz74 : σ.1 258 y39_4.toInt.toNat = z36 := ((congrFun ((hoq39 : onm [265, 1046] σ _).a (i := 258) (by decide)) _).symm).trans (by rw [show y39_4.toInt.toNat = n34 by omega]; exact e37)
          have gS75 : SGm (σ.1 261) (σ.1 262) z32 z36 := by rw [← gz67, ← gz74]; exact (gB.1 (by rw [gz56]; omega)).1
          have gS75a := gS75.1
          have gS75b := gS75.2.1
          refine a_callVi C (i := 236) kd_236 (hid 236 (by decide)) ⟨_, _, rfl⟩ (by decide) (S_X12_termOf_236 (x1 := z32) (x2 := z36) hid hGq39 (by omega) (by omega) (by rw [(hoq39 : onm [265, 1046] σ _).a (i := 261) (by decide), (hoq39 : onm [265, 1046] σ _).a (i := 262) (by decide)]; exact gS75)) mi_X12_termOf ml_RX12_328 rfl rfl (Nat.le_of_ble_eq_true rfl) (Nat.le_of_ble_eq_true rfl) (Nat.le_of_ble_eq_true rfl) dX12_lawTells_75 (fun z38 σ39 q40 => ?_)
          obtain ⟨hG41, ho42⟩ := q40
          have hR43 := RKm.ony hRq39 ho42 (by decide)
          refine a_istore C dX12_lawTells_78 (by decide) rfl (vs1 := [some (.ref (ad 236)), none, none, some (.int y39_3), some (.int y39_4), some (.int z38), none]) rfl ?_
          refine a_aload_n C dX12_lawTells_80 (i := 0) rfl rfl ?_
          refine a_aload_n C dX12_lawTells_81 (i := 0) rfl rfl ?_
          refine a_get C fl_RX12_83 (i := 236) kd_236 (hid 236 (by decide)) (v := .ref (ad 258)) rfl dX12_lawTells_82 ?_
          refine a_iload C dX12_lawTells_85 rfl ?_
          refine s_iald C (i := 258) kd_258 (hid 258 (by decide)) al_258 (by omega) (by omega) dX12_lawTells_87 (fun n44 h45 => ?_)
          refine s_val (fun z46 e47 => ?_)
          have gz87 : σ.1 258 y39_4.toInt.toNat = z46 := ((congrFun (((onm.tr hoq39 (onm.mono ho42 (by decide))) : onm [265, 1046] σ _).a (i := 258) (by decide)) _).symm).trans (by rw [show y39_4.toInt.toNat = n44 by omega]; exact e47)
          refine a_aload_n C dX12_lawTells_88 (i := 0) rfl rfl ?_
          refine a_get C fl_RX12_86 (i := 236) kd_236 (hid 236 (by decide)) (v := .ref (ad 259)) rfl dX12_lawTells_89 ?_
          refine a_iload C dX12_lawTells_92 rfl ?_
          refine s_iald C (i := 259) kd_259 (hid 259 (by decide)) al_259 (by omega) (by omega) dX12_lawTells_94 (fun n48 h49 => ?_)
          refine s_val (fun z50 e51 => ?_)
          have gz94 : σ.1 259 y39_4.toInt.toNat = z50 := ((congrFun (((onm.tr hoq39 (onm.mono ho42 (by decide))) : onm [265, 1046] σ _).a (i := 259) (by decide)) _).symm).trans (by rw [show y39_4.toInt.toNat = n48 by omega]; exact e51)
          have gS95 : SGm (σ.1 261) (σ.1 262) z46 z50 := by rw [← gz87, ← gz94]; exact (gB.1 (by rw [gz56]; omega)).2
          have gS95a := gS95.1
          have gS95b := gS95.2.1
          refine a_callVi C (i := 236) kd_236 (hid 236 (by decide)) ⟨_, _, rfl⟩ (by decide) (S_X12_termOf_236 (x1 := z46) (x2 := z50) hid hG41 (by omega) (by omega) (by rw [((onm.tr hoq39 (onm.mono ho42 (by decide))) : onm [265, 1046] σ _).a (i := 261) (by decide), ((onm.tr hoq39 (onm.mono ho42 (by decide))) : onm [265, 1046] σ _).a (i := 262) (by decide)]; exact gS95)) mi_X12_termOf ml_RX12_328 rfl rfl (Nat.le_of_ble_eq_true rfl) (Nat.le_of_ble_eq_true rfl) (Nat.le_of_ble_eq_true rfl) dX12_lawTells_95 (fun z52 σ53 q54 => ?_)
          obtain ⟨hG55, ho56⟩ := q54
          have hR57 := RKm.ony hR43 ho56 (by decide)
          refine a_istore C dX12_lawTells_98 (by decide) rfl (vs1 := [some (.ref (ad 236)), none, none, some (.int y39_3), some (.int y39_4), some (.int z38), some (.int z52)]) rfl ?_
          refine a_aload_n C dX12_lawTells_100 (i := 0) rfl rfl ?_
          refine a_get C fl_RX12_297 (i := 236) kd_236 (hid 236 (by decide)) (v := .int (σ53.1 236 46)) rfl dX12_lawTells_101 ?_
          refine s_if_eq C dX12_lawTells_104 (tgt := 109) rfl (fun c58 => ?_) (fun c58 => ?_)
          ·
            refine a_iload C dX12_lawTells_109 rfl ?_
            refine a_iload C dX12_lawTells_111 rfl ?_
            refine s_ic_lt C dX12_lawTells_113 (tgt := 119) rfl (fun c59 => ?_) (fun c59 => ?_)
            ·
              refine AW.sub (vs' := [some (.ref (ad 236)), none, none, none, some (.int y39_4), none, none]) (lsub_of (by simp [lsubB])) ?_
              exact j119 _ y39_4 hG55 (onm.tr (onm.tr hoq39 (onm.mono ho42 (by decide))) (onm.mono ho56 (by decide))) hR57 (by omega) (show y39_4.toInt ≤ 259 by omega) (show BRq (σ.1 256) (σ.1 257) (σ.1 258) (σ.1 259) (σ.1 260) (σ.1 261) (σ.1 262) y39_4.toInt.toNat from gB)
            ·
              refine a_goto C dX12_lawTells_116 (tgt := 153) rfl ?_
              refine s_iinc C dX12_lawTells_153 rfl (1) (by decide) (by omega) (by decide) rfl (fun z60 h61 => ?_)
              show AW ids ad ca Γ 156 [some (.ref (ad 236)), none, none, some (.int y39_3), some (.int z60), some (.int z38), some (.int z52)] _ _
              refine a_goto C dX12_lawTells_156 (tgt := 39) rfl ?_
              refine AW.sub (vs' := [some (.ref (ad 236)), none, none, some (.int y39_3), some (.int z60), none, none]) (lsub_of (by simp [lsubB])) ?_
              exact ih39 _ y39_3 z60 (by omega) hG55 (onm.tr (onm.tr hoq39 (onm.mono ho42 (by decide))) (onm.mono ho56 (by decide))) hR57 (by omega) (by omega) (show y39_3.toInt = 4 * (σ.1 236 18).toInt + x1.toInt by omega) (show (σ.1 254 (4 * (σ.1 236 18).toInt.toNat + x1.toInt.toNat)).toInt ≤ z60.toInt by omega)
          ·
            refine s_iconst C dX12_lawTells_107 (0) (by decide) (fun z62 h63 => ?_)
            exact a_iret Rt dX12_lawTells_108 rfl (⟨hG55, (onm.tr (onm.tr hoq39 (onm.mono ho42 (by decide))) (onm.mono ho56 (by decide))), hR57⟩)
  refine s_iconst C dX12_lawTells_0 (4) (by decide) (fun z64 h65 => ?_)
  refine a_aload_n C dX12_lawTells_1 (i := 0) rfl rfl ?_
  have g66 := bF_236_18 hG
  refine a_get C fl_RX12_221 (i := 236) kd_236 (hid 236 (by decide)) (v := .int (σ.1 236 18)) rfl dX12_lawTells_2 ?_
  refine s_imuld C dX12_lawTells_5 (4) (by omega) (by omega) (fun z67 h68 => ?_)
  refine a_iload_n C dX12_lawTells_6 (i := 1) rfl rfl ?_
  refine s_iadd C dX12_lawTells_7 (by omega) (fun z69 h70 => ?_)
  refine a_istore_n C dX12_lawTells_8 (i := 3) rfl (by decide) rfl (vs1 := [some (.ref (ad 236)), some (.int x1), some (.int x2), some (.int z69), none, none, none]) rfl ?_
  refine a_aload_n C dX12_lawTells_9 (i := 0) rfl rfl ?_
  refine a_get C fl_RX12_70 (i := 236) kd_236 (hid 236 (by decide)) (v := .ref (ad 254)) rfl dX12_lawTells_10 ?_
  refine a_iload_n C dX12_lawTells_13 (i := 3) rfl rfl ?_
  refine s_iald C (i := 254) kd_254 (hid 254 (by decide)) al_254 (by omega) (by omega) dX12_lawTells_14 (fun n71 h72 => ?_)
  refine s_val (fun z73 e74 => ?_)
  refine a_aload_n C dX12_lawTells_15 (i := 0) rfl rfl ?_
  refine a_get C fl_RX12_73 (i := 236) kd_236 (hid 236 (by decide)) (v := .ref (ad 255)) rfl dX12_lawTells_16 ?_
  refine a_iload_n C dX12_lawTells_19 (i := 3) rfl rfl ?_
  refine s_iald C (i := 255) kd_255 (hid 255 (by decide)) al_255 (by omega) (by omega) dX12_lawTells_20 (fun n75 h76 => ?_)
  refine s_val (fun z77 e78 => ?_)
  refine s_ic_ne C dX12_lawTells_21 (tgt := 26) rfl (fun c79 => ?_) (fun c79 => ?_)
  ·
    refine a_aload_n C dX12_lawTells_26 (i := 0) rfl rfl ?_
    refine s_iconst C dX12_lawTells_27 (0) (by decide) (fun z80 h81 => ?_)
    refine a_put C fp_RX12_297 (i := 236) kd_236 (hid 236 (by decide)) (nar_z (by omega)).1 (nar_z (by omega)).2 dX12_lawTells_28 ?_
    have hG82 := wF_236_46 (v := z80) hG
    have hR83 := RKm.ony (σ1 := hI _ 236 46 z80) hR (onm.F (L := [1046]) onm.rf (by decide)) (by decide)
    refine a_aload_n C dX12_lawTells_31 (i := 0) rfl rfl ?_
    refine a_get C fl_RX12_70 (i := 236) kd_236 (hid 236 (by decide)) (v := .ref (ad 254)) rfl dX12_lawTells_32 ?_
    refine a_iload_n C dX12_lawTells_35 (i := 3) rfl rfl ?_
    refine s_iald C (i := 254) kd_254 (hid 254 (by decide)) al_254 (by omega) (by omega) dX12_lawTells_36 (fun n84 h85 => ?_)
    refine s_val (fun z86 e87 => ?_)
    have g88 : z86.toInt = z73.toInt := congrArg Int32.toInt (e87.symm.trans ((congrArg (σ.1 254) (show n84 = n71 by omega)).trans e74))
    have gf : (σ.1 254 (4 * (σ.1 236 18).toInt.toNat + x1.toInt.toNat)).toInt = z86.toInt := congrArg Int32.toInt (by rw [show (4 * (σ.1 236 18).toInt.toNat + x1.toInt.toNat) = n84 by omega]; exact e87)
    have gw := (hR.2 x1.toInt.toNat (by omega)).1
    refine a_istore C dX12_lawTells_37 (by decide) rfl (vs1 := [some (.ref (ad 236)), some (.int x1), some (.int x2), some (.int z69), some (.int z86), none, none]) rfl ?_
    refine AW.sub (vs' := [some (.ref (ad 236)), none, none, some (.int z69), some (.int z86), none, none]) (lsub_of (by simp [lsubB])) ?_
    exact j39 100000 _ z69 z86 (by omega) hG82 (onm.F onm.rf (by decide)) hR83 (by omega) (by omega) (show z69.toInt = 4 * (σ.1 236 18).toInt + x1.toInt by omega) (show (σ.1 254 (4 * (σ.1 236 18).toInt.toNat + x1.toInt.toNat)).toInt ≤ z86.toInt by omega)
  ·
    refine a_iload_n C dX12_lawTells_24 (i := 2) rfl rfl ?_
    exact a_iret Rt dX12_lawTells_25 rfl (⟨hG, onm.rf, hR⟩)
