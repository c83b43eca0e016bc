theorem dX12_pattern_8 : decode cX12_pattern 8 = .ok (.iload_n 2, 1) := by decide +kernel
theorem dX12_pattern_9 : decode cX12_pattern 9 = .ok (.iconst (-1), 1) := by decide +kernel
theorem dX12_pattern_10 : decode cX12_pattern 10 = .ok (.aload_n 0, 1) := by decide +kernel
theorem dX12_pattern_11 : decode cX12_pattern 11 = .ok (.iload_n 1, 1) := by decide +kernel
theorem dX12_pattern_12 : decode cX12_pattern 12 = .ok (.invokevirtual 318, 3) := by decide +kernel
theorem dX12_pattern_15 : decode cX12_pattern 15 = .ok (.iconst 1, 1) := by decide +kernel
theorem dX12_pattern_16 : decode cX12_pattern 16 = .ok (.isub, 1) := by decide +kernel
theorem dX12_pattern_17 : decode cX12_pattern 17 = .ok (.invokestatic 301, 3) := by decide +kernel
theorem dX12_pattern_20 : decode cX12_pattern 20 = .ok (.ifCond .ne 5, 3) := by decide +kernel
theorem dX12_pattern_25 : decode cX12_pattern 25 = .ok (.iload_n 2, 1) := by decide +kernel
theorem dX12_pattern_26 : decode cX12_pattern 26 = .ok (.iconst (-1), 1) := by decide +kernel
theorem dX12_pattern_27 : decode cX12_pattern 27 = .ok (.if_icmp .ne 11, 3) := by decide +kernel
theorem dX12_pattern_30 : decode cX12_pattern 30 = .ok (.aload_n 0, 1) := by decide +kernel
theorem dX12_pattern_31 : decode cX12_pattern 31 = .ok (.iload_n 1, 1) := by decide +kernel
theorem dX12_pattern_32 : decode cX12_pattern 32 = .ok (.invokevirtual 318, 3) := by decide +kernel
theorem dX12_pattern_35 : decode cX12_pattern 35 = .ok (.goto 9, 3) := by decide +kernel
theorem dX12_pattern_38 : decode cX12_pattern 38 = .ok (.aload_n 0, 1) := by decide +kernel
theorem dX12_pattern_39 : decode cX12_pattern 39 = .ok (.iload_n 1, 1) := by decide +kernel
theorem dX12_pattern_40 : decode cX12_pattern 40 = .ok (.iload_n 2, 1) := by decide +kernel
theorem dX12_pattern_41 : decode cX12_pattern 41 = .ok (.invokevirtual 321, 3) := by decide +kernel
theorem dX12_pattern_44 : decode cX12_pattern 44 = .ok (.ireturn, 1) := by decide +kernel
set_option maxHeartbeats 4000000 in
set_option maxRecDepth 100000 in
theorem S_X12_pattern_236 {l : Launch} {D : va_G} {ids : List Nat} {ad : Nat → Nat} {ca : Nat → ClassId} {σ : HS} {x1 : Int32} {x2 : Int32} (hid : ∀ i, i < 277 → i ∈ ids) (hG : GIm σ) {b : Int} (hR : RKm b σ) : Ki l D ids ad ca yX12_pattern cX12_pattern 3 .int 2 43 [.ref (ad 236), .int x1, .int x2] σ (fun r σ1 => (σ1 = σ)) := by
  refine Ki.of (by decide) (Nat.le_of_ble_eq_true rfl) 0 (fun Γ C Rt => ?_)
  show AW ids ad ca Γ 0 [some (.ref (ad 236)), some (.int x1), some (.int x2)] [] σ
  refine a_aload_n C dX12_pattern_0 (i := 0) rfl rfl ?_
  refine a_iload_n C dX12_pattern_1 (i := 1) rfl rfl ?_
  refine a_callVi C (i := 236) kd_236 (hid 236 (by decide)) ⟨_, _, rfl⟩ (by decide) (S_X12_isPattern_236 (x1 := x1) hid hG) mi_X12_isPattern ml_RX12_393 rfl rfl (Nat.le_of_ble_eq_true rfl) (Nat.le_of_ble_eq_true rfl) (Nat.le_of_ble_eq_true rfl) dX12_pattern_2 (fun z1 σ2 q3 => ?_)
  obtain ⟨w4, w5, w6⟩ := q3
  rw [w4]
  refine s_if_eq C dX12_pattern_5 (tgt := 23) rfl (fun c7 => ?_) (fun c7 => ?_)
  ·
    refine s_iconst C dX12_pattern_23 (-1) (by decide) (fun z8 h9 => ?_)
    exact a_iret Rt dX12_pattern_24 rfl (rfl)
  ·
    refine a_iload_n C dX12_pattern_8 (i := 2) rfl rfl ?_
    refine s_iconst C dX12_pattern_9 (-1) (by decide) (fun z10 h11 => ?_)
    refine a_aload_n C dX12_pattern_10 (i := 0) rfl rfl ?_
    refine a_iload_n C dX12_pattern_11 (i := 1) rfl rfl ?_
    refine a_callVi C (i := 236) kd_236 (hid 236 (by decide)) ⟨_, _, rfl⟩ (by decide) (S_X12_lengthOf_236 (x1 := x1) hid hG hR (by omega) (by omega)) mi_X12_lengthOf ml_RX12_318 rfl rfl (Nat.le_of_ble_eq_true rfl) (Nat.le_of_ble_eq_true rfl) (Nat.le_of_ble_eq_true rfl) dX12_pattern_12 (fun z12 σ13 q14 => ?_)
    obtain ⟨w15, w16⟩ := q14
    rw [w15]
    refine s_iconst C dX12_pattern_15 (1) (by decide) (fun z17 h18 => ?_)
    refine s_isub C dX12_pattern_16 (by omega) (fun z19 h20 => ?_)
    refine a_callSi C (S_X12_in (x1 := x2) (x2 := z10) (x3 := z19) hid hG) ms_X12_in ml_RX12_301 rfl rfl (Nat.le_of_ble_eq_true rfl) (Nat.le_of_ble_eq_true rfl) (Nat.le_of_ble_eq_true rfl) dX12_pattern_17 (fun z21 σ22 q23 => ?_)
    obtain ⟨w24, w25, w26⟩ := q23
    rw [w24]
    refine s_if_ne C dX12_pattern_20 (tgt := 25) rfl (fun c27 => ?_) (fun c27 => ?_)
    ·
      refine a_iload_n C dX12_pattern_25 (i := 2) rfl rfl ?_
      refine s_iconst C dX12_pattern_26 (-1) (by decide) (fun z28 h29 => ?_)
      refine s_ic_ne C dX12_pattern_27 (tgt := 38) rfl (fun c30 => ?_) (fun c30 => ?_)
      ·
        refine a_aload_n C dX12_pattern_38 (i := 0) rfl rfl ?_
        refine a_iload_n C dX12_pattern_39 (i := 1) rfl rfl ?_
        refine a_iload_n C dX12_pattern_40 (i := 2) rfl rfl ?_
        refine a_callVi C (i := 236) kd_236 (hid 236 (by decide)) ⟨_, _, rfl⟩ (by decide) (S_X12_heightAt_236 (x1 := x1) (x2 := x2) hid hG hR (by omega) (by omega) (by omega)) mi_X12_heightAt ml_RX12_321 rfl rfl (Nat.le_of_ble_eq_true rfl) (Nat.le_of_ble_eq_true rfl) (Nat.le_of_ble_eq_true rfl) dX12_pattern_41 (fun z31 σ32 q33 => ?_)
        obtain ⟨w34, w35⟩ := q33
        rw [w34]
        exact a_iret Rt dX12_pattern_44 rfl (rfl)
      ·
        refine a_aload_n C dX12_pattern_30 (i := 0) rfl rfl ?_
        refine a_iload_n C dX12_pattern_31 (i := 1) rfl rfl ?_
        refine a_callVi C (i := 236) kd_236 (hid 236 (by decide)) ⟨_, _, rfl⟩ (by decide) (S_X12_lengthOf_236 (x1 := x1) hid hG hR (by omega) (by omega)) mi_X12_lengthOf ml_RX12_318 rfl rfl (Nat.le_of_ble_eq_true rfl) (Nat.le_of_ble_eq_true rfl) (Nat.le_of_ble_eq_true rfl) dX12_pattern_32 (fun z36 σ37 q38 => ?_)
        obtain ⟨w39, w40⟩ := q38
        rw [w39]
        refine a_goto C dX12_pattern_35 (tgt := 44) rfl ?_
        exact a_iret Rt dX12_pattern_44 rfl (rfl)
    ·
      refine s_iconst C dX12_pattern_23 (-1) (by decide) (fun z41 h42 => ?_)
      exact a_iret Rt dX12_pattern_24 rfl (rfl)
theorem dX12_tells_8 : decode cX12_tells 8 = .ok (.iload_n 3, 1) := by decide +kernel
theorem dX12_tells_9 : decode cX12_tells 9 = .ok (.iconst 0, 1) := by decide +kernel
theorem dX12_tells_10 : decode cX12_tells 10 = .ok (.iconst 3, 1) := by decide +kernel
theorem dX12_tells_11 : decode cX12_tells 11 = .ok (.invokestatic 301, 3) := by decide +kernel
theorem dX12_tells_14 : decode cX12_tells 14 = .ok (.ifCond .eq 18, 3) := by decide +kernel
theorem dX12_tells_17 : decode cX12_tells 17 = .ok (.iload_n 3, 1) := by decide +kernel
theorem dX12_tells_18 : decode cX12_tells 18 = .ok (.iconst 2, 1) := by decide +kernel
theorem dX12_tells_19 : decode cX12_tells 19 = .ok (.if_icmp .ge 16, 3) := by decide +kernel
theorem dX12_tells_22 : decode cX12_tells 22 = .ok (.iload_n 2, 1) := by decide +kernel
theorem dX12_tells_23 : decode cX12_tells 23 = .ok (.iconst 0, 1) := by decide +kernel
theorem dX12_tells_24 : decode cX12_tells 24 = .ok (.bipush 9, 2) := by decide +kernel
theorem dX12_tells_26 : decode cX12_tells 26 = .ok (.invokestatic 301, 3) := by decide +kernel
theorem dX12_tells_29 : decode cX12_tells 29 = .ok (.ifCond .ne 6, 3) := by decide +kernel
theorem dX12_tells_35 : decode cX12_tells 35 = .ok (.aload_n 0, 1) := by decide +kernel
theorem dX12_tells_36 : decode cX12_tells 36 = .ok (.invokevirtual 311, 3) := by decide +kernel
theorem dX12_tells_39 : decode cX12_tells 39 = .ok (.aload_n 0, 1) := by decide +kernel
theorem dX12_tells_40 : decode cX12_tells 40 = .ok (.iconst 0, 1) := by decide +kernel
theorem dX12_tells_41 : decode cX12_tells 41 = .ok (.invokevirtual 350, 3) := by decide +kernel
theorem dX12_tells_44 : decode cX12_tells 44 = .ok (.invokestatic 353, 3) := by decide +kernel
theorem dX12_tells_47 : decode cX12_tells 47 = .ok (.istore 4, 2) := by decide +kernel
theorem dX12_tells_49 : decode cX12_tells 49 = .ok (.iload_n 3, 1) := by decide +kernel
theorem dX12_tells_50 : decode cX12_tells 50 = .ok (.ifCond .ne 14, 3) := by decide +kernel
theorem dX12_tells_53 : decode cX12_tells 53 = .ok (.aload_n 0, 1) := by decide +kernel
theorem dX12_tells_54 : decode cX12_tells 54 = .ok (.iload_n 1, 1) := by decide +kernel
theorem dX12_tells_55 : decode cX12_tells 55 = .ok (.iload_n 2, 1) := by decide +kernel
theorem dX12_tells_56 : decode cX12_tells 56 = .ok (.iload 4, 2) := by decide +kernel
theorem dX12_tells_58 : decode cX12_tells 58 = .ok (.invokevirtual 356, 3) := by decide +kernel
theorem dX12_tells_61 : decode cX12_tells 61 = .ok (.goto 41, 3) := by decide +kernel
theorem dX12_tells_64 : decode cX12_tells 64 = .ok (.iload_n 3, 1) := by decide +kernel
theorem dX12_tells_65 : decode cX12_tells 65 = .ok (.iconst 1, 1) := by decide +kernel
theorem dX12_tells_66 : decode cX12_tells 66 = .ok (.if_icmp .ne 14, 3) := by decide +kernel
theorem dX12_tells_69 : decode cX12_tells 69 = .ok (.aload_n 0, 1) := by decide +kernel
theorem dX12_tells_70 : decode cX12_tells 70 = .ok (.iload_n 1, 1) := by decide +kernel
theorem dX12_tells_71 : decode cX12_tells 71 = .ok (.iload_n 2, 1) := by decide +kernel
theorem dX12_tells_72 : decode cX12_tells 72 = .ok (.iload 4, 2) := by decide +kernel
theorem dX12_tells_74 : decode cX12_tells 74 = .ok (.invokevirtual 371, 3) := by decide +kernel
theorem dX12_tells_77 : decode cX12_tells 77 = .ok (.goto 25, 3) := by decide +kernel
theorem dX12_tells_80 : decode cX12_tells 80 = .ok (.iload_n 3, 1) := by decide +kernel
theorem dX12_tells_81 : decode cX12_tells 81 = .ok (.iconst 2, 1) := by decide +kernel
theorem dX12_tells_82 : decode cX12_tells 82 = .ok (.if_icmp .ne 13, 3) := by decide +kernel
theorem dX12_tells_85 : decode cX12_tells 85 = .ok (.aload_n 0, 1) := by decide +kernel
theorem dX12_tells_86 : decode cX12_tells 86 = .ok (.iload_n 1, 1) := by decide +kernel
theorem dX12_tells_87 : decode cX12_tells 87 = .ok (.iload 4, 2) := by decide +kernel
theorem dX12_tells_89 : decode cX12_tells 89 = .ok (.invokevirtual 362, 3) := by decide +kernel
theorem dX12_tells_92 : decode cX12_tells 92 = .ok (.goto 10, 3) := by decide +kernel
theorem dX12_tells_95 : decode cX12_tells 95 = .ok (.aload_n 0, 1) := by decide +kernel
theorem dX12_tells_96 : decode cX12_tells 96 = .ok (.iload_n 1, 1) := by decide +kernel
theorem dX12_tells_97 : decode cX12_tells 97 = .ok (.iload 4, 2) := by decide +kernel
theorem dX12_tells_99 : decode cX12_tells 99 = .ok (.invokevirtual 359, 3) := by decide +kernel
theorem dX12_tells_102 : decode cX12_tells 102 = .ok (.ireturn, 1) := by decide +kernel
set_option maxHeartbeats 4000000 in
set_option maxRecDepth 100000 in
theorem S_X12_tells_236 {l : Launch} {D : va_G} {ids : List Nat} {ad : Nat → Nat} {ca : Nat → ClassId} {σ : HS} {x1 : Int32} {x2 : Int32} {x3 : Int32} (hid : ∀ i, i < 277 → i ∈ ids) (hG : GIm σ) {b : Int} (hR : RKm b σ) : Ki l D ids ad ca yX12_tells cX12_tells 5 .int 3 76 [.ref (ad 236), .int x1, .int x2, .int x3] σ (fun r σ1 => (GIm σ1) ∧ (onm [264, 265, 267, 1046, 1049, 1050, 2021, 2026, 2027] σ σ1) ∧ (RKm b σ1)) := by
  refine Ki.of (by decide) (Nat.le_of_ble_eq_true rfl) 1 (fun Γ C Rt => ?_)
  show AW ids ad ca Γ 0 [some (.ref (ad 236)), some (.int x1), some (.int x2), some (.int x3), none] [] σ
  have j35 : ∀ (σq35 : HS), GIm σq35 → onm [264, 265, 267, 1046, 1049, 1050, 2021, 2026, 2027] σ σq35 → RKm b σq35 → 0 ≤ x1.toInt ∧ x1.toInt ≤ 6 → AW ids ad ca Γ 35 [some (.ref (ad 236)), some (.int x1), some (.int x2), some (.int x3), none] [] σq35 := by
    intro σq35 hGq35 hoq35 hRq35 hx35_0
    refine a_aload_n C dX12_tells_35 (i := 0) rfl rfl ?_
    refine a_callVv C (i := 236) kd_236 (hid 236 (by decide)) ⟨_, _, rfl⟩ (by decide) (S_X12_copies_236 hid hGq35 hRq35) mi_X12_copies ml_RX12_311 rfl rfl (Nat.le_of_ble_eq_true rfl) (Nat.le_of_ble_eq_true rfl) (Nat.le_of_ble_eq_true rfl) dX12_tells_36 (fun σ2 q3 => ?_)
    obtain ⟨hG4, ho5, hR6, w7⟩ := q3
    refine a_aload_n C dX12_tells_39 (i := 0) rfl rfl ?_
    refine s_iconst C dX12_tells_40 (0) (by decide) (fun z8 h9 => ?_)
    refine a_callVi C (i := 236) kd_236 (hid 236 (by decide)) ⟨_, _, rfl⟩ (by decide) (S_X12_thingsSo_236 (x1 := z8) hid hG4) mi_X12_thingsSo ml_RX12_350 rfl rfl (Nat.le_of_ble_eq_true rfl) (Nat.le_of_ble_eq_true rfl) (Nat.le_of_ble_eq_true rfl) dX12_tells_41 (fun z10 σ11 q12 => ?_)
    rw [q12]
    refine a_callSi C (S_X12_bits (x1 := z10) hid hG4) ms_X12_bits ml_RX12_353 rfl rfl (Nat.le_of_ble_eq_true rfl) (Nat.le_of_ble_eq_true rfl) (Nat.le_of_ble_eq_true rfl) dX12_tells_44 (fun z13 σ14 q15 => ?_)
    rw [q15]
    refine a_istore C dX12_tells_47 (by decide) rfl (vs1 := [some (.ref (ad 236)), some (.int x1), some (.int x2), some (.int x3), some (.int z13)]) rfl ?_
    refine a_iload_n C dX12_tells_49 (i := 3) rfl rfl ?_
    refine s_if_ne C dX12_tells_50 (tgt := 64) rfl (fun c16 => ?_) (fun c16 => ?_)
    ·
      refine a_iload_n C dX12_tells_64 (i := 3) rfl rfl ?_
      refine s_iconst C dX12_tells_65 (1) (by decide) (fun z17 h18 => ?_)
      refine s_ic_ne C dX12_tells_66 (tgt := 80) rfl (fun c19 => ?_) (fun c19 => ?_)
      ·
        refine a_iload_n C dX12_tells_80 (i := 3) rfl rfl ?_
        refine s_iconst C dX12_tells_81 (2) (by decide) (fun z20 h21 => ?_)
        refine s_ic_ne C dX12_tells_82 (tgt := 95) rfl (fun c22 => ?_) (fun c22 => ?_)
        ·
          refine a_aload_n C dX12_tells_95 (i := 0) rfl rfl ?_
          refine a_iload_n C dX12_tells_96 (i := 1) rfl rfl ?_
          refine a_iload C dX12_tells_97 rfl ?_
          refine a_callVi C (i := 236) kd_236 (hid 236 (by decide)) ⟨_, _, rfl⟩ (by decide) (S_X12_paysOf_236 (x1 := x1) (x2 := z13) hid hG4 hR6 (by omega)) mi_X12_paysOf ml_RX12_359 rfl rfl (Nat.le_of_ble_eq_true rfl) (Nat.le_of_ble_eq_true rfl) (Nat.le_of_ble_eq_true rfl) dX12_tells_99 (fun z23 σ24 q25 => ?_)
          obtain ⟨hG26, ho27, hR28⟩ := q25
          exact a_iret Rt dX12_tells_102 rfl (⟨hG26, (onm.tr (onm.tr hoq35 (onm.mono ho5 (by decide))) (onm.mono ho27 (by decide))), hR28⟩)
        ·
          refine a_aload_n C dX12_tells_85 (i := 0) rfl rfl ?_
          refine a_iload_n C dX12_tells_86 (i := 1) rfl rfl ?_
          refine a_iload C dX12_tells_87 rfl ?_
          refine a_callVi C (i := 236) kd_236 (hid 236 (by decide)) ⟨_, _, rfl⟩ (by decide) (S_X12_forceOf_236 (x1 := x1) (x2 := z13) hid hG4 hR6 (by omega)) mi_X12_forceOf ml_RX12_362 rfl rfl (Nat.le_of_ble_eq_true rfl) (Nat.le_of_ble_eq_true rfl) (Nat.le_of_ble_eq_true rfl) dX12_tells_89 (fun z29 σ30 q31 => ?_)
          obtain ⟨hG32, ho33, hR34⟩ := q31
          refine a_goto C dX12_tells_92 (tgt := 102) rfl ?_
          exact a_iret Rt dX12_tells_102 rfl (⟨hG32, (onm.tr (onm.tr hoq35 (onm.mono ho5 (by decide))) (onm.mono ho33 (by decide))), hR34⟩)
      ·
        refine a_aload_n C dX12_tells_69 (i := 0) rfl rfl ?_
        refine a_iload_n C dX12_tells_70 (i := 1) rfl rfl ?_
        refine a_iload_n C dX12_tells_71 (i := 2) rfl rfl ?_
        refine a_iload C dX12_tells_72 rfl ?_
        refine a_callVi C (i := 236) kd_236 (hid 236 (by decide)) ⟨_, _, rfl⟩ (by decide) (S_X12_dropsBy_236 (x1 := x1) (x2 := x2) (x3 := z13) hid hG4 hR6 (by omega)) mi_X12_dropsBy ml_RX12_371 rfl rfl (Nat.le_of_ble_eq_true rfl) (Nat.le_of_ble_eq_true rfl) (Nat.le_of_ble_eq_true rfl) dX12_tells_74 (fun z35 σ36 q37 => ?_)
        obtain ⟨hG38, ho39, hR40⟩ := q37
        refine a_goto C dX12_tells_77 (tgt := 102) rfl ?_
        exact a_iret Rt dX12_tells_102 rfl (⟨hG38, (onm.tr (onm.tr hoq35 (onm.mono ho5 (by decide))) (onm.mono ho39 (by decide))), hR40⟩)
    ·
      refine a_aload_n C dX12_tells_53 (i := 0) rfl rfl ?_
      refine a_iload_n C dX12_tells_54 (i := 1) rfl rfl ?_
      refine a_iload_n C dX12_tells_55 (i := 2) rfl rfl ?_
      refine a_iload C dX12_tells_56 rfl ?_
      refine a_callVi C (i := 236) kd_236 (hid 236 (by decide)) ⟨_, _, rfl⟩ (by decide) (S_X12_tiresBy_236 (x1 := x1) (x2 := x2) (x3 := z13) hid hG4 hR6 (by omega)) mi_X12_tiresBy ml_RX12_356 rfl rfl (Nat.le_of_ble_eq_true rfl) (Nat.le_of_ble_eq_true rfl) (Nat.le_of_ble_eq_true rfl) dX12_tells_58 (fun z41 σ42 q43 => ?_)
      obtain ⟨hG44, ho45, hR46⟩ := q43
      refine a_goto C dX12_tells_61 (tgt := 102) rfl ?_
      exact a_iret Rt dX12_tells_102 rfl (⟨hG44, (onm.tr (onm.tr hoq35 (onm.mono ho5 (by decide))) (onm.mono ho45 (by decide))), hR46⟩)
  refine a_aload_n C dX12_tells_0 (i := 0) rfl rfl ?_
  refine a_iload_n C dX12_tells_1 (i := 1) rfl rfl ?_
  refine a_callVi C (i := 236) kd_236 (hid 236 (by decide)) ⟨_, _, rfl⟩ (by decide) (S_X12_isThing_236 (x1 := x1) hid hG) mi_X12_isThing ml_RX12_390 rfl rfl (Nat.le_of_ble_eq_true rfl) (Nat.le_of_ble_eq_true rfl) (Nat.le_of_ble_eq_true rfl) dX12_tells_2 (fun z47 σ48 q49 => ?_)
  obtain ⟨w50, w51, w52⟩ := q49
  rw [w50]
  refine s_if_eq C dX12_tells_5 (tgt := 32) rfl (fun c53 => ?_) (fun c53 => ?_)
  ·
    refine s_bipush C dX12_tells_32 (-100) (by decide) (fun z54 h55 => ?_)
    exact a_iret Rt dX12_tells_34 rfl (⟨hG, onm.rf, hR⟩)
  ·
    refine a_iload_n C dX12_tells_8 (i := 3) rfl rfl ?_
    refine s_iconst C dX12_tells_9 (0) (by decide) (fun z56 h57 => ?_)
    refine s_iconst C dX12_tells_10 (3) (by decide) (fun z58 h59 => ?_)
    refine a_callSi C (S_X12_in (x1 := x3) (x2 := z56) (x3 := z58) hid hG) ms_X12_in ml_RX12_301 rfl rfl (Nat.le_of_ble_eq_true rfl) (Nat.le_of_ble_eq_true rfl) (Nat.le_of_ble_eq_true rfl) dX12_tells_11 (fun z60 σ61 q62 => ?_)
    obtain ⟨w63, w64, w65⟩ := q62
    rw [w63]
    refine s_if_eq C dX12_tells_14 (tgt := 32) rfl (fun c66 => ?_) (fun c66 => ?_)
    ·
      refine s_bipush C dX12_tells_32 (-100) (by decide) (fun z67 h68 => ?_)
      exact a_iret Rt dX12_tells_34 rfl (⟨hG, onm.rf, hR⟩)
    ·
      refine a_iload_n C dX12_tells_17 (i := 3) rfl rfl ?_
      refine s_iconst C dX12_tells_18 (2) (by decide) (fun z69 h70 => ?_)
      refine s_ic_ge C dX12_tells_19 (tgt := 35) rfl (fun c71 => ?_) (fun c71 => ?_)
      ·
        exact j35 _ hG onm.rf hR (by omega)
      ·
        refine a_iload_n C dX12_tells_22 (i := 2) rfl rfl ?_
        refine s_iconst C dX12_tells_23 (0) (by decide) (fun z72 h73 => ?_)
        refine s_bipush C dX12_tells_24 (9) (by decide) (fun z74 h75 => ?_)
        refine a_callSi C (S_X12_in (x1 := x2) (x2 := z72) (x3 := z74) hid hG) ms_X12_in ml_RX12_301 rfl rfl (Nat.le_of_ble_eq_true rfl) (Nat.le_of_ble_eq_true rfl) (Nat.le_of_ble_eq_true rfl) dX12_tells_26 (fun z76 σ77 q78 => ?_)
        obtain ⟨w79, w80, w81⟩ := q78
        rw [w79]
        refine s_if_ne C dX12_tells_29 (tgt := 35) rfl (fun c82 => ?_) (fun c82 => ?_)
        ·
          exact j35 _ hG onm.rf hR (by omega)
        ·
          refine s_bipush C dX12_tells_32 (-100) (by decide) (fun z83 h84 => ?_)
          exact a_iret Rt dX12_tells_34 rfl (⟨hG, onm.rf, hR⟩)
theorem dX12_closes_8 : decode cX12_closes 8 = .ok (.iload_n 2, 1) := by decide +kernel
theorem dX12_closes_9 : decode cX12_closes 9 = .ok (.iconst 0, 1) := by decide +kernel
theorem dX12_closes_10 : decode cX12_closes 10 = .ok (.iconst 1, 1) := by decide +kernel
theorem dX12_closes_11 : decode cX12_closes 11 = .ok (.invokestatic 301, 3) := by decide +kernel
theorem dX12_closes_14 : decode cX12_closes 14 = .ok (.ifCond .eq 15, 3) := by decide +kernel
theorem dX12_closes_17 : decode cX12_closes 17 = .ok (.aload_n 0, 1) := by decide +kernel
theorem dX12_closes_18 : decode cX12_closes 18 = .ok (.iload_n 1, 1) := by decide +kernel
theorem dX12_closes_19 : decode cX12_closes 19 = .ok (.invokevirtual 417, 3) := by decide +kernel
theorem dX12_closes_22 : decode cX12_closes 22 = .ok (.iload_n 2, 1) := by decide +kernel
theorem dX12_closes_23 : decode cX12_closes 23 = .ok (.invokestatic 420, 3) := by decide +kernel
theorem dX12_closes_26 : decode cX12_closes 26 = .ok (.goto 4, 3) := by decide +kernel
set_option maxHeartbeats 4000000 in
set_option maxRecDepth 100000 in
theorem S_X12_closes_236 {l : Launch} {D : va_G} {ids : List Nat} {ad : Nat → Nat} {ca : Nat → ClassId} {σ : HS} {x1 : Int32} {x2 : Int32} (hid : ∀ i, i < 277 → i ∈ ids) (hG : GIm σ) {b : Int} (hR : RKm b σ) : Ki l D ids ad ca yX12_closes cX12_closes 3 .int 4 87 [.ref (ad 236), .int x1, .int x2] σ (fun r σ1 => (GIm σ1) ∧ (onm [269, 1057] σ σ1) ∧ (RKm b σ1)) := by
  refine Ki.of (by decide) (Nat.le_of_ble_eq_true rfl) 0 (fun Γ C Rt => ?_)
  show AW ids ad ca Γ 0 [some (.ref (ad 236)), some (.int x1), some (.int x2)] [] σ
  refine a_aload_n C dX12_closes_0 (i := 0) rfl rfl ?_
  refine a_iload_n C dX12_closes_1 (i := 1) rfl rfl ?_
  refine a_callVi C (i := 236) kd_236 (hid 236 (by decide)) ⟨_, _, rfl⟩ (by decide) (S_X12_isPattern_236 (x1 := x1) hid hG) mi_X12_isPattern ml_RX12_393 rfl rfl (Nat.le_of_ble_eq_true rfl) (Nat.le_of_ble_eq_true rfl) (Nat.le_of_ble_eq_true rfl) dX12_closes_2 (fun z1 σ2 q3 => ?_)
  obtain ⟨w4, w5, w6⟩ := q3
  rw [w4]
  refine s_if_eq C dX12_closes_5 (tgt := 29) rfl (fun c7 => ?_) (fun c7 => ?_)
  ·
    refine s_iconst C dX12_closes_29 (-1) (by decide) (fun z8 h9 => ?_)
    exact a_iret Rt dX12_closes_30 rfl (⟨hG, onm.rf, hR⟩)
  ·
    refine a_iload_n C dX12_closes_8 (i := 2) rfl rfl ?_
    refine s_iconst C dX12_closes_9 (0) (by decide) (fun z10 h11 => ?_)
    refine s_iconst C dX12_closes_10 (1) (by decide) (fun z12 h13 => ?_)
    refine a_callSi C (S_X12_in (x1 := x2) (x2 := z10) (x3 := z12) hid hG) ms_X12_in ml_RX12_301 rfl rfl (Nat.le_of_ble_eq_true rfl) (Nat.le_of_ble_eq_true rfl) (Nat.le_of_ble_eq_true rfl) dX12_closes_11 (fun z14 σ15 q16 => ?_)
    obtain ⟨w17, w18, w19⟩ := q16
    rw [w17]
    refine s_if_eq C dX12_closes_14 (tgt := 29) rfl (fun c20 => ?_) (fun c20 => ?_)
    ·
      refine s_iconst C dX12_closes_29 (-1) (by decide) (fun z21 h22 => ?_)
      exact a_iret Rt dX12_closes_30 rfl (⟨hG, onm.rf, hR⟩)
    ·
      refine a_aload_n C dX12_closes_17 (i := 0) rfl rfl ?_
      refine a_iload_n C dX12_closes_18 (i := 1) rfl rfl ?_
      have g26 := onm.pl (onm.rf : onm [269, 1057] σ _) (by decide)
      refine a_callVi C (i := 236) kd_236 (hid 236 (by decide)) ⟨_, _, rfl⟩ (by decide) (S_X12_keepsOf_236 (x1 := x1) hid hG hR (by omega) (by omega)) mi_X12_keepsOf ml_RX12_417 rfl rfl (Nat.le_of_ble_eq_true rfl) (Nat.le_of_ble_eq_true rfl) (Nat.le_of_ble_eq_true rfl) dX12_closes_19 (fun z23 σ24 q25 => ?_)
      obtain ⟨hG27, ho28, hR29, w30⟩ := q25
      refine a_iload_n C dX12_closes_22 (i := 2) rfl rfl ?_
      refine a_callSi C (S_X12_told (x1 := z23) (x2 := x2) hid hG27) ms_X12_told ml_RX12_420 rfl rfl (Nat.le_of_ble_eq_true rfl) (Nat.le_of_ble_eq_true rfl) (Nat.le_of_ble_eq_true rfl) dX12_closes_23 (fun z31 σ32 q33 => ?_)
      rw [q33]
      refine a_goto C dX12_closes_26 (tgt := 30) rfl ?_
      exact a_iret Rt dX12_closes_30 rfl (⟨hG27, (onm.tr onm.rf (onm.mono ho28 (by decide))), hR29⟩)
theorem dX12_joined_8 : decode cX12_joined 8 = .ok (.aload_n 0, 1) := by decide +kernel
theorem dX12_joined_9 : decode cX12_joined 9 = .ok (.iload_n 2, 1) := by decide +kernel
theorem dX12_joined_10 : decode cX12_joined 10 = .ok (.invokevirtual 393, 3) := by decide +kernel
theorem dX12_joined_13 : decode cX12_joined 13 = .ok (.ifCond .eq 12, 3) := by decide +kernel
theorem dX12_joined_16 : decode cX12_joined 16 = .ok (.iload_n 3, 1) := by decide +kernel
theorem dX12_joined_17 : decode cX12_joined 17 = .ok (.iconst 0, 1) := by decide +kernel
theorem dX12_joined_18 : decode cX12_joined 18 = .ok (.iconst 1, 1) := by decide +kernel
theorem dX12_joined_19 : decode cX12_joined 19 = .ok (.invokestatic 301, 3) := by decide +kernel
theorem dX12_joined_22 : decode cX12_joined 22 = .ok (.ifCond .ne 5, 3) := by decide +kernel
theorem dX12_joined_27 : decode cX12_joined 27 = .ok (.aload_n 0, 1) := by decide +kernel
theorem dX12_joined_28 : decode cX12_joined 28 = .ok (.iload_n 1, 1) := by decide +kernel
theorem dX12_joined_29 : decode cX12_joined 29 = .ok (.iconst 0, 1) := by decide +kernel
theorem dX12_joined_30 : decode cX12_joined 30 = .ok (.invokevirtual 411, 3) := by decide +kernel
theorem dX12_joined_33 : decode cX12_joined 33 = .ok (.aload_n 0, 1) := by decide +kernel
theorem dX12_joined_34 : decode cX12_joined 34 = .ok (.iload_n 2, 1) := by decide +kernel
theorem dX12_joined_35 : decode cX12_joined 35 = .ok (.aload_n 0, 1) := by decide +kernel
theorem dX12_joined_36 : decode cX12_joined 36 = .ok (.iload_n 1, 1) := by decide +kernel
theorem dX12_joined_37 : decode cX12_joined 37 = .ok (.invokevirtual 318, 3) := by decide +kernel
theorem dX12_joined_40 : decode cX12_joined 40 = .ok (.invokevirtual 411, 3) := by decide +kernel
theorem dX12_joined_43 : decode cX12_joined 43 = .ok (.aload_n 0, 1) := by decide +kernel
theorem dX12_joined_44 : decode cX12_joined 44 = .ok (.invokevirtual 414, 3) := by decide +kernel
theorem dX12_joined_47 : decode cX12_joined 47 = .ok (.iload_n 3, 1) := by decide +kernel
theorem dX12_joined_48 : decode cX12_joined 48 = .ok (.invokestatic 420, 3) := by decide +kernel
theorem dX12_joined_51 : decode cX12_joined 51 = .ok (.ireturn, 1) := by decide +kernel
set_option maxHeartbeats 4000000 in
set_option maxRecDepth 100000 in
theorem S_X12_joined_236 {l : Launch} {D : va_G} {ids : List Nat} {ad : Nat → Nat} {ca : Nat → ClassId} {σ : HS} {x1 : Int32} {x2 : Int32} {x3 : Int32} (hid : ∀ i, i < 277 → i ∈ ids) (hG : GIm σ) {b : Int} (hR : RKm b σ) : Ki l D ids ad ca yX12_joined cX12_joined 4 .int 3 66 [.ref (ad 236), .int x1, .int x2, .int x3] σ (fun r σ1 => (GIm σ1) ∧ (onm [269, 1057] σ σ1) ∧ (RKm b σ1)) := by
  refine Ki.of (by decide) (Nat.le_of_ble_eq_true rfl) 0 (fun Γ C Rt => ?_)
  show AW ids ad ca Γ 0 [some (.ref (ad 236)), some (.int x1), some (.int x2), some (.int x3)] [] σ
  refine a_aload_n C dX12_joined_0 (i := 0) rfl rfl ?_
  refine a_iload_n C dX12_joined_1 (i := 1) rfl rfl ?_
  refine a_callVi C (i := 236) kd_236 (hid 236 (by decide)) ⟨_, _, rfl⟩ (by decide) (S_X12_isPattern_236 (x1 := x1) hid hG) mi_X12_isPattern ml_RX12_393 rfl rfl (Nat.le_of_ble_eq_true rfl) (Nat.le_of_ble_eq_true rfl) (Nat.le_of_ble_eq_true rfl) dX12_joined_2 (fun z1 σ2 q3 => ?_)
  obtain ⟨w4, w5, w6⟩ := q3
  rw [w4]
  refine s_if_eq C dX12_joined_5 (tgt := 25) rfl (fun c7 => ?_) (fun c7 => ?_)
  ·
    refine s_iconst C dX12_joined_25 (-1) (by decide) (fun z8 h9 => ?_)
    exact a_iret Rt dX12_joined_26 rfl (⟨hG, onm.rf, hR⟩)
  ·
    refine a_aload_n C dX12_joined_8 (i := 0) rfl rfl ?_
    refine a_iload_n C dX12_joined_9 (i := 2) rfl rfl ?_
    refine a_callVi C (i := 236) kd_236 (hid 236 (by decide)) ⟨_, _, rfl⟩ (by decide) (S_X12_isPattern_236 (x1 := x2) hid hG) mi_X12_isPattern ml_RX12_393 rfl rfl (Nat.le_of_ble_eq_true rfl) (Nat.le_of_ble_eq_true rfl) (Nat.le_of_ble_eq_true rfl) dX12_joined_10 (fun z10 σ11 q12 => ?_)
    obtain ⟨w13, w14, w15⟩ := q12
    rw [w13]
    refine s_if_eq C dX12_joined_13 (tgt := 25) rfl (fun c16 => ?_) (fun c16 => ?_)
    ·
      refine s_iconst C dX12_joined_25 (-1) (by decide) (fun z17 h18 => ?_)
      exact a_iret Rt dX12_joined_26 rfl (⟨hG, onm.rf, hR⟩)
    ·
      refine a_iload_n C dX12_joined_16 (i := 3) rfl rfl ?_
      refine s_iconst C dX12_joined_17 (0) (by decide) (fun z19 h20 => ?_)
      refine s_iconst C dX12_joined_18 (1) (by decide) (fun z21 h22 => ?_)
      refine a_callSi C (S_X12_in (x1 := x3) (x2 := z19) (x3 := z21) hid hG) ms_X12_in ml_RX12_301 rfl rfl (Nat.le_of_ble_eq_true rfl) (Nat.le_of_ble_eq_true rfl) (Nat.le_of_ble_eq_true rfl) dX12_joined_19 (fun z23 σ24 q25 => ?_)
      obtain ⟨w26, w27, w28⟩ := q25
      rw [w26]
      refine s_if_ne C dX12_joined_22 (tgt := 27) rfl (fun c29 => ?_) (fun c29 => ?_)
      ·
        refine a_aload_n C dX12_joined_27 (i := 0) rfl rfl ?_
        refine a_iload_n C dX12_joined_28 (i := 1) rfl rfl ?_
        refine s_iconst C dX12_joined_29 (0) (by decide) (fun z30 h31 => ?_)
        have g35 := onm.pl (onm.rf : onm [269, 1057] σ _) (by decide)
        refine a_callVv C (i := 236) kd_236 (hid 236 (by decide)) ⟨_, _, rfl⟩ (by decide) (S_X12_takesPattern_236 (x1 := x1) (x2 := z30) hid hG hR (by omega) (by omega) (by omega)) mi_X12_takesPattern ml_RX12_411 rfl rfl (Nat.le_of_ble_eq_true rfl) (Nat.le_of_ble_eq_true rfl) (Nat.le_of_ble_eq_true rfl) dX12_joined_30 (fun σ33 q34 => ?_)
        obtain ⟨hG36, ho37, hR38, w39⟩ := q34
        refine a_aload_n C dX12_joined_33 (i := 0) rfl rfl ?_
        refine a_iload_n C dX12_joined_34 (i := 2) rfl rfl ?_
        refine a_aload_n C dX12_joined_35 (i := 0) rfl rfl ?_
        refine a_iload_n C dX12_joined_36 (i := 1) rfl rfl ?_
        have g43 := onm.pl ((onm.tr onm.rf (onm.mono ho37 (by decide))) : onm [269, 1057] σ _) (by decide)
        refine a_callVi C (i := 236) kd_236 (hid 236 (by decide)) ⟨_, _, rfl⟩ (by decide) (S_X12_lengthOf_236 (x1 := x1) hid hG36 hR38 (by omega) (by omega)) mi_X12_lengthOf ml_RX12_318 rfl rfl (Nat.le_of_ble_eq_true rfl) (Nat.le_of_ble_eq_true rfl) (Nat.le_of_ble_eq_true rfl) dX12_joined_37 (fun z40 σ41 q42 => ?_)
        obtain ⟨w44, w45⟩ := q42
        rw [w44]
        have g49 := onm.pl ((onm.tr onm.rf (onm.mono ho37 (by decide))) : onm [269, 1057] σ _) (by decide)
        refine a_callVv C (i := 236) kd_236 (hid 236 (by decide)) ⟨_, _, rfl⟩ (by decide) (S_X12_takesPattern_236 (x1 := x2) (x2 := z40) hid hG36 hR38 (by omega) (by omega) (by omega)) mi_X12_takesPattern ml_RX12_411 rfl rfl (Nat.le_of_ble_eq_true rfl) (Nat.le_of_ble_eq_true rfl) (Nat.le_of_ble_eq_true rfl) dX12_joined_40 (fun σ47 q48 => ?_)
        obtain ⟨hG50, ho51, hR52, w53⟩ := q48
        refine a_aload_n C dX12_joined_43 (i := 0) rfl rfl ?_
        have g57 := bF_236_57 hG50
        refine a_callVi C (i := 236) kd_236 (hid 236 (by decide)) ⟨_, _, rfl⟩ (by decide) (S_X12_keeps_236 hid hG50 (by omega)) mi_X12_keeps ml_RX12_414 rfl rfl (Nat.le_of_ble_eq_true rfl) (Nat.le_of_ble_eq_true rfl) (Nat.le_of_ble_eq_true rfl) dX12_joined_44 (fun z54 σ55 q56 => ?_)
        rw [q56]
        refine a_iload_n C dX12_joined_47 (i := 3) rfl rfl ?_
        refine a_callSi C (S_X12_told (x1 := z54) (x2 := x3) hid hG50) ms_X12_told ml_RX12_420 rfl rfl (Nat.le_of_ble_eq_true rfl) (Nat.le_of_ble_eq_true rfl) (Nat.le_of_ble_eq_true rfl) dX12_joined_48 (fun z58 σ59 q60 => ?_)
        rw [q60]
        exact a_iret Rt dX12_joined_51 rfl (⟨hG50, (onm.tr (onm.tr onm.rf (onm.mono ho37 (by decide))) (onm.mono ho51 (by decide))), hR52⟩)
      ·
        refine s_iconst C dX12_joined_25 (-1) (by decide) (fun z61 h62 => ?_)
        exact a_iret Rt dX12_joined_26 rfl (⟨hG, onm.rf, hR⟩)
theorem dX12_isTurned_0 : decode cX12_isTurned 0 = .ok (.iconst 0, 1) := by decide +kernel
theorem dX12_isTurned_1 : decode cX12_isTurned 1 = .ok (.istore 4, 2) := by decide +kernel
theorem dX12_isTurned_3 : decode cX12_isTurned 3 = .ok (.iload 4, 2) := by decide +kernel
theorem dX12_isTurned_5 : decode cX12_isTurned 5 = .ok (.aload_n 0, 1) := by decide +kernel
theorem dX12_isTurned_6 : decode cX12_isTurned 6 = .ok (.iload_n 1, 1) := by decide +kernel
theorem dX12_isTurned_7 : decode cX12_isTurned 7 = .ok (.invokevirtual 318, 3) := by decide +kernel
theorem dX12_isTurned_10 : decode cX12_isTurned 10 = .ok (.if_icmp .ge 30, 3) := by decide +kernel
theorem dX12_isTurned_13 : decode cX12_isTurned 13 = .ok (.aload_n 0, 1) := by decide +kernel
theorem dX12_isTurned_14 : decode cX12_isTurned 14 = .ok (.iload_n 1, 1) := by decide +kernel
theorem dX12_isTurned_15 : decode cX12_isTurned 15 = .ok (.iload 4, 2) := by decide +kernel
theorem dX12_isTurned_17 : decode cX12_isTurned 17 = .ok (.iload_n 3, 1) := by decide +kernel
theorem dX12_isTurned_18 : decode cX12_isTurned 18 = .ok (.iadd, 1) := by decide +kernel
theorem dX12_isTurned_19 : decode cX12_isTurned 19 = .ok (.invokevirtual 321, 3) := by decide +kernel
theorem dX12_isTurned_22 : decode cX12_isTurned 22 = .ok (.aload_n 0, 1) := by decide +kernel
theorem dX12_isTurned_23 : decode cX12_isTurned 23 = .ok (.iload_n 2, 1) := by decide +kernel
theorem dX12_isTurned_24 : decode cX12_isTurned 24 = .ok (.iload 4, 2) := by decide +kernel
theorem dX12_isTurned_26 : decode cX12_isTurned 26 = .ok (.invokevirtual 321, 3) := by decide +kernel
theorem dX12_isTurned_29 : decode cX12_isTurned 29 = .ok (.if_icmp .eq 5, 3) := by decide +kernel
theorem dX12_isTurned_32 : decode cX12_isTurned 32 = .ok (.iconst 0, 1) := by decide +kernel
theorem dX12_isTurned_33 : decode cX12_isTurned 33 = .ok (.ireturn, 1) := by decide +kernel
theorem dX12_isTurned_34 : decode cX12_isTurned 34 = .ok (.iinc 4 1, 3) := by decide +kernel
theorem dX12_isTurned_37 : decode cX12_isTurned 37 = .ok (.goto (-34), 3) := by decide +kernel
theorem dX12_isTurned_40 : decode cX12_isTurned 40 = .ok (.iconst 1, 1) := by decide +kernel
theorem dX12_isTurned_41 : decode cX12_isTurned 41 = .ok (.ireturn, 1) := by decide +kernel
set_option maxHeartbeats 4000000 in
set_option maxRecDepth 100000 in
theorem S_X12_isTurned_236 {l : Launch} {D : va_G} {ids : List Nat} {ad : Nat → Nat} {ca : Nat → ClassId} {σ : HS} {x1 : Int32} {x2 : Int32} {x3 : Int32} (hid : ∀ i, i < 277 → i ∈ ids) (hG : GIm σ) {b : Int} (hR : RKm b σ) (hx1 : 0 ≤ x1.toInt ∧ x1.toInt ≤ 4) (hx2 : 0 ≤ x2.toInt ∧ x2.toInt ≤ 4) (hx3 : 0 ≤ x3.toInt ∧ x3.toInt ≤ 8) (hp0 : 0 ≤ x1.toInt ∧ x1.toInt ≤ 4 ∧ x1.toInt < plm σ) (hp1 : 0 ≤ x2.toInt ∧ x2.toInt ≤ 4 ∧ x2.toInt < plm σ) : Ki l D ids ad ca yX12_isTurned cX12_isTurned 5 .boolean 2 43 [.ref (ad 236), .int x1, .int x2, .int x3] σ (fun r σ1 => (σ1 = σ) ∧ (0 ≤ r.toInt ∧ r.toInt ≤ 1)) := by
  refine Ki.of (by decide) (Nat.le_of_ble_eq_true rfl) 1 (fun Γ C Rt => ?_)
  show AW ids ad ca Γ 0 [some (.ref (ad 236)), some (.int x1), some (.int x2), some (.int x3), none] [] σ
  have j3 : ∀ (d3 : Nat) (y3_4 : Int32), 8 - y3_4.toInt < d3 → 0 ≤ y3_4.toInt ∧ y3_4.toInt ≤ 8 → AW ids ad ca Γ 3 [some (.ref (ad 236)), some (.int x1), some (.int x2), some (.int x3), some (.int y3_4)] [] σ := by
    intro d3
    induction d3 with
    | zero =>
      intro y3_4 hd3 hx3_0
      exfalso
      omega
    | succ d3 ih3 =>
      intro y3_4 hd3 hx3_0
      refine a_iload C dX12_isTurned_3 rfl ?_
      refine a_aload_n C dX12_isTurned_5 (i := 0) rfl rfl ?_
      refine a_iload_n C dX12_isTurned_6 (i := 1) rfl rfl ?_
      refine a_callVi C (i := 236) kd_236 (hid 236 (by decide)) ⟨_, _, rfl⟩ (by decide) (S_X12_lengthOf_236 (x1 := x1) hid hG hR (by omega) (by omega)) mi_X12_lengthOf ml_RX12_318 rfl rfl (Nat.le_of_ble_eq_true rfl) (Nat.le_of_ble_eq_true rfl) (Nat.le_of_ble_eq_true rfl) dX12_isTurned_7 (fun z1 σ2 q3 => ?_)
      obtain ⟨w4, w5⟩ := q3
      rw [w4]
      refine s_ic_ge C dX12_isTurned_10 (tgt := 40) rfl (fun c6 => ?_) (fun c6 => ?_)
      ·
        refine s_iconst C dX12_isTurned_40 (1) (by decide) (fun z7 h8 => ?_)
        exact a_iret Rt dX12_isTurned_41 (nar_z (by omega)).1 (⟨rfl, (show 0 ≤ z7.toInt ∧ z7.toInt ≤ 1 by intros; omega)⟩)
      ·
        refine a_aload_n C dX12_isTurned_13 (i := 0) rfl rfl ?_
        refine a_iload_n C dX12_isTurned_14 (i := 1) rfl rfl ?_
        refine a_iload C dX12_isTurned_15 rfl ?_
        refine a_iload_n C dX12_isTurned_17 (i := 3) rfl rfl ?_
        refine s_iadd C dX12_isTurned_18 (by omega) (fun z9 h10 => ?_)
        refine a_callVi C (i := 236) kd_236 (hid 236 (by decide)) ⟨_, _, rfl⟩ (by decide) (S_X12_heightAt_236 (x1 := x1) (x2 := z9) hid hG hR (by omega) (by omega) (by omega)) mi_X12_heightAt ml_RX12_321 rfl rfl (Nat.le_of_ble_eq_true rfl) (Nat.le_of_ble_eq_true rfl) (Nat.le_of_ble_eq_true rfl) dX12_isTurned_19 (fun z11 σ12 q13 => ?_)
        obtain ⟨w14, w15⟩ := q13
        rw [w14]
        refine a_aload_n C dX12_isTurned_22 (i := 0) rfl rfl ?_
        refine a_iload_n C dX12_isTurned_23 (i := 2) rfl rfl ?_
        refine a_iload C dX12_isTurned_24 rfl ?_
        refine a_callVi C (i := 236) kd_236 (hid 236 (by decide)) ⟨_, _, rfl⟩ (by decide) (S_X12_heightAt_236 (x1 := x2) (x2 := y3_4) hid hG hR (by omega) (by omega) (by omega)) mi_X12_heightAt ml_RX12_321 rfl rfl (Nat.le_of_ble_eq_true rfl) (Nat.le_of_ble_eq_true rfl) (Nat.le_of_ble_eq_true rfl) dX12_isTurned_26 (fun z16 σ17 q18 => ?_)
        obtain ⟨w19, w20⟩ := q18
        rw [w19]
        refine s_ic_eq C dX12_isTurned_29 (tgt := 34) rfl (fun c21 => ?_) (fun c21 => ?_)
        ·
          refine s_iinc C dX12_isTurned_34 rfl (1) (by decide) (by omega) (by decide) rfl (fun z22 h23 => ?_)
          show AW ids ad ca Γ 37 [some (.ref (ad 236)), some (.int x1), some (.int x2), some (.int x3), some (.int z22)] _ _
          refine a_goto C dX12_isTurned_37 (tgt := 3) rfl ?_
          exact ih3 z22 (by omega) (by omega)
        ·
          refine s_iconst C dX12_isTurned_32 (0) (by decide) (fun z24 h25 => ?_)
          exact a_iret Rt dX12_isTurned_33 (nar_z (by omega)).1 (⟨rfl, (show 0 ≤ z24.toInt ∧ z24.toInt ≤ 1 by intros; omega)⟩)
  refine s_iconst C dX12_isTurned_0 (0) (by decide) (fun z26 h27 => ?_)
  refine a_istore C dX12_isTurned_1 (by decide) rfl (vs1 := [some (.ref (ad 236)), some (.int x1), some (.int x2), some (.int x3), some (.int z26)]) rfl ?_
  exact j3 100000 z26 (by omega) (by omega)
theorem dX12_turned_8 : decode cX12_turned 8 = .ok (.aload_n 0, 1) := by decide +kernel
theorem dX12_turned_9 : decode cX12_turned 9 = .ok (.iload_n 2, 1) := by decide +kernel
theorem dX12_turned_10 : decode cX12_turned 10 = .ok (.invokevirtual 393, 3) := by decide +kernel
theorem dX12_turned_13 : decode cX12_turned 13 = .ok (.ifCond .ne 5, 3) := by decide +kernel
theorem dX12_turned_18 : decode cX12_turned 18 = .ok (.aload_n 0, 1) := by decide +kernel
theorem dX12_turned_19 : decode cX12_turned 19 = .ok (.iload_n 1, 1) := by decide +kernel
theorem dX12_turned_20 : decode cX12_turned 20 = .ok (.invokevirtual 318, 3) := by decide +kernel
theorem dX12_turned_23 : decode cX12_turned 23 = .ok (.aload_n 0, 1) := by decide +kernel
theorem dX12_turned_24 : decode cX12_turned 24 = .ok (.iload_n 2, 1) := by decide +kernel
theorem dX12_turned_25 : decode cX12_turned 25 = .ok (.invokevirtual 318, 3) := by decide +kernel
theorem dX12_turned_28 : decode cX12_turned 28 = .ok (.if_icmp .eq 6, 3) := by decide +kernel
theorem dX12_turned_31 : decode cX12_turned 31 = .ok (.bipush (-2), 2) := by decide +kernel
theorem dX12_turned_33 : decode cX12_turned 33 = .ok (.ireturn, 1) := by decide +kernel
theorem dX12_turned_34 : decode cX12_turned 34 = .ok (.iconst 0, 1) := by decide +kernel
theorem dX12_turned_35 : decode cX12_turned 35 = .ok (.istore_n 3, 1) := by decide +kernel
theorem dX12_turned_36 : decode cX12_turned 36 = .ok (.iload_n 3, 1) := by decide +kernel
theorem dX12_turned_37 : decode cX12_turned 37 = .ok (.aload_n 0, 1) := by decide +kernel
theorem dX12_turned_38 : decode cX12_turned 38 = .ok (.iload_n 1, 1) := by decide +kernel
theorem dX12_turned_39 : decode cX12_turned 39 = .ok (.invokevirtual 318, 3) := by decide +kernel
theorem dX12_turned_42 : decode cX12_turned 42 = .ok (.if_icmp .ge 21, 3) := by decide +kernel
theorem dX12_turned_45 : decode cX12_turned 45 = .ok (.aload_n 0, 1) := by decide +kernel
theorem dX12_turned_46 : decode cX12_turned 46 = .ok (.iload_n 1, 1) := by decide +kernel
theorem dX12_turned_47 : decode cX12_turned 47 = .ok (.iload_n 2, 1) := by decide +kernel
theorem dX12_turned_48 : decode cX12_turned 48 = .ok (.iload_n 3, 1) := by decide +kernel
theorem dX12_turned_49 : decode cX12_turned 49 = .ok (.invokevirtual 423, 3) := by decide +kernel
theorem dX12_turned_52 : decode cX12_turned 52 = .ok (.ifCond .eq 5, 3) := by decide +kernel
theorem dX12_turned_55 : decode cX12_turned 55 = .ok (.iload_n 3, 1) := by decide +kernel
theorem dX12_turned_56 : decode cX12_turned 56 = .ok (.ireturn, 1) := by decide +kernel
theorem dX12_turned_57 : decode cX12_turned 57 = .ok (.iinc 3 1, 3) := by decide +kernel
theorem dX12_turned_60 : decode cX12_turned 60 = .ok (.goto (-24), 3) := by decide +kernel
theorem dX12_turned_63 : decode cX12_turned 63 = .ok (.bipush (-2), 2) := by decide +kernel
theorem dX12_turned_65 : decode cX12_turned 65 = .ok (.ireturn, 1) := by decide +kernel
set_option maxHeartbeats 4000000 in
set_option maxRecDepth 100000 in
theorem S_X12_turned_236 {l : Launch} {D : va_G} {ids : List Nat} {ad : Nat → Nat} {ca : Nat → ClassId} {σ : HS} {x1 : Int32} {x2 : Int32} (hid : ∀ i, i < 277 → i ∈ ids) (hG : GIm σ) {b : Int} (hR : RKm b σ) : Ki l D ids ad ca yX12_turned cX12_turned 4 .int 3 67 [.ref (ad 236), .int x1, .int x2] σ (fun r σ1 => (σ1 = σ)) := by
  refine Ki.of (by decide) (Nat.le_of_ble_eq_true rfl) 1 (fun Γ C Rt => ?_)
  show AW ids ad ca Γ 0 [some (.ref (ad 236)), some (.int x1), some (.int x2), none] [] σ
  have j36 : ∀ (d36 : Nat) (y36_3 : Int32), 8 - y36_3.toInt < d36 → 0 ≤ y36_3.toInt ∧ y36_3.toInt ≤ 8 → 0 ≤ x1.toInt ∧ x1.toInt ≤ 4 → 0 ≤ x2.toInt ∧ x2.toInt ≤ 4 → (x1.toInt < plm σ) → (x2.toInt < plm σ) → AW ids ad ca Γ 36 [some (.ref (ad 236)), some (.int x1), some (.int x2), some (.int y36_3)] [] σ := by
    intro d36
    induction d36 with
    | zero =>
      intro y36_3 hd36 hx36_0 hx36_1 hx36_2 hx36_3 hx36_4
      exfalso
      omega
    | succ d36 ih36 =>
      intro y36_3 hd36 hx36_0 hx36_1 hx36_2 hx36_3 hx36_4
      refine a_iload_n C dX12_turned_36 (i := 3) rfl rfl ?_
      refine a_aload_n C dX12_turned_37 (i := 0) rfl rfl ?_
      refine a_iload_n C dX12_turned_38 (i := 1) rfl rfl ?_
      refine a_callVi C (i := 236) kd_236 (hid 236 (by decide)) ⟨_, _, rfl⟩ (by decide) (S_X12_lengthOf_236 (x1 := x1) hid hG hR (by omega) (by omega)) mi_X12_lengthOf ml_RX12_318 rfl rfl (Nat.le_of_ble_eq_true rfl) (Nat.le_of_ble_eq_true rfl) (Nat.le_of_ble_eq_true rfl) dX12_turned_39 (fun z1 σ2 q3 => ?_)
      obtain ⟨w4, w5⟩ := q3
      rw [w4]
      refine s_ic_ge C dX12_turned_42 (tgt := 63) rfl (fun c6 => ?_) (fun c6 => ?_)
      ·
        refine s_bipush C dX12_turned_63 (-2) (by decide) (fun z7 h8 => ?_)
        exact a_iret Rt dX12_turned_65 rfl (rfl)
      ·
        refine a_aload_n C dX12_turned_45 (i := 0) rfl rfl ?_
        refine a_iload_n C dX12_turned_46 (i := 1) rfl rfl ?_
        refine a_iload_n C dX12_turned_47 (i := 2) rfl rfl ?_
        refine a_iload_n C dX12_turned_48 (i := 3) rfl rfl ?_
        refine a_callVi C (i := 236) kd_236 (hid 236 (by decide)) ⟨_, _, rfl⟩ (by decide) (S_X12_isTurned_236 (x1 := x1) (x2 := x2) (x3 := y36_3) hid hG hR (by omega) (by omega) (by omega) (by omega) (by omega)) mi_X12_isTurned ml_RX12_423 rfl rfl (Nat.le_of_ble_eq_true rfl) (Nat.le_of_ble_eq_true rfl) (Nat.le_of_ble_eq_true rfl) dX12_turned_49 (fun z9 σ10 q11 => ?_)
        obtain ⟨w12, w13⟩ := q11
        rw [w12]
        refine s_if_eq C dX12_turned_52 (tgt := 57) rfl (fun c14 => ?_) (fun c14 => ?_)
        ·
          refine s_iinc C dX12_turned_57 rfl (1) (by decide) (by omega) (by decide) rfl (fun z15 h16 => ?_)
          show AW ids ad ca Γ 60 [some (.ref (ad 236)), some (.int x1), some (.int x2), some (.int z15)] _ _
          refine a_goto C dX12_turned_60 (tgt := 36) rfl ?_
          exact ih36 z15 (by omega) (by omega) (by omega) (by omega) (show x1.toInt < plm σ by omega) (show x2.toInt < plm σ by omega)
        ·
          refine a_iload_n C dX12_turned_55 (i := 3) rfl rfl ?_
          exact a_iret Rt dX12_turned_56 rfl (rfl)
  refine a_aload_n C dX12_turned_0 (i := 0) rfl rfl ?_
  refine a_iload_n C dX12_turned_1 (i := 1) rfl rfl ?_
  refine a_callVi C (i := 236) kd_236 (hid 236 (by decide)) ⟨_, _, rfl⟩ (by decide) (S_X12_isPattern_236 (x1 := x1) hid hG) mi_X12_isPattern ml_RX12_393 rfl rfl (Nat.le_of_ble_eq_true rfl) (Nat.le_of_ble_eq_true rfl) (Nat.le_of_ble_eq_true rfl) dX12_turned_2 (fun z17 σ18 q19 => ?_)
  obtain ⟨w20, w21, w22⟩ := q19
  rw [w20]
  refine s_if_eq C dX12_turned_5 (tgt := 16) rfl (fun c23 => ?_) (fun c23 => ?_)
  ·
    refine s_iconst C dX12_turned_16 (-1) (by decide) (fun z24 h25 => ?_)
    exact a_iret Rt dX12_turned_17 rfl (rfl)
  ·
    refine a_aload_n C dX12_turned_8 (i := 0) rfl rfl ?_
    refine a_iload_n C dX12_turned_9 (i := 2) rfl rfl ?_
    refine a_callVi C (i := 236) kd_236 (hid 236 (by decide)) ⟨_, _, rfl⟩ (by decide) (S_X12_isPattern_236 (x1 := x2) hid hG) mi_X12_isPattern ml_RX12_393 rfl rfl (Nat.le_of_ble_eq_true rfl) (Nat.le_of_ble_eq_true rfl) (Nat.le_of_ble_eq_true rfl) dX12_turned_10 (fun z26 σ27 q28 => ?_)
    obtain ⟨w29, w30, w31⟩ := q28
    rw [w29]
    refine s_if_ne C dX12_turned_13 (tgt := 18) rfl (fun c32 => ?_) (fun c32 => ?_)
    ·
      refine a_aload_n C dX12_turned_18 (i := 0) rfl rfl ?_
      refine a_iload_n C dX12_turned_19 (i := 1) rfl rfl ?_
      refine a_callVi C (i := 236) kd_236 (hid 236 (by decide)) ⟨_, _, rfl⟩ (by decide) (S_X12_lengthOf_236 (x1 := x1) hid hG hR (by omega) (by omega)) mi_X12_lengthOf ml_RX12_318 rfl rfl (Nat.le_of_ble_eq_true rfl) (Nat.le_of_ble_eq_true rfl) (Nat.le_of_ble_eq_true rfl) dX12_turned_20 (fun z33 σ34 q35 => ?_)
      obtain ⟨w36, w37⟩ := q35
      rw [w36]
      refine a_aload_n C dX12_turned_23 (i := 0) rfl rfl ?_
      refine a_iload_n C dX12_turned_24 (i := 2) rfl rfl ?_
      refine a_callVi C (i := 236) kd_236 (hid 236 (by decide)) ⟨_, _, rfl⟩ (by decide) (S_X12_lengthOf_236 (x1 := x2) hid hG hR (by omega) (by omega)) mi_X12_lengthOf ml_RX12_318 rfl rfl (Nat.le_of_ble_eq_true rfl) (Nat.le_of_ble_eq_true rfl) (Nat.le_of_ble_eq_true rfl) dX12_turned_25 (fun z38 σ39 q40 => ?_)
      obtain ⟨w41, w42⟩ := q40
      rw [w41]
      refine s_ic_eq C dX12_turned_28 (tgt := 34) rfl (fun c43 => ?_) (fun c43 => ?_)
      ·
        refine s_iconst C dX12_turned_34 (0) (by decide) (fun z44 h45 => ?_)
        refine a_istore_n C dX12_turned_35 (i := 3) rfl (by decide) rfl (vs1 := [some (.ref (ad 236)), some (.int x1), some (.int x2), some (.int z44)]) rfl ?_
        exact j36 100000 z44 (by omega) (by omega) (by omega) (by omega) (show x1.toInt < plm σ by omega) (show x2.toInt < plm σ by omega)
      ·
        refine s_bipush C dX12_turned_31 (-2) (by decide) (fun z46 h47 => ?_)
        exact a_iret Rt dX12_turned_33 rfl (rfl)
    ·
      refine s_iconst C dX12_turned_16 (-1) (by decide) (fun z48 h49 => ?_)
      exact a_iret Rt dX12_turned_17 rfl (rfl)
theorem dX12_span_10 : decode cX12_span 10 = .ok (.iconst 0, 1) := by decide +kernel
theorem dX12_span_11 : decode cX12_span 11 = .ok (.istore_n 2, 1) := by decide +kernel
theorem dX12_span_12 : decode cX12_span 12 = .ok (.iconst 0, 1) := by decide +kernel
theorem dX12_span_13 : decode cX12_span 13 = .ok (.istore_n 3, 1) := by decide +kernel
theorem dX12_span_14 : decode cX12_span 14 = .ok (.iload_n 3, 1) := by decide +kernel
theorem dX12_span_15 : decode cX12_span 15 = .ok (.aload_n 0, 1) := by decide +kernel
theorem dX12_span_16 : decode cX12_span 16 = .ok (.iload_n 1, 1) := by decide +kernel
theorem dX12_span_17 : decode cX12_span 17 = .ok (.invokevirtual 318, 3) := by decide +kernel
theorem dX12_span_20 : decode cX12_span 20 = .ok (.if_icmp .ge 26, 3) := by decide +kernel
theorem dX12_span_23 : decode cX12_span 23 = .ok (.aload_n 0, 1) := by decide +kernel
theorem dX12_span_24 : decode cX12_span 24 = .ok (.iload_n 1, 1) := by decide +kernel
theorem dX12_span_25 : decode cX12_span 25 = .ok (.iload_n 3, 1) := by decide +kernel
theorem dX12_span_26 : decode cX12_span 26 = .ok (.invokevirtual 321, 3) := by decide +kernel
theorem dX12_span_29 : decode cX12_span 29 = .ok (.iload_n 2, 1) := by decide +kernel
theorem dX12_span_30 : decode cX12_span 30 = .ok (.if_icmp .le 10, 3) := by decide +kernel
theorem dX12_span_33 : decode cX12_span 33 = .ok (.aload_n 0, 1) := by decide +kernel
theorem dX12_span_34 : decode cX12_span 34 = .ok (.iload_n 1, 1) := by decide +kernel
theorem dX12_span_35 : decode cX12_span 35 = .ok (.iload_n 3, 1) := by decide +kernel
theorem dX12_span_36 : decode cX12_span 36 = .ok (.invokevirtual 321, 3) := by decide +kernel
theorem dX12_span_39 : decode cX12_span 39 = .ok (.istore_n 2, 1) := by decide +kernel
theorem dX12_span_40 : decode cX12_span 40 = .ok (.iinc 3 1, 3) := by decide +kernel
theorem dX12_span_43 : decode cX12_span 43 = .ok (.goto (-29), 3) := by decide +kernel
theorem dX12_span_46 : decode cX12_span 46 = .ok (.iload_n 2, 1) := by decide +kernel
theorem dX12_span_47 : decode cX12_span 47 = .ok (.ireturn, 1) := by decide +kernel
set_option maxHeartbeats 4000000 in
set_option maxRecDepth 100000 in
theorem S_X12_span_236 {l : Launch} {D : va_G} {ids : List Nat} {ad : Nat → Nat} {ca : Nat → ClassId} {σ : HS} {x1 : Int32} (hid : ∀ i, i < 277 → i ∈ ids) (hG : GIm σ) {b : Int} (hR : RKm b σ) : Ki l D ids ad ca yX12_span cX12_span 4 .int 2 43 [.ref (ad 236), .int x1] σ (fun r σ1 => (σ1 = σ)) := by
  refine Ki.of (by decide) (Nat.le_of_ble_eq_true rfl) 2 (fun Γ C Rt => ?_)
  show AW ids ad ca Γ 0 [some (.ref (ad 236)), some (.int x1), none, none] [] σ
  have j14 : ∀ (d14 : Nat) (y14_2 : Int32) (y14_3 : Int32), 8 - y14_3.toInt < d14 → 0 ≤ y14_2.toInt ∧ y14_2.toInt ≤ 9999 → 0 ≤ y14_3.toInt ∧ y14_3.toInt ≤ 8 → 0 ≤ x1.toInt ∧ x1.toInt ≤ 4 → (x1.toInt < plm σ) → AW ids ad ca Γ 14 [some (.ref (ad 236)), some (.int x1), some (.int y14_2), some (.int y14_3)] [] σ := by
    intro d14
    induction d14 with
    | zero =>
      intro y14_2 y14_3 hd14 hx14_0 hx14_1 hx14_2 hx14_3
      exfalso
      omega
    | succ d14 ih14 =>
      intro y14_2 y14_3 hd14 hx14_0 hx14_1 hx14_2 hx14_3
      have j40 : ∀ (y40_2 : Int32), 0 ≤ y40_2.toInt ∧ y40_2.toInt ≤ 9999 → 0 ≤ y14_3.toInt ∧ y14_3.toInt ≤ 7 → AW ids ad ca Γ 40 [some (.ref (ad 236)), some (.int x1), some (.int y40_2), some (.int y14_3)] [] σ := by
        intro y40_2 hx40_0 hx40_1
        refine s_iinc C dX12_span_40 rfl (1) (by decide) (by omega) (by decide) rfl (fun z1 h2 => ?_)
        show AW ids ad ca Γ 43 [some (.ref (ad 236)), some (.int x1), some (.int y40_2), some (.int z1)] _ _
        refine a_goto C dX12_span_43 (tgt := 14) rfl ?_
        exact ih14 y40_2 z1 (by omega) (by omega) (by omega) (by omega) (show x1.toInt < plm σ by omega)
      refine a_iload_n C dX12_span_14 (i := 3) rfl rfl ?_
      refine a_aload_n C dX12_span_15 (i := 0) rfl rfl ?_
      refine a_iload_n C dX12_span_16 (i := 1) rfl rfl ?_
      refine a_callVi C (i := 236) kd_236 (hid 236 (by decide)) ⟨_, _, rfl⟩ (by decide) (S_X12_lengthOf_236 (x1 := x1) hid hG hR (by omega) (by omega)) mi_X12_lengthOf ml_RX12_318 rfl rfl (Nat.le_of_ble_eq_true rfl) (Nat.le_of_ble_eq_true rfl) (Nat.le_of_ble_eq_true rfl) dX12_span_17 (fun z3 σ4 q5 => ?_)
      obtain ⟨w6, w7⟩ := q5
      rw [w6]
      refine s_ic_ge C dX12_span_20 (tgt := 46) rfl (fun c8 => ?_) (fun c8 => ?_)
      ·
        refine a_iload_n C dX12_span_46 (i := 2) rfl rfl ?_
        exact a_iret Rt dX12_span_47 rfl (rfl)
      ·
        refine a_aload_n C dX12_span_23 (i := 0) rfl rfl ?_
        refine a_iload_n C dX12_span_24 (i := 1) rfl rfl ?_
        refine a_iload_n C dX12_span_25 (i := 3) rfl rfl ?_
        refine a_callVi C (i := 236) kd_236 (hid 236 (by decide)) ⟨_, _, rfl⟩ (by decide) (S_X12_heightAt_236 (x1 := x1) (x2 := y14_3) hid hG hR (by omega) (by omega) (by omega)) mi_X12_heightAt ml_RX12_321 rfl rfl (Nat.le_of_ble_eq_true rfl) (Nat.le_of_ble_eq_true rfl) (Nat.le_of_ble_eq_true rfl) dX12_span_26 (fun z9 σ10 q11 => ?_)
        obtain ⟨w12, w13⟩ := q11
        rw [w12]
        refine a_iload_n C dX12_span_29 (i := 2) rfl rfl ?_
        refine s_ic_le C dX12_span_30 (tgt := 40) rfl (fun c14 => ?_) (fun c14 => ?_)
        ·
          exact j40 y14_2 (by omega) (by omega)
        ·
          refine a_aload_n C dX12_span_33 (i := 0) rfl rfl ?_
          refine a_iload_n C dX12_span_34 (i := 1) rfl rfl ?_
          refine a_iload_n C dX12_span_35 (i := 3) rfl rfl ?_
          refine a_callVi C (i := 236) kd_236 (hid 236 (by decide)) ⟨_, _, rfl⟩ (by decide) (S_X12_heightAt_236 (x1 := x1) (x2 := y14_3) hid hG hR (by omega) (by omega) (by omega)) mi_X12_heightAt ml_RX12_321 rfl rfl (Nat.le_of_ble_eq_true rfl) (Nat.le_of_ble_eq_true rfl) (Nat.le_of_ble_eq_true rfl) dX12_span_36 (fun z15 σ16 q17 => ?_)
          obtain ⟨w18, w19⟩ := q17
          rw [w18]
          refine a_istore_n C dX12_span_39 (i := 2) rfl (by decide) rfl (vs1 := [some (.ref (ad 236)), some (.int x1), some (.int z15), some (.int y14_3)]) rfl ?_
          exact j40 z15 (by omega) (by omega)
  refine a_aload_n C dX12_span_0 (i := 0) rfl rfl ?_
  refine a_iload_n C dX12_span_1 (i := 1) rfl rfl ?_
  refine a_callVi C (i := 236) kd_236 (hid 236 (by decide)) ⟨_, _, rfl⟩ (by decide) (S_X12_isPattern_236 (x1 := x1) hid hG) mi_X12_isPattern ml_RX12_393 rfl rfl (Nat.le_of_ble_eq_true rfl) (Nat.le_of_ble_eq_true rfl) (Nat.le_of_ble_eq_true rfl) dX12_span_2 (fun z20 σ21 q22 => ?_)
  obtain ⟨w23, w24, w25⟩ := q22
  rw [w23]
  refine s_if_ne C dX12_span_5 (tgt := 10) rfl (fun c26 => ?_) (fun c26 => ?_)
  ·
    refine s_iconst C dX12_span_10 (0) (by decide) (fun z27 h28 => ?_)
    refine a_istore_n C dX12_span_11 (i := 2) rfl (by decide) rfl (vs1 := [some (.ref (ad 236)), some (.int x1), some (.int z27), none]) rfl ?_
    refine s_iconst C dX12_span_12 (0) (by decide) (fun z29 h30 => ?_)
    refine a_istore_n C dX12_span_13 (i := 3) rfl (by decide) rfl (vs1 := [some (.ref (ad 236)), some (.int x1), some (.int z27), some (.int z29)]) rfl ?_
    exact j14 100000 z27 z29 (by omega) (by omega) (by omega) (by omega) (show x1.toInt < plm σ by omega)
  ·
    refine s_iconst C dX12_span_8 (-1) (by decide) (fun z31 h32 => ?_)
    exact a_iret Rt dX12_span_9 rfl (rfl)
theorem dX12_swaps_10 : decode cX12_swaps 10 = .ok (.iconst 0, 1) := by decide +kernel
theorem dX12_swaps_11 : decode cX12_swaps 11 = .ok (.istore_n 2, 1) := by decide +kernel
theorem dX12_swaps_12 : decode cX12_swaps 12 = .ok (.iconst 0, 1) := by decide +kernel
theorem dX12_swaps_13 : decode cX12_swaps 13 = .ok (.istore_n 3, 1) := by decide +kernel
theorem dX12_swaps_14 : decode cX12_swaps 14 = .ok (.iload_n 3, 1) := by decide +kernel
theorem dX12_swaps_15 : decode cX12_swaps 15 = .ok (.aload_n 0, 1) := by decide +kernel
theorem dX12_swaps_16 : decode cX12_swaps 16 = .ok (.iload_n 1, 1) := by decide +kernel
theorem dX12_swaps_17 : decode cX12_swaps 17 = .ok (.invokevirtual 318, 3) := by decide +kernel
theorem dX12_swaps_20 : decode cX12_swaps 20 = .ok (.if_icmp .ge 74, 3) := by decide +kernel
theorem dX12_swaps_23 : decode cX12_swaps 23 = .ok (.iload_n 3, 1) := by decide +kernel
theorem dX12_swaps_24 : decode cX12_swaps 24 = .ok (.iconst 1, 1) := by decide +kernel
theorem dX12_swaps_25 : decode cX12_swaps 25 = .ok (.iadd, 1) := by decide +kernel
theorem dX12_swaps_26 : decode cX12_swaps 26 = .ok (.istore 4, 2) := by decide +kernel
theorem dX12_swaps_28 : decode cX12_swaps 28 = .ok (.iload 4, 2) := by decide +kernel
theorem dX12_swaps_30 : decode cX12_swaps 30 = .ok (.aload_n 0, 1) := by decide +kernel
theorem dX12_swaps_31 : decode cX12_swaps 31 = .ok (.iload_n 1, 1) := by decide +kernel
theorem dX12_swaps_32 : decode cX12_swaps 32 = .ok (.invokevirtual 318, 3) := by decide +kernel
theorem dX12_swaps_35 : decode cX12_swaps 35 = .ok (.if_icmp .ge 53, 3) := by decide +kernel
theorem dX12_swaps_38 : decode cX12_swaps 38 = .ok (.aload_n 0, 1) := by decide +kernel
theorem dX12_swaps_39 : decode cX12_swaps 39 = .ok (.iload_n 1, 1) := by decide +kernel
theorem dX12_swaps_40 : decode cX12_swaps 40 = .ok (.iload 4, 2) := by decide +kernel
theorem dX12_swaps_42 : decode cX12_swaps 42 = .ok (.invokevirtual 321, 3) := by decide +kernel
theorem dX12_swaps_45 : decode cX12_swaps 45 = .ok (.iload 4, 2) := by decide +kernel
theorem dX12_swaps_47 : decode cX12_swaps 47 = .ok (.iadd, 1) := by decide +kernel
theorem dX12_swaps_48 : decode cX12_swaps 48 = .ok (.iload_n 3, 1) := by decide +kernel
theorem dX12_swaps_49 : decode cX12_swaps 49 = .ok (.isub, 1) := by decide +kernel
theorem dX12_swaps_50 : decode cX12_swaps 50 = .ok (.iconst 0, 1) := by decide +kernel
theorem dX12_swaps_51 : decode cX12_swaps 51 = .ok (.bipush 9, 2) := by decide +kernel
theorem dX12_swaps_53 : decode cX12_swaps 53 = .ok (.invokestatic 301, 3) := by decide +kernel
theorem dX12_swaps_56 : decode cX12_swaps 56 = .ok (.ifCond .eq 26, 3) := by decide +kernel
theorem dX12_swaps_59 : decode cX12_swaps 59 = .ok (.aload_n 0, 1) := by decide +kernel
theorem dX12_swaps_60 : decode cX12_swaps 60 = .ok (.iload_n 1, 1) := by decide +kernel
theorem dX12_swaps_61 : decode cX12_swaps 61 = .ok (.iload_n 3, 1) := by decide +kernel
theorem dX12_swaps_62 : decode cX12_swaps 62 = .ok (.invokevirtual 321, 3) := by decide +kernel
theorem dX12_swaps_65 : decode cX12_swaps 65 = .ok (.iload 4, 2) := by decide +kernel
theorem dX12_swaps_67 : decode cX12_swaps 67 = .ok (.isub, 1) := by decide +kernel
theorem dX12_swaps_68 : decode cX12_swaps 68 = .ok (.iload_n 3, 1) := by decide +kernel
theorem dX12_swaps_69 : decode cX12_swaps 69 = .ok (.iadd, 1) := by decide +kernel
theorem dX12_swaps_70 : decode cX12_swaps 70 = .ok (.iconst 0, 1) := by decide +kernel
theorem dX12_swaps_71 : decode cX12_swaps 71 = .ok (.bipush 9, 2) := by decide +kernel
theorem dX12_swaps_73 : decode cX12_swaps 73 = .ok (.invokestatic 301, 3) := by decide +kernel
theorem dX12_swaps_76 : decode cX12_swaps 76 = .ok (.ifCond .eq 6, 3) := by decide +kernel
theorem dX12_swaps_79 : decode cX12_swaps 79 = .ok (.iinc 2 1, 3) := by decide +kernel
theorem dX12_swaps_82 : decode cX12_swaps 82 = .ok (.iinc 4 1, 3) := by decide +kernel
theorem dX12_swaps_85 : decode cX12_swaps 85 = .ok (.goto (-57), 3) := by decide +kernel
theorem dX12_swaps_88 : decode cX12_swaps 88 = .ok (.iinc 3 1, 3) := by decide +kernel
theorem dX12_swaps_91 : decode cX12_swaps 91 = .ok (.goto (-77), 3) := by decide +kernel
theorem dX12_swaps_94 : decode cX12_swaps 94 = .ok (.iload_n 2, 1) := by decide +kernel
theorem dX12_swaps_95 : decode cX12_swaps 95 = .ok (.ireturn, 1) := by decide +kernel
set_option maxHeartbeats 4000000 in
set_option maxRecDepth 100000 in
theorem S_X12_swaps_236 {l : Launch} {D : va_G} {ids : List Nat} {ad : Nat → Nat} {ca : Nat → ClassId} {σ : HS} {x1 : Int32} (hid : ∀ i, i < 277 → i ∈ ids) (hG : GIm σ) {b : Int} (hR : RKm b σ) : Ki l D ids ad ca yX12_swaps cX12_swaps 5 .int 2 43 [.ref (ad 236), .int x1] σ (fun r σ1 => (σ1 = σ)) := by
  refine Ki.of (by decide) (Nat.le_of_ble_eq_true rfl) 3 (fun Γ C Rt => ?_)
  show AW ids ad ca Γ 0 [some (.ref (ad 236)), some (.int x1), none, none, none] [] σ
  have j14 : ∀ (d14 : Nat) (y14_2 : Int32) (y14_3 : Int32), 8 - y14_3.toInt < d14 → 0 ≤ y14_3.toInt ∧ y14_3.toInt ≤ 8 → 0 ≤ x1.toInt ∧ x1.toInt ≤ 4 → (x1.toInt < plm σ) → AW ids ad ca Γ 14 [some (.ref (ad 236)), some (.int x1), some (.int y14_2), some (.int y14_3), none] [] σ := by
    intro d14
    induction d14 with
    | zero =>
      intro y14_2 y14_3 hd14 hx14_0 hx14_1 hx14_2
      exfalso
      omega
    | succ d14 ih14 =>
      intro y14_2 y14_3 hd14 hx14_0 hx14_1 hx14_2
      have j28 : ∀ (d28 : Nat) (y28_2 : Int32) (y28_4 : Int32), 8 - y28_4.toInt < d28 → 1 ≤ y28_4.toInt ∧ y28_4.toInt ≤ 8 → 0 ≤ y14_3.toInt ∧ y14_3.toInt ≤ 7 → AW ids ad ca Γ 28 [some (.ref (ad 236)), some (.int x1), some (.int y28_2), some (.int y14_3), some (.int y28_4)] [] σ := by
        intro d28
        induction d28 with
        | zero =>
          intro y28_2 y28_4 hd28 hx28_0 hx28_1
          exfalso
          omega
        | succ d28 ih28 =>
          intro y28_2 y28_4 hd28 hx28_0 hx28_1
          have j82 : ∀ (y82_2 : Int32), 1 ≤ y28_4.toInt ∧ y28_4.toInt ≤ 7 → AW ids ad ca Γ 82 [some (.ref (ad 236)), some (.int x1), some (.int y82_2), some (.int y14_3), some (.int y28_4)] [] σ := by
            intro y82_2 hx82_0
            refine s_iinc C dX12_swaps_82 rfl (1) (by decide) (by omega) (by decide) rfl (fun z1 h2 => ?_)
            show AW ids ad ca Γ 85 [some (.ref (ad 236)), some (.int x1), some (.int y82_2), some (.int y14_3), some (.int z1)] _ _
            refine a_goto C dX12_swaps_85 (tgt := 28) rfl ?_
            exact ih28 y82_2 z1 (by omega) (by omega) (by omega)
          refine a_iload C dX12_swaps_28 rfl ?_
          refine a_aload_n C dX12_swaps_30 (i := 0) rfl rfl ?_
          refine a_iload_n C dX12_swaps_31 (i := 1) rfl rfl ?_
          refine a_callVi C (i := 236) kd_236 (hid 236 (by decide)) ⟨_, _, rfl⟩ (by decide) (S_X12_lengthOf_236 (x1 := x1) hid hG hR (by omega) (by omega)) mi_X12_lengthOf ml_RX12_318 rfl rfl (Nat.le_of_ble_eq_true rfl) (Nat.le_of_ble_eq_true rfl) (Nat.le_of_ble_eq_true rfl) dX12_swaps_32 (fun z3 σ4 q5 => ?_)
          obtain ⟨w6, w7⟩ := q5
          rw [w6]
          refine s_ic_ge C dX12_swaps_35 (tgt := 88) rfl (fun c8 => ?_) (fun c8 => ?_)
          ·
            refine s_iinc C dX12_swaps_88 rfl (1) (by decide) (by omega) (by decide) rfl (fun z9 h10 => ?_)
            show AW ids ad ca Γ 91 [some (.ref (ad 236)), some (.int x1), some (.int y28_2), some (.int z9), some (.int y28_4)] _ _
            refine a_goto C dX12_swaps_91 (tgt := 14) rfl ?_
            refine AW.sub (vs' := [some (.ref (ad 236)), some (.int x1), some (.int y28_2), some (.int z9), none]) (lsub_of (by simp [lsubB])) ?_
            exact ih14 y28_2 z9 (by omega) (by omega) (by omega) (show x1.toInt < plm σ by omega)
          ·
            refine a_aload_n C dX12_swaps_38 (i := 0) rfl rfl ?_
            refine a_iload_n C dX12_swaps_39 (i := 1) rfl rfl ?_
            refine a_iload C dX12_swaps_40 rfl ?_
            refine a_callVi C (i := 236) kd_236 (hid 236 (by decide)) ⟨_, _, rfl⟩ (by decide) (S_X12_heightAt_236 (x1 := x1) (x2 := y28_4) hid hG hR (by omega) (by omega) (by omega)) mi_X12_heightAt ml_RX12_321 rfl rfl (Nat.le_of_ble_eq_true rfl) (Nat.le_of_ble_eq_true rfl) (Nat.le_of_ble_eq_true rfl) dX12_swaps_42 (fun z11 σ12 q13 => ?_)
            obtain ⟨w14, w15⟩ := q13
            rw [w14]
            refine a_iload C dX12_swaps_45 rfl ?_
            refine s_iadd C dX12_swaps_47 (by omega) (fun z16 h17 => ?_)
            refine a_iload_n C dX12_swaps_48 (i := 3) rfl rfl ?_
            refine s_isub C dX12_swaps_49 (by omega) (fun z18 h19 => ?_)
            refine s_iconst C dX12_swaps_50 (0) (by decide) (fun z20 h21 => ?_)
            refine s_bipush C dX12_swaps_51 (9) (by decide) (fun z22 h23 => ?_)
            refine a_callSi C (S_X12_in (x1 := z18) (x2 := z20) (x3 := z22) hid hG) ms_X12_in ml_RX12_301 rfl rfl (Nat.le_of_ble_eq_true rfl) (Nat.le_of_ble_eq_true rfl) (Nat.le_of_ble_eq_true rfl) dX12_swaps_53 (fun z24 σ25 q26 => ?_)
            obtain ⟨w27, w28, w29⟩ := q26
            rw [w27]
            refine s_if_eq C dX12_swaps_56 (tgt := 82) rfl (fun c30 => ?_) (fun c30 => ?_)
            ·
              exact j82 y28_2 (by omega)
            ·
              refine a_aload_n C dX12_swaps_59 (i := 0) rfl rfl ?_
              refine a_iload_n C dX12_swaps_60 (i := 1) rfl rfl ?_
              refine a_iload_n C dX12_swaps_61 (i := 3) rfl rfl ?_
              refine a_callVi C (i := 236) kd_236 (hid 236 (by decide)) ⟨_, _, rfl⟩ (by decide) (S_X12_heightAt_236 (x1 := x1) (x2 := y14_3) hid hG hR (by omega) (by omega) (by omega)) mi_X12_heightAt ml_RX12_321 rfl rfl (Nat.le_of_ble_eq_true rfl) (Nat.le_of_ble_eq_true rfl) (Nat.le_of_ble_eq_true rfl) dX12_swaps_62 (fun z31 σ32 q33 => ?_)
              obtain ⟨w34, w35⟩ := q33
              rw [w34]
              refine a_iload C dX12_swaps_65 rfl ?_
              refine s_isub C dX12_swaps_67 (by omega) (fun z36 h37 => ?_)
              refine a_iload_n C dX12_swaps_68 (i := 3) rfl rfl ?_
              refine s_iadd C dX12_swaps_69 (by omega) (fun z38 h39 => ?_)
              refine s_iconst C dX12_swaps_70 (0) (by decide) (fun z40 h41 => ?_)
              refine s_bipush C dX12_swaps_71 (9) (by decide) (fun z42 h43 => ?_)
              refine a_callSi C (S_X12_in (x1 := z38) (x2 := z40) (x3 := z42) hid hG) ms_X12_in ml_RX12_301 rfl rfl (Nat.le_of_ble_eq_true rfl) (Nat.le_of_ble_eq_true rfl) (Nat.le_of_ble_eq_true rfl) dX12_swaps_73 (fun z44 σ45 q46 => ?_)
              obtain ⟨w47, w48, w49⟩ := q46
              rw [w47]
              refine s_if_eq C dX12_swaps_76 (tgt := 82) rfl (fun c50 => ?_) (fun c50 => ?_)
              ·
                exact j82 y28_2 (by omega)
              ·
                refine s_iincU C dX12_swaps_79 rfl (by decide) rfl (fun z51 => ?_)
                show AW ids ad ca Γ 82 [some (.ref (ad 236)), some (.int x1), some (.int z51), some (.int y14_3), some (.int y28_4)] _ _
                exact j82 z51 (by omega)
      refine a_iload_n C dX12_swaps_14 (i := 3) rfl rfl ?_
      refine a_aload_n C dX12_swaps_15 (i := 0) rfl rfl ?_
      refine a_iload_n C dX12_swaps_16 (i := 1) rfl rfl ?_
      refine a_callVi C (i := 236) kd_236 (hid 236 (by decide)) ⟨_, _, rfl⟩ (by decide) (S_X12_lengthOf_236 (x1 := x1) hid hG hR (by omega) (by omega)) mi_X12_lengthOf ml_RX12_318 rfl rfl (Nat.le_of_ble_eq_true rfl) (Nat.le_of_ble_eq_true rfl) (Nat.le_of_ble_eq_true rfl) dX12_swaps_17 (fun z53 σ54 q55 => ?_)
      obtain ⟨w56, w57⟩ := q55
      rw [w56]
      refine s_ic_ge C dX12_swaps_20 (tgt := 94) rfl (fun c58 => ?_) (fun c58 => ?_)
      ·
        refine a_iload_n C dX12_swaps_94 (i := 2) rfl rfl ?_
        exact a_iret Rt dX12_swaps_95 rfl (rfl)
      ·
        refine a_iload_n C dX12_swaps_23 (i := 3) rfl rfl ?_
        refine s_iconst C dX12_swaps_24 (1) (by decide) (fun z59 h60 => ?_)
        refine s_iadd C dX12_swaps_25 (by omega) (fun z61 h62 => ?_)
        refine a_istore C dX12_swaps_26 (by decide) rfl (vs1 := [some (.ref (ad 236)), some (.int x1), some (.int y14_2), some (.int y14_3), some (.int z61)]) rfl ?_
        exact j28 100000 y14_2 z61 (by omega) (by omega) (by omega)
  refine a_aload_n C dX12_swaps_0 (i := 0) rfl rfl ?_
  refine a_iload_n C dX12_swaps_1 (i := 1) rfl rfl ?_
  refine a_callVi C (i := 236) kd_236 (hid 236 (by decide)) ⟨_, _, rfl⟩ (by decide) (S_X12_isPattern_236 (x1 := x1) hid hG) mi_X12_isPattern ml_RX12_393 rfl rfl (Nat.le_of_ble_eq_true rfl) (Nat.le_of_ble_eq_true rfl) (Nat.le_of_ble_eq_true rfl) dX12_swaps_2 (fun z63 σ64 q65 => ?_)
  obtain ⟨w66, w67, w68⟩ := q65
  rw [w66]
  refine s_if_ne C dX12_swaps_5 (tgt := 10) rfl (fun c69 => ?_) (fun c69 => ?_)
  ·
    refine s_iconst C dX12_swaps_10 (0) (by decide) (fun z70 h71 => ?_)
    refine a_istore_n C dX12_swaps_11 (i := 2) rfl (by decide) rfl (vs1 := [some (.ref (ad 236)), some (.int x1), some (.int z70), none, none]) rfl ?_
    refine s_iconst C dX12_swaps_12 (0) (by decide) (fun z72 h73 => ?_)
    refine a_istore_n C dX12_swaps_13 (i := 3) rfl (by decide) rfl (vs1 := [some (.ref (ad 236)), some (.int x1), some (.int z70), some (.int z72), none]) rfl ?_
    exact j14 100000 z70 z72 (by omega) (by omega) (by omega) (show x1.toInt < plm σ by omega)
  ·
    refine s_iconst C dX12_swaps_8 (-1) (by decide) (fun z74 h75 => ?_)
    exact a_iret Rt dX12_swaps_9 rfl (rfl)
