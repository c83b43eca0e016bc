theorem dX12_lands_22 : decode cX12_lands 22 = .ok (.iload_n 1, 1) := by decide +kernel
theorem dX12_lands_23 : decode cX12_lands 23 = .ok (.iconst 1, 1) := by decide +kernel
theorem dX12_lands_24 : decode cX12_lands 24 = .ok (.iload_n 2, 1) := by decide +kernel
theorem dX12_lands_25 : decode cX12_lands 25 = .ok (.ishl, 1) := by decide +kernel
theorem dX12_lands_26 : decode cX12_lands 26 = .ok (.ior, 1) := by decide +kernel
theorem dX12_lands_27 : decode cX12_lands 27 = .ok (.istore_n 1, 1) := by decide +kernel
set_option maxHeartbeats 4000000 in
set_option maxRecDepth 100000 in
theorem S_X12_lands_236 {l : Launch} {D : va_G} {ids : List Nat} {ad : Nat → Nat} {ca : Nat → ClassId} {σ : HS} (hid : ∀ i, i < 277 → i ∈ ids) (hG : GIm σ) {b : Int} (hR : RKm b σ) : Ki l D ids ad ca yX12_lands cX12_lands 3 .int 2 45 [.ref (ad 236)] σ (fun r σ1 => (GIm σ1) ∧ (onm [267, 1049, 1050, 2021, 2026, 2027] σ σ1) ∧ (RKm b σ1) ∧ (0 ≤ r.toInt ∧ r.toInt ≤ 1023)) := by
  refine Ki.of (by decide) (Nat.le_of_ble_eq_true rfl) 2 (fun Γ C Rt => ?_)
  show AW ids ad ca Γ 0 [some (.ref (ad 236)), none, none] [] σ
  have j8 : ∀ (d8 : Nat) (σq8 : HS) (y8_1 : Int32) (y8_2 : Int32), 10 - y8_2.toInt < d8 → GIm σq8 → onm [267, 1049, 1050, 2021, 2026, 2027] σ σq8 → RKm b σq8 → 0 ≤ y8_1.toInt ∧ y8_1.toInt ≤ 1023 → 0 ≤ y8_2.toInt ∧ y8_2.toInt ≤ 10 → AW ids ad ca Γ 8 [some (.ref (ad 236)), some (.int y8_1), some (.int y8_2)] [] σq8 := by
    intro d8
    induction d8 with
    | zero =>
      intro σq8 y8_1 y8_2 hd8 hGq8 hoq8 hRq8 hx8_0 hx8_1
      exfalso
      omega
    | succ d8 ih8 =>
      intro σq8 y8_1 y8_2 hd8 hGq8 hoq8 hRq8 hx8_0 hx8_1
      have j28 : ∀ (σq28 : HS) (y28_1 : Int32), GIm σq28 → onm [267, 1049, 1050, 2021, 2026, 2027] σ σq28 → RKm b σq28 → 0 ≤ y28_1.toInt ∧ y28_1.toInt ≤ 1023 → 0 ≤ y8_2.toInt ∧ y8_2.toInt ≤ 9 → AW ids ad ca Γ 28 [some (.ref (ad 236)), some (.int y28_1), some (.int y8_2)] [] σq28 := by
        intro σq28 y28_1 hGq28 hoq28 hRq28 hx28_0 hx28_1
        refine s_iinc C dX12_lands_28 rfl (1) (by decide) (by omega) (by decide) rfl (fun z1 h2 => ?_)
        show AW ids ad ca Γ 31 [some (.ref (ad 236)), some (.int y28_1), some (.int z1)] _ _
        refine a_goto C dX12_lands_31 (tgt := 8) rfl ?_
        exact ih8 _ y28_1 z1 (by omega) hGq28 hoq28 hRq28 (by omega) (by omega)
      refine a_iload_n C dX12_lands_8 (i := 2) rfl rfl ?_
      refine s_bipush C dX12_lands_9 (10) (by decide) (fun z3 h4 => ?_)
      refine s_ic_ge C dX12_lands_11 (tgt := 34) rfl (fun c5 => ?_) (fun c5 => ?_)
      ·
        refine a_iload_n C dX12_lands_34 (i := 1) rfl rfl ?_
        exact a_iret Rt dX12_lands_35 rfl (⟨hGq8, hoq8, hRq8, (show 0 ≤ y8_1.toInt ∧ y8_1.toInt ≤ 1023 by intros; omega)⟩)
      ·
        refine a_aload_n C dX12_lands_14 (i := 0) rfl rfl ?_
        refine a_iload_n C dX12_lands_15 (i := 2) rfl rfl ?_
        refine a_callVi C (i := 236) kd_236 (hid 236 (by decide)) ⟨_, _, rfl⟩ (by decide) (S_X12_landsAt_236 (x1 := y8_2) hid hGq8) mi_X12_landsAt ml_RX12_426 rfl rfl (Nat.le_of_ble_eq_true rfl) (Nat.le_of_ble_eq_true rfl) (Nat.le_of_ble_eq_true rfl) dX12_lands_16 (fun z6 σ7 q8 => ?_)
        rw [q8]
        refine s_if_le C dX12_lands_19 (tgt := 28) rfl (fun c9 => ?_) (fun c9 => ?_)
        ·
          exact j28 _ y8_1 hGq8 hoq8 hRq8 (by omega) (by omega)
        ·
          refine a_iload_n C dX12_lands_22 (i := 1) rfl rfl ?_
          refine s_iconst C dX12_lands_23 (1) (by decide) (fun z10 h11 => ?_)
          refine a_iload_n C dX12_lands_24 (i := 2) rfl rfl ?_
          refine s_ishl1 C dX12_lands_25 (by omega) (by omega) (fun z12 h13 => ?_)
          refine s_ior C dX12_lands_26 10 (by decide) (by omega) (by omega) (fun z14 h15 => ?_)
          refine a_istore_n C dX12_lands_27 (i := 1) rfl (by decide) rfl (vs1 := [some (.ref (ad 236)), some (.int z14), some (.int y8_2)]) rfl ?_
          exact j28 _ z14 hGq8 hoq8 hRq8 (by omega) (by omega)
  refine a_aload_n C dX12_lands_0 (i := 0) rfl rfl ?_
  refine a_callVv C (i := 236) kd_236 (hid 236 (by decide)) ⟨_, _, rfl⟩ (by decide) (S_X12_copies_236 hid hG hR) mi_X12_copies ml_RX12_311 rfl rfl (Nat.le_of_ble_eq_true rfl) (Nat.le_of_ble_eq_true rfl) (Nat.le_of_ble_eq_true rfl) dX12_lands_1 (fun σ17 q18 => ?_)
  obtain ⟨hG19, ho20, hR21, w22⟩ := q18
  refine s_iconst C dX12_lands_4 (0) (by decide) (fun z23 h24 => ?_)
  refine a_istore_n C dX12_lands_5 (i := 1) rfl (by decide) rfl (vs1 := [some (.ref (ad 236)), some (.int z23), none]) rfl ?_
  refine s_iconst C dX12_lands_6 (0) (by decide) (fun z25 h26 => ?_)
  refine a_istore_n C dX12_lands_7 (i := 2) rfl (by decide) rfl (vs1 := [some (.ref (ad 236)), some (.int z23), some (.int z25)]) rfl ?_
  exact j8 100000 _ z23 z25 (by omega) hG19 (onm.tr onm.rf (onm.mono ho20 (by decide))) hR21 (by omega) (by omega)
theorem dX12_areTwoSoon_0 : decode cX12_areTwoSoon 0 = .ok (.iconst 0, 1) := by decide +kernel
theorem dX12_areTwoSoon_1 : decode cX12_areTwoSoon 1 = .ok (.istore_n 1, 1) := by decide +kernel
theorem dX12_areTwoSoon_2 : decode cX12_areTwoSoon 2 = .ok (.iload_n 1, 1) := by decide +kernel
theorem dX12_areTwoSoon_3 : decode cX12_areTwoSoon 3 = .ok (.bipush 10, 2) := by decide +kernel
theorem dX12_areTwoSoon_5 : decode cX12_areTwoSoon 5 = .ok (.if_icmp .ge 20, 3) := by decide +kernel
theorem dX12_areTwoSoon_8 : decode cX12_areTwoSoon 8 = .ok (.aload_n 0, 1) := by decide +kernel
theorem dX12_areTwoSoon_9 : decode cX12_areTwoSoon 9 = .ok (.iload_n 1, 1) := by decide +kernel
theorem dX12_areTwoSoon_10 : decode cX12_areTwoSoon 10 = .ok (.invokevirtual 426, 3) := by decide +kernel
theorem dX12_areTwoSoon_13 : decode cX12_areTwoSoon 13 = .ok (.iconst 1, 1) := by decide +kernel
theorem dX12_areTwoSoon_14 : decode cX12_areTwoSoon 14 = .ok (.if_icmp .le 5, 3) := by decide +kernel
theorem dX12_areTwoSoon_17 : decode cX12_areTwoSoon 17 = .ok (.iconst 1, 1) := by decide +kernel
theorem dX12_areTwoSoon_18 : decode cX12_areTwoSoon 18 = .ok (.ireturn, 1) := by decide +kernel
theorem dX12_areTwoSoon_19 : decode cX12_areTwoSoon 19 = .ok (.iinc 1 1, 3) := by decide +kernel
theorem dX12_areTwoSoon_22 : decode cX12_areTwoSoon 22 = .ok (.goto (-20), 3) := by decide +kernel
theorem dX12_areTwoSoon_25 : decode cX12_areTwoSoon 25 = .ok (.iconst 0, 1) := by decide +kernel
theorem dX12_areTwoSoon_26 : decode cX12_areTwoSoon 26 = .ok (.ireturn, 1) := by decide +kernel
set_option maxHeartbeats 4000000 in
set_option maxRecDepth 100000 in
theorem S_X12_areTwoSoon_236 {l : Launch} {D : va_G} {ids : List Nat} {ad : Nat → Nat} {ca : Nat → ClassId} {σ : HS} (hid : ∀ i, i < 277 → i ∈ ids) (hG : GIm σ) : Ki l D ids ad ca yX12_areTwoSoon cX12_areTwoSoon 2 .boolean 2 45 [.ref (ad 236)] σ (fun r σ1 => (σ1 = σ) ∧ (0 ≤ r.toInt ∧ r.toInt ≤ 1)) := by
  refine Ki.of (by decide) (Nat.le_of_ble_eq_true rfl) 1 (fun Γ C Rt => ?_)
  show AW ids ad ca Γ 0 [some (.ref (ad 236)), none] [] σ
  have j2 : ∀ (d2 : Nat) (y2_1 : Int32), 10 - y2_1.toInt < d2 → 0 ≤ y2_1.toInt ∧ y2_1.toInt ≤ 10 → AW ids ad ca Γ 2 [some (.ref (ad 236)), some (.int y2_1)] [] σ := by
    intro d2
    induction d2 with
    | zero =>
      intro y2_1 hd2 hx2_0
      exfalso
      omega
    | succ d2 ih2 =>
      intro y2_1 hd2 hx2_0
      refine a_iload_n C dX12_areTwoSoon_2 (i := 1) rfl rfl ?_
      refine s_bipush C dX12_areTwoSoon_3 (10) (by decide) (fun z1 h2 => ?_)
      refine s_ic_ge C dX12_areTwoSoon_5 (tgt := 25) rfl (fun c3 => ?_) (fun c3 => ?_)
      ·
        refine s_iconst C dX12_areTwoSoon_25 (0) (by decide) (fun z4 h5 => ?_)
        exact a_iret Rt dX12_areTwoSoon_26 (nar_z (by omega)).1 (⟨rfl, (show 0 ≤ z4.toInt ∧ z4.toInt ≤ 1 by intros; omega)⟩)
      ·
        refine a_aload_n C dX12_areTwoSoon_8 (i := 0) rfl rfl ?_
        refine a_iload_n C dX12_areTwoSoon_9 (i := 1) rfl rfl ?_
        refine a_callVi C (i := 236) kd_236 (hid 236 (by decide)) ⟨_, _, rfl⟩ (by decide) (S_X12_landsAt_236 (x1 := y2_1) hid hG) mi_X12_landsAt ml_RX12_426 rfl rfl (Nat.le_of_ble_eq_true rfl) (Nat.le_of_ble_eq_true rfl) (Nat.le_of_ble_eq_true rfl) dX12_areTwoSoon_10 (fun z6 σ7 q8 => ?_)
        rw [q8]
        refine s_iconst C dX12_areTwoSoon_13 (1) (by decide) (fun z9 h10 => ?_)
        refine s_ic_le C dX12_areTwoSoon_14 (tgt := 19) rfl (fun c11 => ?_) (fun c11 => ?_)
        ·
          refine s_iinc C dX12_areTwoSoon_19 rfl (1) (by decide) (by omega) (by decide) rfl (fun z12 h13 => ?_)
          show AW ids ad ca Γ 22 [some (.ref (ad 236)), some (.int z12)] _ _
          refine a_goto C dX12_areTwoSoon_22 (tgt := 2) rfl ?_
          exact ih2 z12 (by omega) (by omega)
        ·
          refine s_iconst C dX12_areTwoSoon_17 (1) (by decide) (fun z14 h15 => ?_)
          exact a_iret Rt dX12_areTwoSoon_18 (nar_z (by omega)).1 (⟨rfl, (show 0 ≤ z14.toInt ∧ z14.toInt ≤ 1 by intros; omega)⟩)
  refine s_iconst C dX12_areTwoSoon_0 (0) (by decide) (fun z16 h17 => ?_)
  refine a_istore_n C dX12_areTwoSoon_1 (i := 1) rfl (by decide) rfl (vs1 := [some (.ref (ad 236)), some (.int z16)]) rfl ?_
  exact j2 100000 z16 (by omega) (by omega)
theorem dX12_aimOf_0 : decode cX12_aimOf 0 = .ok (.iconst 0, 1) := by decide +kernel
theorem dX12_aimOf_1 : decode cX12_aimOf 1 = .ok (.istore_n 2, 1) := by decide +kernel
theorem dX12_aimOf_2 : decode cX12_aimOf 2 = .ok (.iconst 1, 1) := by decide +kernel
theorem dX12_aimOf_3 : decode cX12_aimOf 3 = .ok (.istore_n 3, 1) := by decide +kernel
theorem dX12_aimOf_4 : decode cX12_aimOf 4 = .ok (.iload_n 3, 1) := by decide +kernel
theorem dX12_aimOf_5 : decode cX12_aimOf 5 = .ok (.bipush 9, 2) := by decide +kernel
theorem dX12_aimOf_7 : decode cX12_aimOf 7 = .ok (.if_icmp .gt 50, 3) := by decide +kernel
theorem dX12_aimOf_10 : decode cX12_aimOf 10 = .ok (.aload_n 0, 1) := by decide +kernel
theorem dX12_aimOf_11 : decode cX12_aimOf 11 = .ok (.iload_n 1, 1) := by decide +kernel
theorem dX12_aimOf_12 : decode cX12_aimOf 12 = .ok (.invokevirtual 318, 3) := by decide +kernel
theorem dX12_aimOf_15 : decode cX12_aimOf 15 = .ok (.bipush 9, 2) := by decide +kernel
theorem dX12_aimOf_17 : decode cX12_aimOf 17 = .ok (.imul, 1) := by decide +kernel
theorem dX12_aimOf_18 : decode cX12_aimOf 18 = .ok (.iload_n 3, 1) := by decide +kernel
theorem dX12_aimOf_19 : decode cX12_aimOf 19 = .ok (.isub, 1) := by decide +kernel
theorem dX12_aimOf_20 : decode cX12_aimOf 20 = .ok (.aload_n 0, 1) := by decide +kernel
theorem dX12_aimOf_21 : decode cX12_aimOf 21 = .ok (.iload_n 1, 1) := by decide +kernel
theorem dX12_aimOf_22 : decode cX12_aimOf 22 = .ok (.invokevirtual 318, 3) := by decide +kernel
theorem dX12_aimOf_25 : decode cX12_aimOf 25 = .ok (.irem, 1) := by decide +kernel
theorem dX12_aimOf_26 : decode cX12_aimOf 26 = .ok (.istore 4, 2) := by decide +kernel
theorem dX12_aimOf_28 : decode cX12_aimOf 28 = .ok (.aload_n 0, 1) := by decide +kernel
theorem dX12_aimOf_29 : decode cX12_aimOf 29 = .ok (.iload_n 1, 1) := by decide +kernel
theorem dX12_aimOf_30 : decode cX12_aimOf 30 = .ok (.iload 4, 2) := by decide +kernel
theorem dX12_aimOf_32 : decode cX12_aimOf 32 = .ok (.invokevirtual 321, 3) := by decide +kernel
theorem dX12_aimOf_35 : decode cX12_aimOf 35 = .ok (.iload_n 3, 1) := by decide +kernel
theorem dX12_aimOf_36 : decode cX12_aimOf 36 = .ok (.isub, 1) := by decide +kernel
theorem dX12_aimOf_37 : decode cX12_aimOf 37 = .ok (.istore 5, 2) := by decide +kernel
theorem dX12_aimOf_39 : decode cX12_aimOf 39 = .ok (.iload 5, 2) := by decide +kernel
theorem dX12_aimOf_41 : decode cX12_aimOf 41 = .ok (.ifCond .lt 10, 3) := by decide +kernel
theorem dX12_aimOf_44 : decode cX12_aimOf 44 = .ok (.iload_n 2, 1) := by decide +kernel
theorem dX12_aimOf_45 : decode cX12_aimOf 45 = .ok (.iconst 1, 1) := by decide +kernel
theorem dX12_aimOf_46 : decode cX12_aimOf 46 = .ok (.iload 5, 2) := by decide +kernel
theorem dX12_aimOf_48 : decode cX12_aimOf 48 = .ok (.ishl, 1) := by decide +kernel
theorem dX12_aimOf_49 : decode cX12_aimOf 49 = .ok (.ior, 1) := by decide +kernel
theorem dX12_aimOf_50 : decode cX12_aimOf 50 = .ok (.istore_n 2, 1) := by decide +kernel
theorem dX12_aimOf_51 : decode cX12_aimOf 51 = .ok (.iinc 3 1, 3) := by decide +kernel
theorem dX12_aimOf_54 : decode cX12_aimOf 54 = .ok (.goto (-50), 3) := by decide +kernel
theorem dX12_aimOf_57 : decode cX12_aimOf 57 = .ok (.iload_n 2, 1) := by decide +kernel
theorem dX12_aimOf_58 : decode cX12_aimOf 58 = .ok (.ireturn, 1) := by decide +kernel
set_option maxHeartbeats 4000000 in
set_option maxRecDepth 100000 in
theorem S_X12_aimOf_236 {l : Launch} {D : va_G} {ids : List Nat} {ad : Nat → Nat} {ca : Nat → ClassId} {σ : HS} {x1 : Int32} (hid : ∀ i, i < 277 → i ∈ ids) (hG : GIm σ) {b : Int} (hR : RKm b σ) (hx1 : 0 ≤ x1.toInt ∧ x1.toInt ≤ 4) (hp0 : 0 ≤ x1.toInt ∧ x1.toInt ≤ 4 ∧ x1.toInt < plm σ) : Ki l D ids ad ca yX12_aimOf cX12_aimOf 6 .int 2 43 [.ref (ad 236), .int x1] σ (fun r σ1 => (σ1 = σ)) := by
  refine Ki.of (by decide) (Nat.le_of_ble_eq_true rfl) 4 (fun Γ C Rt => ?_)
  show AW ids ad ca Γ 0 [some (.ref (ad 236)), some (.int x1), none, none, none, none] [] σ
  have j4 : ∀ (d4 : Nat) (y4_2 : Int32) (y4_3 : Int32), 10 - y4_3.toInt < d4 → 1 ≤ y4_3.toInt ∧ y4_3.toInt ≤ 10 → AW ids ad ca Γ 4 [some (.ref (ad 236)), some (.int x1), some (.int y4_2), some (.int y4_3), none, none] [] σ := by
    intro d4
    induction d4 with
    | zero =>
      intro y4_2 y4_3 hd4 hx4_0
      exfalso
      omega
    | succ d4 ih4 =>
      intro y4_2 y4_3 hd4 hx4_0
      have j51 : ∀ (y51_2 : Int32), 1 ≤ y4_3.toInt ∧ y4_3.toInt ≤ 9 → AW ids ad ca Γ 51 [some (.ref (ad 236)), some (.int x1), some (.int y51_2), some (.int y4_3), none, none] [] σ := by
        intro y51_2 hx51_0
        refine s_iinc C dX12_aimOf_51 rfl (1) (by decide) (by omega) (by decide) rfl (fun z1 h2 => ?_)
        show AW ids ad ca Γ 54 [some (.ref (ad 236)), some (.int x1), some (.int y51_2), some (.int z1), none, none] _ _
        refine a_goto C dX12_aimOf_54 (tgt := 4) rfl ?_
        exact ih4 y51_2 z1 (by omega) (by omega)
      refine a_iload_n C dX12_aimOf_4 (i := 3) rfl rfl ?_
      refine s_bipush C dX12_aimOf_5 (9) (by decide) (fun z3 h4 => ?_)
      refine s_ic_gt C dX12_aimOf_7 (tgt := 57) rfl (fun c5 => ?_) (fun c5 => ?_)
      ·
        refine a_iload_n C dX12_aimOf_57 (i := 2) rfl rfl ?_
        exact a_iret Rt dX12_aimOf_58 rfl (rfl)
      ·
        refine a_aload_n C dX12_aimOf_10 (i := 0) rfl rfl ?_
        refine a_iload_n C dX12_aimOf_11 (i := 1) rfl rfl ?_
        refine a_callVi C (i := 236) kd_236 (hid 236 (by decide)) ⟨_, _, rfl⟩ (by decide) (S_X12_lengthOf_236 (x1 := x1) hid hG hR (by omega) (by omega)) mi_X12_lengthOf ml_RX12_318 rfl rfl (Nat.le_of_ble_eq_true rfl) (Nat.le_of_ble_eq_true rfl) (Nat.le_of_ble_eq_true rfl) dX12_aimOf_12 (fun z6 σ7 q8 => ?_)
        obtain ⟨w9, w10⟩ := q8
        rw [w9]
        refine s_bipush C dX12_aimOf_15 (9) (by decide) (fun z11 h12 => ?_)
        refine s_imulc C dX12_aimOf_17 (9) (by omega) (by omega) (fun z13 h14 => ?_)
        refine a_iload_n C dX12_aimOf_18 (i := 3) rfl rfl ?_
        refine s_isub C dX12_aimOf_19 (by omega) (fun z15 h16 => ?_)
        refine a_aload_n C dX12_aimOf_20 (i := 0) rfl rfl ?_
        refine a_iload_n C dX12_aimOf_21 (i := 1) rfl rfl ?_
        refine a_callVi C (i := 236) kd_236 (hid 236 (by decide)) ⟨_, _, rfl⟩ (by decide) (S_X12_lengthOf_236 (x1 := x1) hid hG hR (by omega) (by omega)) mi_X12_lengthOf ml_RX12_318 rfl rfl (Nat.le_of_ble_eq_true rfl) (Nat.le_of_ble_eq_true rfl) (Nat.le_of_ble_eq_true rfl) dX12_aimOf_22 (fun z17 σ18 q19 => ?_)
        obtain ⟨w20, w21⟩ := q19
        rw [w20]
        refine s_irem C dX12_aimOf_25 (by omega) (by omega) (fun z22 h23 => ?_)
        refine a_istore C dX12_aimOf_26 (by decide) rfl (vs1 := [some (.ref (ad 236)), some (.int x1), some (.int y4_2), some (.int y4_3), some (.int z22), none]) rfl ?_
        refine a_aload_n C dX12_aimOf_28 (i := 0) rfl rfl ?_
        refine a_iload_n C dX12_aimOf_29 (i := 1) rfl rfl ?_
        refine a_iload C dX12_aimOf_30 rfl ?_
        refine a_callVi C (i := 236) kd_236 (hid 236 (by decide)) ⟨_, _, rfl⟩ (by decide) (S_X12_heightAt_236 (x1 := x1) (x2 := z22) hid hG hR (by omega) (by omega) (by omega)) mi_X12_heightAt ml_RX12_321 rfl rfl (Nat.le_of_ble_eq_true rfl) (Nat.le_of_ble_eq_true rfl) (Nat.le_of_ble_eq_true rfl) dX12_aimOf_32 (fun z24 σ25 q26 => ?_)
        obtain ⟨w27, w28⟩ := q26
        rw [w27]
        refine a_iload_n C dX12_aimOf_35 (i := 3) rfl rfl ?_
        refine s_isub C dX12_aimOf_36 (by omega) (fun z29 h30 => ?_)
        refine a_istore C dX12_aimOf_37 (by decide) rfl (vs1 := [some (.ref (ad 236)), some (.int x1), some (.int y4_2), some (.int y4_3), some (.int z22), some (.int z29)]) rfl ?_
        refine a_iload C dX12_aimOf_39 rfl ?_
        refine s_if_lt C dX12_aimOf_41 (tgt := 51) rfl (fun c31 => ?_) (fun c31 => ?_)
        ·
          refine AW.sub (vs' := [some (.ref (ad 236)), some (.int x1), some (.int y4_2), some (.int y4_3), none, none]) (lsub_of (by simp [lsubB])) ?_
          exact j51 y4_2 (by omega)
        ·
          refine a_iload_n C dX12_aimOf_44 (i := 2) rfl rfl ?_
          refine s_iconst C dX12_aimOf_45 (1) (by decide) (fun z32 h33 => ?_)
          refine a_iload C dX12_aimOf_46 rfl ?_
          refine s_ishlU C dX12_aimOf_48 (fun z34 => ?_)
          refine s_iorU C dX12_aimOf_49 (fun z36 => ?_)
          refine a_istore_n C dX12_aimOf_50 (i := 2) rfl (by decide) rfl (vs1 := [some (.ref (ad 236)), some (.int x1), some (.int z36), some (.int y4_3), some (.int z22), some (.int z29)]) rfl ?_
          refine AW.sub (vs' := [some (.ref (ad 236)), some (.int x1), some (.int z36), some (.int y4_3), none, none]) (lsub_of (by simp [lsubB])) ?_
          exact j51 z36 (by omega)
  refine s_iconst C dX12_aimOf_0 (0) (by decide) (fun z38 h39 => ?_)
  refine a_istore_n C dX12_aimOf_1 (i := 2) rfl (by decide) rfl (vs1 := [some (.ref (ad 236)), some (.int x1), some (.int z38), none, none, none]) rfl ?_
  refine s_iconst C dX12_aimOf_2 (1) (by decide) (fun z40 h41 => ?_)
  refine a_istore_n C dX12_aimOf_3 (i := 3) rfl (by decide) rfl (vs1 := [some (.ref (ad 236)), some (.int x1), some (.int z38), some (.int z40), none, none]) rfl ?_
  exact j4 100000 z38 z40 (by omega) (by omega)
theorem dX12_order_37 : decode cX12_order 37 = .ok (.aload_n 0, 1) := by decide +kernel
theorem dX12_order_38 : decode cX12_order 38 = .ok (.iload_n 3, 1) := by decide +kernel
theorem dX12_order_39 : decode cX12_order 39 = .ok (.bipush 7, 2) := by decide +kernel
theorem dX12_order_41 : decode cX12_order 41 = .ok (.irem, 1) := by decide +kernel
theorem dX12_order_42 : decode cX12_order 42 = .ok (.iload_n 3, 1) := by decide +kernel
theorem dX12_order_43 : decode cX12_order 43 = .ok (.bipush 7, 2) := by decide +kernel
theorem dX12_order_45 : decode cX12_order 45 = .ok (.idiv, 1) := by decide +kernel
theorem dX12_order_46 : decode cX12_order 46 = .ok (.invokevirtual 324, 3) := by decide +kernel
theorem dX12_order_49 : decode cX12_order 49 = .ok (.ifCond .ne 6, 3) := by decide +kernel
theorem dX12_order_52 : decode cX12_order 52 = .ok (.goto 16, 3) := by decide +kernel
theorem dX12_order_55 : decode cX12_order 55 = .ok (.iload_n 2, 1) := by decide +kernel
theorem dX12_order_56 : decode cX12_order 56 = .ok (.iload_n 1, 1) := by decide +kernel
theorem dX12_order_57 : decode cX12_order 57 = .ok (.if_icmp .ne 8, 3) := by decide +kernel
theorem dX12_order_60 : decode cX12_order 60 = .ok (.iload_n 3, 1) := by decide +kernel
theorem dX12_order_61 : decode cX12_order 61 = .ok (.bipush 7, 2) := by decide +kernel
theorem dX12_order_63 : decode cX12_order 63 = .ok (.irem, 1) := by decide +kernel
theorem dX12_order_64 : decode cX12_order 64 = .ok (.ireturn, 1) := by decide +kernel
theorem dX12_order_65 : decode cX12_order 65 = .ok (.iinc 2 1, 3) := by decide +kernel
set_option maxHeartbeats 4000000 in
set_option maxRecDepth 100000 in
theorem S_X12_order_236 {l : Launch} {D : va_G} {ids : List Nat} {ad : Nat → Nat} {ca : Nat → ClassId} {σ : HS} {x1 : Int32} (hid : ∀ i, i < 277 → i ∈ ids) (hG : GIm σ) {b : Int} (hR : RKm b σ) : Ki l D ids ad ca yX12_order cX12_order 4 .int 2 43 [.ref (ad 236), .int x1] σ (fun r σ1 => (GIm σ1) ∧ (onm [267, 1049, 1050, 2021, 2026, 2027] σ σ1) ∧ (RKm b σ1)) := by
  refine Ki.of (by decide) (Nat.le_of_ble_eq_true rfl) 2 (fun Γ C Rt => ?_)
  show AW ids ad ca Γ 0 [some (.ref (ad 236)), some (.int x1), none, none] [] σ
  have j20 : ∀ (d20 : Nat) (σq20 : HS) (y20_2 : Int32) (y20_3 : Int32), 99 - y20_3.toInt < d20 → GIm σq20 → onm [267, 1049, 1050, 2021, 2026, 2027] σ σq20 → RKm b σq20 → 0 ≤ y20_3.toInt ∧ y20_3.toInt ≤ 99 → AW ids ad ca Γ 20 [some (.ref (ad 236)), some (.int x1), some (.int y20_2), some (.int y20_3)] [] σq20 := by
    intro d20
    induction d20 with
    | zero =>
      intro σq20 y20_2 y20_3 hd20 hGq20 hoq20 hRq20 hx20_0
      exfalso
      omega
    | succ d20 ih20 =>
      intro σq20 y20_2 y20_3 hd20 hGq20 hoq20 hRq20 hx20_0
      have j68 : ∀ (σq68 : HS) (y68_2 : Int32), GIm σq68 → onm [267, 1049, 1050, 2021, 2026, 2027] σ σq68 → RKm b σq68 → 0 ≤ y20_3.toInt ∧ y20_3.toInt ≤ 69 → AW ids ad ca Γ 68 [some (.ref (ad 236)), some (.int x1), some (.int y68_2), some (.int y20_3)] [] σq68 := by
        intro σq68 y68_2 hGq68 hoq68 hRq68 hx68_0
        refine s_iinc C dX12_order_68 rfl (1) (by decide) (by omega) (by decide) rfl (fun z1 h2 => ?_)
        show AW ids ad ca Γ 71 [some (.ref (ad 236)), some (.int x1), some (.int y68_2), some (.int z1)] _ _
        refine a_goto C dX12_order_71 (tgt := 20) rfl ?_
        exact ih20 _ y68_2 z1 (by omega) hGq68 hoq68 hRq68 (by omega)
      refine a_iload_n C dX12_order_20 (i := 3) rfl rfl ?_
      refine s_bipush C dX12_order_21 (70) (by decide) (fun z3 h4 => ?_)
      refine s_ic_ge C dX12_order_23 (tgt := 74) rfl (fun c5 => ?_) (fun c5 => ?_)
      ·
        refine s_iconst C dX12_order_74 (-1) (by decide) (fun z6 h7 => ?_)
        exact a_iret Rt dX12_order_75 rfl (⟨hGq20, hoq20, hRq20⟩)
      ·
        refine a_aload_n C dX12_order_26 (i := 0) rfl rfl ?_
        refine a_iload_n C dX12_order_27 (i := 3) rfl rfl ?_
        refine s_bipush C dX12_order_28 (7) (by decide) (fun z8 h9 => ?_)
        refine s_iremc C dX12_order_30 (7) (by omega) (by omega) (by decide) (fun z10 h11 => ?_)
        refine a_callVi C (i := 236) kd_236 (hid 236 (by decide)) ⟨_, _, rfl⟩ (by decide) (S_X12_isThing_236 (x1 := z10) hid hGq20) mi_X12_isThing ml_RX12_390 rfl rfl (Nat.le_of_ble_eq_true rfl) (Nat.le_of_ble_eq_true rfl) (Nat.le_of_ble_eq_true rfl) dX12_order_31 (fun z12 σ13 q14 => ?_)
        obtain ⟨w15, w16, w17⟩ := q14
        rw [w15]
        refine s_if_eq C dX12_order_34 (tgt := 68) rfl (fun c18 => ?_) (fun c18 => ?_)
        ·
          exact j68 _ y20_2 hGq20 hoq20 hRq20 (by omega)
        ·
          refine a_aload_n C dX12_order_37 (i := 0) rfl rfl ?_
          refine a_iload_n C dX12_order_38 (i := 3) rfl rfl ?_
          refine s_bipush C dX12_order_39 (7) (by decide) (fun z19 h20 => ?_)
          refine s_iremc C dX12_order_41 (7) (by omega) (by omega) (by decide) (fun z21 h22 => ?_)
          refine a_iload_n C dX12_order_42 (i := 3) rfl rfl ?_
          refine s_bipush C dX12_order_43 (7) (by decide) (fun z23 h24 => ?_)
          refine s_idivc C dX12_order_45 (7) (by omega) (by omega) (by decide) (fun z25 h26 => ?_)
          refine a_callVi C (i := 236) kd_236 (hid 236 (by decide)) ⟨_, _, rfl⟩ (by decide) (S_X12_doesLand_236 (x1 := z21) (x2 := z25) hid hGq20 (by omega)) mi_X12_doesLand ml_RX12_324 rfl rfl (Nat.le_of_ble_eq_true rfl) (Nat.le_of_ble_eq_true rfl) (Nat.le_of_ble_eq_true rfl) dX12_order_46 (fun z27 σ28 q29 => ?_)
          obtain ⟨w30, w31⟩ := q29
          rw [w30]
          refine s_if_ne C dX12_order_49 (tgt := 55) rfl (fun c32 => ?_) (fun c32 => ?_)
          ·
            refine a_iload_n C dX12_order_55 (i := 2) rfl rfl ?_
            refine a_iload_n C dX12_order_56 (i := 1) rfl rfl ?_
            refine s_ic_ne C dX12_order_57 (tgt := 65) rfl (fun c33 => ?_) (fun c33 => ?_)
            ·
              refine s_iincU C dX12_order_65 rfl (by decide) rfl (fun z34 => ?_)
              show AW ids ad ca Γ 68 [some (.ref (ad 236)), some (.int x1), some (.int z34), some (.int y20_3)] _ _
              exact j68 _ z34 hGq20 hoq20 hRq20 (by omega)
            ·
              refine a_iload_n C dX12_order_60 (i := 3) rfl rfl ?_
              refine s_bipush C dX12_order_61 (7) (by decide) (fun z36 h37 => ?_)
              refine s_iremc C dX12_order_63 (7) (by omega) (by omega) (by decide) (fun z38 h39 => ?_)
              exact a_iret Rt dX12_order_64 rfl (⟨hGq20, hoq20, hRq20⟩)
          ·
            refine a_goto C dX12_order_52 (tgt := 68) rfl ?_
            exact j68 _ y20_2 hGq20 hoq20 hRq20 (by omega)
  refine a_iload_n C dX12_order_0 (i := 1) rfl rfl ?_
  refine s_iconst C dX12_order_1 (0) (by decide) (fun z40 h41 => ?_)
  refine s_bipush C dX12_order_2 (6) (by decide) (fun z42 h43 => ?_)
  refine a_callSi C (S_X12_in (x1 := x1) (x2 := z40) (x3 := z42) hid hG) ms_X12_in ml_RX12_301 rfl rfl (Nat.le_of_ble_eq_true rfl) (Nat.le_of_ble_eq_true rfl) (Nat.le_of_ble_eq_true rfl) dX12_order_4 (fun z44 σ45 q46 => ?_)
  obtain ⟨w47, w48, w49⟩ := q46
  rw [w47]
  refine s_if_ne C dX12_order_7 (tgt := 12) rfl (fun c50 => ?_) (fun c50 => ?_)
  ·
    refine a_aload_n C dX12_order_12 (i := 0) rfl rfl ?_
    refine a_callVv C (i := 236) kd_236 (hid 236 (by decide)) ⟨_, _, rfl⟩ (by decide) (S_X12_copies_236 hid hG hR) mi_X12_copies ml_RX12_311 rfl rfl (Nat.le_of_ble_eq_true rfl) (Nat.le_of_ble_eq_true rfl) (Nat.le_of_ble_eq_true rfl) dX12_order_13 (fun σ52 q53 => ?_)
    obtain ⟨hG54, ho55, hR56, w57⟩ := q53
    refine s_iconst C dX12_order_16 (0) (by decide) (fun z58 h59 => ?_)
    refine a_istore_n C dX12_order_17 (i := 2) rfl (by decide) rfl (vs1 := [some (.ref (ad 236)), some (.int x1), some (.int z58), none]) rfl ?_
    refine s_iconst C dX12_order_18 (0) (by decide) (fun z60 h61 => ?_)
    refine a_istore_n C dX12_order_19 (i := 3) rfl (by decide) rfl (vs1 := [some (.ref (ad 236)), some (.int x1), some (.int z58), some (.int z60)]) rfl ?_
    exact j20 100000 _ z58 z60 (by omega) hG54 (onm.tr onm.rf (onm.mono ho55 (by decide))) hR56 (by omega)
  ·
    refine s_iconst C dX12_order_10 (-1) (by decide) (fun z62 h63 => ?_)
    exact a_iret Rt dX12_order_11 rfl (⟨hG, onm.rf, hR⟩)
set_option maxHeartbeats 4000000 in
set_option maxRecDepth 100000 in
theorem S_X12_tell_236 {l : Launch} {D : va_G} {ids : List Nat} {ad : Nat → Nat} {ca : Nat → ClassId} {σ : HS} {x1 : Int32} {x2 : Int32} (hid : ∀ i, i < 277 → i ∈ ids) (hG : GIm σ) (hx2 : 0 ≤ x2.toInt ∧ x2.toInt ≤ 1) : Ki l D ids ad ca yX12_tell cX12_tell 3 .int 1 22 [.ref (ad 236), .int x1, .int x2] σ (fun r σ1 => (GIm σ1) ∧ (onm [272, 273, 1060] σ σ1)) := by
  refine Ki.of (by decide) (Nat.le_of_ble_eq_true rfl) 0 (fun Γ C Rt => ?_)
  show AW ids ad ca Γ 0 [some (.ref (ad 236)), some (.int x1), some (.int x2)] [] σ
  refine a_aload_n C dX12_tell_0 (i := 0) rfl rfl ?_
  have g1 := bF_236_60 hG
  refine a_get C fl_RX12_242 (i := 236) kd_236 (hid 236 (by decide)) (v := .int (σ.1 236 60)) rfl dX12_tell_1 ?_
  refine s_bipush C dX12_tell_4 (20) (by decide) (fun z2 h3 => ?_)
  refine s_ic_eq C dX12_tell_6 (tgt := 19) rfl (fun c4 => ?_) (fun c4 => ?_)
  ·
    refine s_iconst C dX12_tell_19 (-1) (by decide) (fun z5 h6 => ?_)
    exact a_iret Rt dX12_tell_20 rfl (⟨hG, onm.rf⟩)
  ·
    refine a_iload_n C dX12_tell_9 (i := 1) rfl rfl ?_
    refine s_iconst C dX12_tell_10 (0) (by decide) (fun z7 h8 => ?_)
    refine s_bipush C dX12_tell_11 (40) (by decide) (fun z9 h10 => ?_)
    refine a_callSi C (S_X12_in (x1 := x1) (x2 := z7) (x3 := z9) hid hG) ms_X12_in ml_RX12_301 rfl rfl (Nat.le_of_ble_eq_true rfl) (Nat.le_of_ble_eq_true rfl) (Nat.le_of_ble_eq_true rfl) dX12_tell_13 (fun z11 σ12 q13 => ?_)
    obtain ⟨w14, w15, w16⟩ := q13
    rw [w14]
    refine s_if_ne C dX12_tell_16 (tgt := 21) rfl (fun c17 => ?_) (fun c17 => ?_)
    ·
      refine a_aload_n C dX12_tell_21 (i := 0) rfl rfl ?_
      refine a_get C fl_RX12_125 (i := 236) kd_236 (hid 236 (by decide)) (v := .ref (ad 272)) rfl dX12_tell_22 ?_
      refine a_aload_n C dX12_tell_25 (i := 0) rfl rfl ?_
      refine a_get C fl_RX12_242 (i := 236) kd_236 (hid 236 (by decide)) (v := .int (σ.1 236 60)) rfl dX12_tell_26 ?_
      refine a_iload_n C dX12_tell_29 (i := 1) rfl rfl ?_
      refine s_iast C (i := 272) kd_272 (hid 272 (by decide)) al_272 (by omega) (by omega) dX12_tell_30 (fun n18 h19 => ?_)
      have hG20 := wA_272 (v := x1) (j := n18) hG (by omega) (by omega)
      refine a_aload_n C dX12_tell_31 (i := 0) rfl rfl ?_
      refine a_get C fl_RX12_128 (i := 236) kd_236 (hid 236 (by decide)) (v := .ref (ad 273)) rfl dX12_tell_32 ?_
      refine a_aload_n C dX12_tell_35 (i := 0) rfl rfl ?_
      refine a_get C fl_RX12_242 (i := 236) kd_236 (hid 236 (by decide)) (v := .int (σ.1 236 60)) rfl dX12_tell_36 ?_
      refine a_iload_n C dX12_tell_39 (i := 2) rfl rfl ?_
      refine s_zast C (i := 273) (nar_v (by omega)) kd_273 (hid 273 (by decide)) al_273 (by omega) (by omega) dX12_tell_40 (fun n21 h22 => ?_)
      have hG23 := wA_273 (v := x2) (j := n21) hG20
      refine a_aload_n C dX12_tell_41 (i := 0) rfl rfl ?_
      refine a_dup C dX12_tell_42 rfl ?_
      refine a_get C fl_RX12_242 (i := 236) kd_236 (hid 236 (by decide)) (v := .int (σ.1 236 60)) rfl dX12_tell_43 ?_
      refine s_iconst C dX12_tell_46 (1) (by decide) (fun z24 h25 => ?_)
      refine s_iadd C dX12_tell_47 (by omega) (fun z26 h27 => ?_)
      refine a_put C fp_RX12_242 (i := 236) kd_236 (hid 236 (by decide)) rfl rfl dX12_tell_48 ?_
      have hG28 := wF_236_60 (v := z26) hG23 (by omega) (by omega)
      refine a_aload_n C dX12_tell_51 (i := 0) rfl rfl ?_
      refine a_get C fl_RX12_242 (i := 236) kd_236 (hid 236 (by decide)) (v := .int z26) rfl dX12_tell_52 ?_
      refine s_iconst C dX12_tell_55 (1) (by decide) (fun z29 h30 => ?_)
      refine s_isub C dX12_tell_56 (by omega) (fun z31 h32 => ?_)
      exact a_iret Rt dX12_tell_57 rfl (⟨hG28, (onm.F (onm.I (onm.I onm.rf (by decide)) (by decide)) (by decide))⟩)
    ·
      refine s_iconst C dX12_tell_19 (-1) (by decide) (fun z33 h34 => ?_)
      exact a_iret Rt dX12_tell_20 rfl (⟨hG, onm.rf⟩)
set_option maxHeartbeats 4000000 in
set_option maxRecDepth 100000 in
theorem S_X12_keepsRow_236 {l : Launch} {D : va_G} {ids : List Nat} {ad : Nat → Nat} {ca : Nat → ClassId} {σ : HS} (hid : ∀ i, i < 277 → i ∈ ids) (hG : GIm σ) : Kv l D ids ad ca yX12_keepsRow cX12_keepsRow 2 0 0 [.ref (ad 236)] σ (fun σ1 => (GIm σ1) ∧ (onm [266] σ σ1) ∧ (∀ q, q < 29 → σ1.1 266 q = σ.1 267 q)) := by
  refine Kv.of (by decide) (Nat.le_of_ble_eq_true rfl) 1 (fun Γ C Rt => ?_)
  show AW ids ad ca Γ 0 [some (.ref (ad 236)), none] [] σ
  have j2 : ∀ (d2 : Nat) (σq2 : HS) (y2_1 : Int32), 31 - y2_1.toInt < d2 → GIm σq2 → onm [266] σ σq2 → 0 ≤ y2_1.toInt ∧ y2_1.toInt ≤ 31 → (∀ q : Nat, (q : Int) < y2_1.toInt → σq2.1 266 (0 + q) = σ.1 267 (0 + q)) → AW ids ad ca Γ 2 [some (.ref (ad 236)), some (.int y2_1)] [] σq2 := by
    intro d2
    induction d2 with
    | zero =>
      intro σq2 y2_1 hd2 hGq2 hoq2 hx2_0 hx2_1
      exfalso
      omega
    | succ d2 ih2 =>
      intro σq2 y2_1 hd2 hGq2 hoq2 hx2_0 hx2_1
      refine a_iload_n C dX12_keepsRow_2 (i := 1) rfl rfl ?_
      refine s_bipush C dX12_keepsRow_3 (29) (by decide) (fun z1 h2 => ?_)
      refine s_ic_ge C dX12_keepsRow_5 (tgt := 26) rfl (fun c3 => ?_) (fun c3 => ?_)
      ·
        exact a_vret Rt dX12_keepsRow_26 (⟨hGq2, hoq2, (fun q hq => by have e := hx2_1 q (by omega); rw [Nat.zero_add] at e; exact e)⟩)
      ·
        refine a_aload_n C dX12_keepsRow_8 (i := 0) rfl rfl ?_
        refine a_get C fl_RX12_107 (i := 236) kd_236 (hid 236 (by decide)) (v := .ref (ad 266)) rfl dX12_keepsRow_9 ?_
        refine a_iload_n C dX12_keepsRow_12 (i := 1) rfl rfl ?_
        refine a_aload_n C dX12_keepsRow_13 (i := 0) rfl rfl ?_
        refine a_get C fl_RX12_110 (i := 236) kd_236 (hid 236 (by decide)) (v := .ref (ad 267)) rfl dX12_keepsRow_14 ?_
        refine a_iload_n C dX12_keepsRow_17 (i := 1) rfl rfl ?_
        refine s_iald C (i := 267) kd_267 (hid 267 (by decide)) al_267 (by omega) (by omega) dX12_keepsRow_18 (fun n4 h5 => ?_)
        refine s_val (fun z6 e7 => ?_)
        refine s_iast C (i := 266) kd_266 (hid 266 (by decide)) al_266 (by omega) (by omega) dX12_keepsRow_19 (fun n8 h9 => ?_)
        have hG10 := wA_266 (v := z6) (j := n8) hGq2
        refine s_iinc C dX12_keepsRow_20 rfl (1) (by decide) (by omega) (by decide) rfl (fun z11 h12 => ?_)
        show AW ids ad ca Γ 23 [some (.ref (ad 236)), some (.int z11)] _ _
        refine a_goto C dX12_keepsRow_23 (tgt := 2) rfl ?_
        exact ih2 _ z11 (by omega) hG10 (onm.I hoq2 (by decide)) (by omega) (cp_step (i := 266) (a := 0) (n := n8) (n1 := y2_1.toInt.toNat) (k := y2_1) (f := fun q => σ.1 267 (0 + q)) hx2_1 (by omega) (by omega) (by omega) (show σ.1 267 (0 + y2_1.toInt.toNat) = _ from by rw [show 0 + y2_1.toInt.toNat = n4 by omega]; exact ((congrFun (hoq2.r (by decide)) n4).symm.trans e7)))
  refine s_iconst C dX12_keepsRow_0 (0) (by decide) (fun z13 h14 => ?_)
  refine a_istore_n C dX12_keepsRow_1 (i := 1) rfl (by decide) rfl (vs1 := [some (.ref (ad 236)), some (.int z13)]) rfl ?_
  exact j2 100000 _ z13 (by omega) hG onm.rf (by omega) (fun q hq => absurd hq (by omega))
theorem dX12_undo_9 : decode cX12_undo 9 = .ok (.aload_n 0, 1) := by decide +kernel
theorem dX12_undo_10 : decode cX12_undo 10 = .ok (.dup, 1) := by decide +kernel
theorem dX12_undo_11 : decode cX12_undo 11 = .ok (.getfield 239, 3) := by decide +kernel
theorem dX12_undo_14 : decode cX12_undo 14 = .ok (.iconst 1, 1) := by decide +kernel
theorem dX12_undo_15 : decode cX12_undo 15 = .ok (.isub, 1) := by decide +kernel
theorem dX12_undo_16 : decode cX12_undo 16 = .ok (.putfield 239, 3) := by decide +kernel
theorem dX12_undo_19 : decode cX12_undo 19 = .ok (.iconst 0, 1) := by decide +kernel
theorem dX12_undo_20 : decode cX12_undo 20 = .ok (.istore_n 1, 1) := by decide +kernel
theorem dX12_undo_21 : decode cX12_undo 21 = .ok (.iload_n 1, 1) := by decide +kernel
theorem dX12_undo_22 : decode cX12_undo 22 = .ok (.bipush 29, 2) := by decide +kernel
theorem dX12_undo_24 : decode cX12_undo 24 = .ok (.if_icmp .ge 29, 3) := by decide +kernel
theorem dX12_undo_27 : decode cX12_undo 27 = .ok (.aload_n 0, 1) := by decide +kernel
theorem dX12_undo_28 : decode cX12_undo 28 = .ok (.getfield 107, 3) := by decide +kernel
theorem dX12_undo_31 : decode cX12_undo 31 = .ok (.iload_n 1, 1) := by decide +kernel
theorem dX12_undo_32 : decode cX12_undo 32 = .ok (.aload_n 0, 1) := by decide +kernel
theorem dX12_undo_33 : decode cX12_undo 33 = .ok (.getfield 113, 3) := by decide +kernel
theorem dX12_undo_36 : decode cX12_undo 36 = .ok (.bipush 29, 2) := by decide +kernel
theorem dX12_undo_38 : decode cX12_undo 38 = .ok (.aload_n 0, 1) := by decide +kernel
theorem dX12_undo_39 : decode cX12_undo 39 = .ok (.getfield 239, 3) := by decide +kernel
theorem dX12_undo_42 : decode cX12_undo 42 = .ok (.imul, 1) := by decide +kernel
theorem dX12_undo_43 : decode cX12_undo 43 = .ok (.iload_n 1, 1) := by decide +kernel
theorem dX12_undo_44 : decode cX12_undo 44 = .ok (.iadd, 1) := by decide +kernel
theorem dX12_undo_45 : decode cX12_undo 45 = .ok (.iaload, 1) := by decide +kernel
theorem dX12_undo_46 : decode cX12_undo 46 = .ok (.iastore, 1) := by decide +kernel
theorem dX12_undo_47 : decode cX12_undo 47 = .ok (.iinc 1 1, 3) := by decide +kernel
theorem dX12_undo_50 : decode cX12_undo 50 = .ok (.goto (-29), 3) := by decide +kernel
theorem dX12_undo_53 : decode cX12_undo 53 = .ok (.iconst 1, 1) := by decide +kernel
theorem dX12_undo_54 : decode cX12_undo 54 = .ok (.ireturn, 1) := by decide +kernel
set_option maxHeartbeats 4000000 in
set_option maxRecDepth 100000 in
theorem S_X12_undo_236 {l : Launch} {D : va_G} {ids : List Nat} {ad : Nat → Nat} {ca : Nat → ClassId} {σ : HS} (hid : ∀ i, i < 277 → i ∈ ids) (hG : GIm σ) {b : Int} (hR : RKm b σ) : Ki l D ids ad ca yX12_undo cX12_undo 2 .boolean 0 0 [.ref (ad 236)] σ (fun r σ1 => (GIm σ1) ∧ (onm [266, 1054] σ σ1) ∧ (RKm b σ1) ∧ (0 ≤ r.toInt ∧ r.toInt ≤ 1)) := by
  refine Ki.of (by decide) (Nat.le_of_ble_eq_true rfl) 1 (fun Γ C Rt => ?_)
  show AW ids ad ca Γ 0 [some (.ref (ad 236)), none] [] σ
  have j21 : ∀ (d21 : Nat) (σq21 : HS) (y21_1 : Int32), 31 - y21_1.toInt < d21 → GIm σq21 → onm [266, 1054] σ σq21 → 0 ≤ y21_1.toInt ∧ y21_1.toInt ≤ 31 → ((σq21.1 236 54).toInt = (σ.1 236 54).toInt - 1) → (1 ≤ (σ.1 236 54).toInt) → ((σ.1 236 54).toInt ≤ 40) → (∀ q : Nat, (q : Int) < y21_1.toInt → σq21.1 266 (0 + q) = σ.1 268 ((29 * ((σ.1 236 54).toInt - 1).toNat) + q)) → AW ids ad ca Γ 21 [some (.ref (ad 236)), some (.int y21_1)] [] σq21 := by
    intro d21
    induction d21 with
    | zero =>
      intro σq21 y21_1 hd21 hGq21 hoq21 hx21_0 hx21_1 hx21_2 hx21_3 hx21_4
      exfalso
      omega
    | succ d21 ih21 =>
      intro σq21 y21_1 hd21 hGq21 hoq21 hx21_0 hx21_1 hx21_2 hx21_3 hx21_4
      refine a_iload_n C dX12_undo_21 (i := 1) rfl rfl ?_
      refine s_bipush C dX12_undo_22 (29) (by decide) (fun z1 h2 => ?_)
      refine s_ic_ge C dX12_undo_24 (tgt := 53) rfl (fun c3 => ?_) (fun c3 => ?_)
      ·
        refine s_iconst C dX12_undo_53 (1) (by decide) (fun z4 h5 => ?_)
        have g6 := bF_236_54 hGq21
        exact a_iret Rt dX12_undo_54 (nar_z (by omega)).1 (⟨hGq21, hoq21, (RKm.ony3 (c := b) hR (hoq21 : onm [266, 1054] σ σq21) (by decide) (hR.now).2.2.2.2 (hR.rw.eq ((hoq21 : onm [266, 1054] σ σq21).1 267 21 (by decide)) ((hoq21 : onm [266, 1054] σ σq21).1 267 26 (by decide)) ((hoq21 : onm [266, 1054] σ σq21).1 267 27 (by decide))) ((hR.hist ((σ.1 236 54).toInt - 1).toNat (by omega)).eq (show σq21.1 266 (0 + 21) = σ.1 268 ((29 * ((σ.1 236 54).toInt - 1).toNat) + 21) from hx21_4 21 (by omega)) (show σq21.1 266 (0 + 26) = σ.1 268 ((29 * ((σ.1 236 54).toInt - 1).toNat) + 26) from hx21_4 26 (by omega)) (show σq21.1 266 (0 + 27) = σ.1 268 ((29 * ((σ.1 236 54).toInt - 1).toNat) + 27) from hx21_4 27 (by omega))) (fun u hu => by rw [((hoq21 : onm [266, 1054] σ σq21).a (i := 268) (by decide))]; exact hR.hist u (by have hu2 : (u : Int) < (σq21.1 236 54).toInt := hu; omega)) (fun s hs e9 => by rw [((hoq21 : onm [266, 1054] σ σq21).a (i := 276) (by decide))]; exact hR.helds s hs (by rw [← ((hoq21 : onm [266, 1054] σ σq21).a (i := 275) (by decide))]; exact e9))), (show 0 ≤ z4.toInt ∧ z4.toInt ≤ 1 by intros; omega)⟩)
      ·
        refine a_aload_n C dX12_undo_27 (i := 0) rfl rfl ?_
        refine a_get C fl_RX12_107 (i := 236) kd_236 (hid 236 (by decide)) (v := .ref (ad 266)) rfl dX12_undo_28 ?_
        refine a_iload_n C dX12_undo_31 (i := 1) rfl rfl ?_
        refine a_aload_n C dX12_undo_32 (i := 0) rfl rfl ?_
        refine a_get C fl_RX12_113 (i := 236) kd_236 (hid 236 (by decide)) (v := .ref (ad 268)) rfl dX12_undo_33 ?_
        refine s_bipush C dX12_undo_36 (29) (by decide) (fun z7 h8 => ?_)
        refine a_aload_n C dX12_undo_38 (i := 0) rfl rfl ?_
        have g9 := bF_236_54 hGq21
        refine a_get C fl_RX12_239 (i := 236) kd_236 (hid 236 (by decide)) (v := .int (σq21.1 236 54)) rfl dX12_undo_39 ?_
        refine s_imuld C dX12_undo_42 (29) (by omega) (by omega) (fun z10 h11 => ?_)
        refine a_iload_n C dX12_undo_43 (i := 1) rfl rfl ?_
        refine s_iadd C dX12_undo_44 (by omega) (fun z12 h13 => ?_)
        refine s_iald C (i := 268) kd_268 (hid 268 (by decide)) al_268 (by omega) (by omega) dX12_undo_45 (fun n14 h15 => ?_)
        refine s_val (fun z16 e17 => ?_)
        refine s_iast C (i := 266) kd_266 (hid 266 (by decide)) al_266 (by omega) (by omega) dX12_undo_46 (fun n18 h19 => ?_)
        have hG20 := wA_266 (v := z16) (j := n18) hGq21
        refine s_iinc C dX12_undo_47 rfl (1) (by decide) (by omega) (by decide) rfl (fun z21 h22 => ?_)
        show AW ids ad ca Γ 50 [some (.ref (ad 236)), some (.int z21)] _ _
        refine a_goto C dX12_undo_50 (tgt := 21) rfl ?_
        exact ih21 _ z21 (by omega) hG20 (onm.I hoq21 (by decide)) (by omega) (show (σq21.1 236 54).toInt = (σ.1 236 54).toInt - 1 by omega) (show 1 ≤ (σ.1 236 54).toInt by omega) (show (σ.1 236 54).toInt ≤ 40 by omega) (cp_step (i := 266) (a := 0) (n := n18) (n1 := y21_1.toInt.toNat) (k := y21_1) (f := fun q => σ.1 268 ((29 * ((σ.1 236 54).toInt - 1).toNat) + q)) hx21_4 (by omega) (by omega) (by omega) (show σ.1 268 ((29 * ((σ.1 236 54).toInt - 1).toNat) + y21_1.toInt.toNat) = _ from by rw [show (29 * ((σ.1 236 54).toInt - 1).toNat) + y21_1.toInt.toNat = n14 by omega]; exact ((congrFun (hoq21.a (i := 268) (by decide)) n14).symm.trans e17)))
  refine a_aload_n C dX12_undo_0 (i := 0) rfl rfl ?_
  have g23 := bF_236_54 hG
  refine a_get C fl_RX12_239 (i := 236) kd_236 (hid 236 (by decide)) (v := .int (σ.1 236 54)) rfl dX12_undo_1 ?_
  refine s_if_ne C dX12_undo_4 (tgt := 9) rfl (fun c24 => ?_) (fun c24 => ?_)
  ·
    refine a_aload_n C dX12_undo_9 (i := 0) rfl rfl ?_
    refine a_dup C dX12_undo_10 rfl ?_
    refine a_get C fl_RX12_239 (i := 236) kd_236 (hid 236 (by decide)) (v := .int (σ.1 236 54)) rfl dX12_undo_11 ?_
    refine s_iconst C dX12_undo_14 (1) (by decide) (fun z25 h26 => ?_)
    refine s_isub C dX12_undo_15 (by omega) (fun z27 h28 => ?_)
    refine a_put C fp_RX12_239 (i := 236) kd_236 (hid 236 (by decide)) rfl rfl dX12_undo_16 ?_
    have hG29 := wF_236_54 (v := z27) hG (by omega) (by omega)
    refine s_iconst C dX12_undo_19 (0) (by decide) (fun z30 h31 => ?_)
    refine a_istore_n C dX12_undo_20 (i := 1) rfl (by decide) rfl (vs1 := [some (.ref (ad 236)), some (.int z30)]) rfl ?_
    exact j21 100000 _ z30 (by omega) hG29 (onm.F onm.rf (by decide)) (by omega) (show z27.toInt = (σ.1 236 54).toInt - 1 by omega) (show 1 ≤ (σ.1 236 54).toInt by omega) (show (σ.1 236 54).toInt ≤ 40 by omega) (fun q hq => absurd hq (by omega))
  ·
    refine s_iconst C dX12_undo_7 (0) (by decide) (fun z32 h33 => ?_)
    exact a_iret Rt dX12_undo_8 (nar_z (by omega)).1 (⟨hG, onm.rf, hR, (show 0 ≤ z32.toInt ∧ z32.toInt ≤ 1 by intros; omega)⟩)
set_option maxHeartbeats 4000000 in
set_option maxRecDepth 100000 in
theorem S_X12_hold_236 {l : Launch} {D : va_G} {ids : List Nat} {ad : Nat → Nat} {ca : Nat → ClassId} {σ : HS} {x1 : Int32} (hid : ∀ i, i < 277 → i ∈ ids) (hG : GIm σ) {b : Int} (hR : RKm b σ) : Ki l D ids ad ca yX12_hold cX12_hold 3 .boolean 1 22 [.ref (ad 236), .int x1] σ (fun r σ1 => (GIm σ1) ∧ (onm [275, 276] σ σ1) ∧ (RKm b σ1) ∧ (0 ≤ r.toInt ∧ r.toInt ≤ 1)) := by
  refine Ki.of (by decide) (Nat.le_of_ble_eq_true rfl) 1 (fun Γ C Rt => ?_)
  show AW ids ad ca Γ 0 [some (.ref (ad 236)), some (.int x1), none] [] σ
  have j20 : ∀ (d20 : Nat) (σq20 : HS) (y20_2 : Int32), 31 - y20_2.toInt < d20 → GIm σq20 → onm [275, 276] σ σq20 → 0 ≤ y20_2.toInt ∧ y20_2.toInt ≤ 31 → 0 ≤ x1.toInt ∧ x1.toInt ≤ 2 → (∀ s : Nat, s ≠ x1.toInt.toNat → σq20.1 275 s = σ.1 275 s) → (∀ q : Nat, (q : Int) < y20_2.toInt → σq20.1 276 ((29 * x1.toInt.toNat) + q) = σ.1 266 (0 + q)) → (∀ q : Nat, (q < 29 * x1.toInt.toNat ∨ 29 * x1.toInt.toNat + 29 ≤ q) → σq20.1 276 q = σ.1 276 q) → AW ids ad ca Γ 20 [some (.ref (ad 236)), some (.int x1), some (.int y20_2)] [] σq20 := by
    intro d20
    induction d20 with
    | zero =>
      intro σq20 y20_2 hd20 hGq20 hoq20 hx20_0 hx20_1 hx20_2 hx20_3 hx20_4
      exfalso
      omega
    | succ d20 ih20 =>
      intro σq20 y20_2 hd20 hGq20 hoq20 hx20_0 hx20_1 hx20_2 hx20_3 hx20_4
      refine a_iload_n C dX12_hold_20 (i := 2) rfl rfl ?_
      refine s_bipush C dX12_hold_21 (29) (by decide) (fun z1 h2 => ?_)
      refine s_ic_ge C dX12_hold_23 (tgt := 49) rfl (fun c3 => ?_) (fun c3 => ?_)
      ·
        refine s_iconst C dX12_hold_49 (1) (by decide) (fun z4 h5 => ?_)
        exact a_iret Rt dX12_hold_50 (nar_z (by omega)).1 (⟨hGq20, hoq20, (RKm.ony3 (c := b) hR (hoq20 : onm [275, 276] σ σq20) (by decide) (hR.now).2.2.2.2 (hR.rw.eq ((hoq20 : onm [275, 276] σ σq20).1 267 21 (by decide)) ((hoq20 : onm [275, 276] σ σq20).1 267 26 (by decide)) ((hoq20 : onm [275, 276] σ σq20).1 267 27 (by decide))) (hR.nw.eq (congrFun ((hoq20 : onm [275, 276] σ σq20).a (i := 266) (by decide)) 21) (congrFun ((hoq20 : onm [275, 276] σ σq20).a (i := 266) (by decide)) 26) (congrFun ((hoq20 : onm [275, 276] σ σq20).a (i := 266) (by decide)) 27)) (fun u hu => by rw [((hoq20 : onm [275, 276] σ σq20).a (i := 268) (by decide))]; exact hR.hist u (by rw [(hoq20 : onm [275, 276] σ σq20).1 236 54 (by decide)] at hu; exact hu)) (fun s hs e9 => by
        by_cases e8 : s = x1.toInt.toNat
        · rw [e8]; exact hR.nw.eq (show σq20.1 276 ((29 * x1.toInt.toNat) + 21) = σ.1 266 (0 + 21) from hx20_3 21 (by omega)) (show σq20.1 276 ((29 * x1.toInt.toNat) + 26) = σ.1 266 (0 + 26) from hx20_3 26 (by omega)) (show σq20.1 276 ((29 * x1.toInt.toNat) + 27) = σ.1 266 (0 + 27) from hx20_3 27 (by omega))
        · exact (hR.helds s hs (by rw [← hx20_2 s e8]; exact e9)).eq (hx20_4 _ (by omega)) (hx20_4 _ (by omega)) (hx20_4 _ (by omega)))), (show 0 ≤ z4.toInt ∧ z4.toInt ≤ 1 by intros; omega)⟩)
      ·
        refine a_aload_n C dX12_hold_26 (i := 0) rfl rfl ?_
        refine a_get C fl_RX12_137 (i := 236) kd_236 (hid 236 (by decide)) (v := .ref (ad 276)) rfl dX12_hold_27 ?_
        refine s_bipush C dX12_hold_30 (29) (by decide) (fun z6 h7 => ?_)
        refine a_iload_n C dX12_hold_32 (i := 1) rfl rfl ?_
        refine s_imuld C dX12_hold_33 (29) (by omega) (by omega) (fun z8 h9 => ?_)
        refine a_iload_n C dX12_hold_34 (i := 2) rfl rfl ?_
        refine s_iadd C dX12_hold_35 (by omega) (fun z10 h11 => ?_)
        refine a_aload_n C dX12_hold_36 (i := 0) rfl rfl ?_
        refine a_get C fl_RX12_107 (i := 236) kd_236 (hid 236 (by decide)) (v := .ref (ad 266)) rfl dX12_hold_37 ?_
        refine a_iload_n C dX12_hold_40 (i := 2) rfl rfl ?_
        refine s_iald C (i := 266) kd_266 (hid 266 (by decide)) al_266 (by omega) (by omega) dX12_hold_41 (fun n12 h13 => ?_)
        refine s_val (fun z14 e15 => ?_)
        refine s_iast C (i := 276) kd_276 (hid 276 (by decide)) al_276 (by omega) (by omega) dX12_hold_42 (fun n16 h17 => ?_)
        have hG18 := wA_276 (v := z14) (j := n16) hGq20
        refine s_iinc C dX12_hold_43 rfl (1) (by decide) (by omega) (by decide) rfl (fun z19 h20 => ?_)
        show AW ids ad ca Γ 46 [some (.ref (ad 236)), some (.int x1), some (.int z19)] _ _
        refine a_goto C dX12_hold_46 (tgt := 20) rfl ?_
        exact ih20 _ z19 (by omega) hG18 (onm.I hoq20 (by decide)) (by omega) (by omega) hx20_2 (cp_step (i := 276) (a := (29 * x1.toInt.toNat)) (n := n16) (n1 := y20_2.toInt.toNat) (k := y20_2) (f := fun q => σ.1 266 (0 + q)) hx20_3 (by omega) (by omega) (by omega) (show σ.1 266 (0 + y20_2.toInt.toNat) = _ from by rw [show 0 + y20_2.toInt.toNat = n12 by omega]; exact ((congrFun (hoq20.a (i := 266) (by decide)) n12).symm.trans e15))) (fr_step (i := 276) (a := 29 * x1.toInt.toNat) (n := n16) hx20_4 (by omega))
  refine a_iload_n C dX12_hold_0 (i := 1) rfl rfl ?_
  refine s_iconst C dX12_hold_1 (0) (by decide) (fun z21 h22 => ?_)
  refine s_iconst C dX12_hold_2 (2) (by decide) (fun z23 h24 => ?_)
  refine a_callSi C (S_X12_in (x1 := x1) (x2 := z21) (x3 := z23) hid hG) ms_X12_in ml_RX12_301 rfl rfl (Nat.le_of_ble_eq_true rfl) (Nat.le_of_ble_eq_true rfl) (Nat.le_of_ble_eq_true rfl) dX12_hold_3 (fun z25 σ26 q27 => ?_)
  obtain ⟨w28, w29, w30⟩ := q27
  rw [w28]
  refine s_if_ne C dX12_hold_6 (tgt := 11) rfl (fun c31 => ?_) (fun c31 => ?_)
  ·
    refine a_aload_n C dX12_hold_11 (i := 0) rfl rfl ?_
    refine a_get C fl_RX12_134 (i := 236) kd_236 (hid 236 (by decide)) (v := .ref (ad 275)) rfl dX12_hold_12 ?_
    refine a_iload_n C dX12_hold_15 (i := 1) rfl rfl ?_
    refine s_iconst C dX12_hold_16 (1) (by decide) (fun z32 h33 => ?_)
    refine s_zast C (i := 275) (nar_v (by omega)) kd_275 (hid 275 (by decide)) al_275 (by omega) (by omega) dX12_hold_17 (fun n34 h35 => ?_)
    have hG36 := wA_275 (v := z32) (j := n34) hG
    refine s_iconst C dX12_hold_18 (0) (by decide) (fun z37 h38 => ?_)
    refine a_istore_n C dX12_hold_19 (i := 2) rfl (by decide) rfl (vs1 := [some (.ref (ad 236)), some (.int x1), some (.int z37)]) rfl ?_
    exact j20 100000 _ z37 (by omega) hG36 (onm.I onm.rf (by decide)) (by omega) (by omega) (fun s hs => hI_n (by omega)) (fun q hq => absurd hq (by omega)) (fun q hq => rfl)
  ·
    refine s_iconst C dX12_hold_9 (0) (by decide) (fun z39 h40 => ?_)
    exact a_iret Rt dX12_hold_10 (nar_z (by omega)).1 (⟨hG, onm.rf, hR, (show 0 ≤ z39.toInt ∧ z39.toInt ≤ 1 by intros; omega)⟩)
theorem dX12_restore_20 : decode cX12_restore 20 = .ok (.iconst 0, 1) := by decide +kernel
theorem dX12_restore_21 : decode cX12_restore 21 = .ok (.istore_n 2, 1) := by decide +kernel
theorem dX12_restore_22 : decode cX12_restore 22 = .ok (.iload_n 2, 1) := by decide +kernel
theorem dX12_restore_23 : decode cX12_restore 23 = .ok (.bipush 29, 2) := by decide +kernel
theorem dX12_restore_25 : decode cX12_restore 25 = .ok (.if_icmp .ge 26, 3) := by decide +kernel
theorem dX12_restore_28 : decode cX12_restore 28 = .ok (.aload_n 0, 1) := by decide +kernel
theorem dX12_restore_29 : decode cX12_restore 29 = .ok (.getfield 107, 3) := by decide +kernel
theorem dX12_restore_32 : decode cX12_restore 32 = .ok (.iload_n 2, 1) := by decide +kernel
theorem dX12_restore_33 : decode cX12_restore 33 = .ok (.aload_n 0, 1) := by decide +kernel
theorem dX12_restore_34 : decode cX12_restore 34 = .ok (.getfield 137, 3) := by decide +kernel
theorem dX12_restore_37 : decode cX12_restore 37 = .ok (.bipush 29, 2) := by decide +kernel
theorem dX12_restore_39 : decode cX12_restore 39 = .ok (.iload_n 1, 1) := by decide +kernel
theorem dX12_restore_40 : decode cX12_restore 40 = .ok (.imul, 1) := by decide +kernel
theorem dX12_restore_41 : decode cX12_restore 41 = .ok (.iload_n 2, 1) := by decide +kernel
theorem dX12_restore_42 : decode cX12_restore 42 = .ok (.iadd, 1) := by decide +kernel
theorem dX12_restore_43 : decode cX12_restore 43 = .ok (.iaload, 1) := by decide +kernel
theorem dX12_restore_44 : decode cX12_restore 44 = .ok (.iastore, 1) := by decide +kernel
theorem dX12_restore_45 : decode cX12_restore 45 = .ok (.iinc 2 1, 3) := by decide +kernel
theorem dX12_restore_48 : decode cX12_restore 48 = .ok (.goto (-26), 3) := by decide +kernel
theorem dX12_restore_51 : decode cX12_restore 51 = .ok (.aload_n 0, 1) := by decide +kernel
theorem dX12_restore_52 : decode cX12_restore 52 = .ok (.iconst 0, 1) := by decide +kernel
theorem dX12_restore_53 : decode cX12_restore 53 = .ok (.putfield 239, 3) := by decide +kernel
theorem dX12_restore_56 : decode cX12_restore 56 = .ok (.iconst 1, 1) := by decide +kernel
theorem dX12_restore_57 : decode cX12_restore 57 = .ok (.ireturn, 1) := by decide +kernel
set_option maxHeartbeats 4000000 in
set_option maxRecDepth 100000 in
theorem S_X12_restore_236 {l : Launch} {D : va_G} {ids : List Nat} {ad : Nat → Nat} {ca : Nat → ClassId} {σ : HS} {x1 : Int32} (hid : ∀ i, i < 277 → i ∈ ids) (hG : GIm σ) {b : Int} (hR : RKm b σ) : Ki l D ids ad ca yX12_restore cX12_restore 3 .boolean 1 22 [.ref (ad 236), .int x1] σ (fun r σ1 => (GIm σ1) ∧ (onm [266, 1054] σ σ1) ∧ (RKm b σ1) ∧ (0 ≤ r.toInt ∧ r.toInt ≤ 1)) := by
  refine Ki.of (by decide) (Nat.le_of_ble_eq_true rfl) 1 (fun Γ C Rt => ?_)
  show AW ids ad ca Γ 0 [some (.ref (ad 236)), some (.int x1), none] [] σ
  have j22 : ∀ (d22 : Nat) (σq22 : HS) (y22_2 : Int32), 31 - y22_2.toInt < d22 → GIm σq22 → onm [266, 1054] σ σq22 → 0 ≤ y22_2.toInt ∧ y22_2.toInt ≤ 31 → 0 ≤ x1.toInt ∧ x1.toInt ≤ 2 → ((σ.1 275 x1.toInt.toNat).toInt ≠ 0) → (∀ q : Nat, (q : Int) < y22_2.toInt → σq22.1 266 (0 + q) = σ.1 276 ((29 * x1.toInt.toNat) + q)) → AW ids ad ca Γ 22 [some (.ref (ad 236)), some (.int x1), some (.int y22_2)] [] σq22 := by
    intro d22
    induction d22 with
    | zero =>
      intro σq22 y22_2 hd22 hGq22 hoq22 hx22_0 hx22_1 hx22_2 hx22_3
      exfalso
      omega
    | succ d22 ih22 =>
      intro σq22 y22_2 hd22 hGq22 hoq22 hx22_0 hx22_1 hx22_2 hx22_3
      refine a_iload_n C dX12_restore_22 (i := 2) rfl rfl ?_
      refine s_bipush C dX12_restore_23 (29) (by decide) (fun z1 h2 => ?_)
      refine s_ic_ge C dX12_restore_25 (tgt := 51) rfl (fun c3 => ?_) (fun c3 => ?_)
      ·
        refine a_aload_n C dX12_restore_51 (i := 0) rfl rfl ?_
        refine s_iconst C dX12_restore_52 (0) (by decide) (fun z4 h5 => ?_)
        refine a_put C fp_RX12_239 (i := 236) kd_236 (hid 236 (by decide)) rfl rfl dX12_restore_53 ?_
        have hG6 := wF_236_54 (v := z4) hGq22 (by omega) (by omega)
        refine s_iconst C dX12_restore_56 (1) (by decide) (fun z7 h8 => ?_)
        exact a_iret Rt dX12_restore_57 (nar_z (by omega)).1 (⟨hG6, (onm.F hoq22 (by decide)), (RKm.ony3 (c := b) hR ((onm.F hoq22 (by decide)) : onm [266, 1054] σ (hI σq22 236 54 z4)) (by decide) (hR.now).2.2.2.2 (hR.rw.eq (((onm.F hoq22 (by decide)) : onm [266, 1054] σ (hI σq22 236 54 z4)).1 267 21 (by decide)) (((onm.F hoq22 (by decide)) : onm [266, 1054] σ (hI σq22 236 54 z4)).1 267 26 (by decide)) (((onm.F hoq22 (by decide)) : onm [266, 1054] σ (hI σq22 236 54 z4)).1 267 27 (by decide))) ((hR.helds x1.toInt.toNat (by omega) hx22_2).eq (show σq22.1 266 (0 + 21) = σ.1 276 ((29 * x1.toInt.toNat) + 21) from hx22_3 21 (by omega)) (show σq22.1 266 (0 + 26) = σ.1 276 ((29 * x1.toInt.toNat) + 26) from hx22_3 26 (by omega)) (show σq22.1 266 (0 + 27) = σ.1 276 ((29 * x1.toInt.toNat) + 27) from hx22_3 27 (by omega))) (fun u hu => absurd (show (u : Int) < z4.toInt from hu) (by omega)) (fun s hs e9 => by rw [(((onm.F hoq22 (by decide)) : onm [266, 1054] σ (hI σq22 236 54 z4)).a (i := 276) (by decide))]; exact hR.helds s hs (by rw [← (((onm.F hoq22 (by decide)) : onm [266, 1054] σ (hI σq22 236 54 z4)).a (i := 275) (by decide))]; exact e9))), (show 0 ≤ z7.toInt ∧ z7.toInt ≤ 1 by intros; omega)⟩)
      ·
        refine a_aload_n C dX12_restore_28 (i := 0) rfl rfl ?_
        refine a_get C fl_RX12_107 (i := 236) kd_236 (hid 236 (by decide)) (v := .ref (ad 266)) rfl dX12_restore_29 ?_
        refine a_iload_n C dX12_restore_32 (i := 2) rfl rfl ?_
        refine a_aload_n C dX12_restore_33 (i := 0) rfl rfl ?_
        refine a_get C fl_RX12_137 (i := 236) kd_236 (hid 236 (by decide)) (v := .ref (ad 276)) rfl dX12_restore_34 ?_
        refine s_bipush C dX12_restore_37 (29) (by decide) (fun z9 h10 => ?_)
        refine a_iload_n C dX12_restore_39 (i := 1) rfl rfl ?_
        refine s_imuld C dX12_restore_40 (29) (by omega) (by omega) (fun z11 h12 => ?_)
        refine a_iload_n C dX12_restore_41 (i := 2) rfl rfl ?_
        refine s_iadd C dX12_restore_42 (by omega) (fun z13 h14 => ?_)
        refine s_iald C (i := 276) kd_276 (hid 276 (by decide)) al_276 (by omega) (by omega) dX12_restore_43 (fun n15 h16 => ?_)
        refine s_val (fun z17 e18 => ?_)
        refine s_iast C (i := 266) kd_266 (hid 266 (by decide)) al_266 (by omega) (by omega) dX12_restore_44 (fun n19 h20 => ?_)
        have hG21 := wA_266 (v := z17) (j := n19) hGq22
        refine s_iinc C dX12_restore_45 rfl (1) (by decide) (by omega) (by decide) rfl (fun z22 h23 => ?_)
        show AW ids ad ca Γ 48 [some (.ref (ad 236)), some (.int x1), some (.int z22)] _ _
        refine a_goto C dX12_restore_48 (tgt := 22) rfl ?_
        exact ih22 _ z22 (by omega) hG21 (onm.I hoq22 (by decide)) (by omega) (by omega) hx22_2 (cp_step (i := 266) (a := 0) (n := n19) (n1 := y22_2.toInt.toNat) (k := y22_2) (f := fun q => σ.1 276 ((29 * x1.toInt.toNat) + q)) hx22_3 (by omega) (by omega) (by omega) (show σ.1 276 ((29 * x1.toInt.toNat) + y22_2.toInt.toNat) = _ from by rw [show (29 * x1.toInt.toNat) + y22_2.toInt.toNat = n15 by omega]; exact ((congrFun (hoq22.a (i := 276) (by decide)) n15).symm.trans e18)))
  refine a_iload_n C dX12_restore_0 (i := 1) rfl rfl ?_
  refine s_iconst C dX12_restore_1 (0) (by decide) (fun z24 h25 => ?_)
  refine s_iconst C dX12_restore_2 (2) (by decide) (fun z26 h27 => ?_)
  refine a_callSi C (S_X12_in (x1 := x1) (x2 := z24) (x3 := z26) hid hG) ms_X12_in ml_RX12_301 rfl rfl (Nat.le_of_ble_eq_true rfl) (Nat.le_of_ble_eq_true rfl) (Nat.le_of_ble_eq_true rfl) dX12_restore_3 (fun z28 σ29 q30 => ?_)
  obtain ⟨w31, w32, w33⟩ := q30
  rw [w31]
  refine s_if_eq C dX12_restore_6 (tgt := 18) rfl (fun c34 => ?_) (fun c34 => ?_)
  ·
    refine s_iconst C dX12_restore_18 (0) (by decide) (fun z35 h36 => ?_)
    exact a_iret Rt dX12_restore_19 (nar_z (by omega)).1 (⟨hG, onm.rf, hR, (show 0 ≤ z35.toInt ∧ z35.toInt ≤ 1 by intros; omega)⟩)
  ·
    refine a_aload_n C dX12_restore_9 (i := 0) rfl rfl ?_
    refine a_get C fl_RX12_134 (i := 236) kd_236 (hid 236 (by decide)) (v := .ref (ad 275)) rfl dX12_restore_10 ?_
    refine a_iload_n C dX12_restore_13 (i := 1) rfl rfl ?_
    refine s_zald C (i := 275) kd_275 (hid 275 (by decide)) al_275 (by omega) (by omega) dX12_restore_14 (fun n37 h38 => ?_)
    refine s_val (fun z39 e40 => ?_)
    refine s_if_ne C dX12_restore_15 (tgt := 20) rfl (fun c41 => ?_) (fun c41 => ?_)
    ·
      refine s_iconst C dX12_restore_20 (0) (by decide) (fun z42 h43 => ?_)
      refine a_istore_n C dX12_restore_21 (i := 2) rfl (by decide) rfl (vs1 := [some (.ref (ad 236)), some (.int x1), some (.int z42)]) rfl ?_
      exact j22 100000 _ z42 (by omega) hG onm.rf (by omega) (by omega) (show (σ.1 275 x1.toInt.toNat).toInt ≠ 0 by rw [show x1.toInt.toNat = n37 by omega, e40]; omega) (fun q hq => absurd hq (by omega))
    ·
      refine s_iconst C dX12_restore_18 (0) (by decide) (fun z44 h45 => ?_)
      exact a_iret Rt dX12_restore_19 (nar_z (by omega)).1 (⟨hG, onm.rf, hR, (show 0 ≤ z44.toInt ∧ z44.toInt ≤ 1 by intros; omega)⟩)
theorem dX12_records_9 : decode cX12_records 9 = .ok (.iconst 0, 1) := by decide +kernel
theorem dX12_records_10 : decode cX12_records 10 = .ok (.istore_n 1, 1) := by decide +kernel
theorem dX12_records_11 : decode cX12_records 11 = .ok (.iload_n 1, 1) := by decide +kernel
theorem dX12_records_12 : decode cX12_records 12 = .ok (.sipush 1131, 3) := by decide +kernel
theorem dX12_records_15 : decode cX12_records 15 = .ok (.if_icmp .ge 24, 3) := by decide +kernel
theorem dX12_records_18 : decode cX12_records 18 = .ok (.aload_n 0, 1) := by decide +kernel
theorem dX12_records_19 : decode cX12_records 19 = .ok (.getfield 113, 3) := by decide +kernel
theorem dX12_records_22 : decode cX12_records 22 = .ok (.iload_n 1, 1) := by decide +kernel
theorem dX12_records_23 : decode cX12_records 23 = .ok (.aload_n 0, 1) := by decide +kernel
theorem dX12_records_24 : decode cX12_records 24 = .ok (.getfield 113, 3) := by decide +kernel
theorem dX12_records_27 : decode cX12_records 27 = .ok (.iload_n 1, 1) := by decide +kernel
theorem dX12_records_28 : decode cX12_records 28 = .ok (.bipush 29, 2) := by decide +kernel
theorem dX12_records_30 : decode cX12_records 30 = .ok (.iadd, 1) := by decide +kernel
theorem dX12_records_31 : decode cX12_records 31 = .ok (.iaload, 1) := by decide +kernel
theorem dX12_records_32 : decode cX12_records 32 = .ok (.iastore, 1) := by decide +kernel
theorem dX12_records_33 : decode cX12_records 33 = .ok (.iinc 1 1, 3) := by decide +kernel
theorem dX12_records_36 : decode cX12_records 36 = .ok (.goto (-25), 3) := by decide +kernel
theorem dX12_records_39 : decode cX12_records 39 = .ok (.aload_n 0, 1) := by decide +kernel
theorem dX12_records_40 : decode cX12_records 40 = .ok (.dup, 1) := by decide +kernel
theorem dX12_records_41 : decode cX12_records 41 = .ok (.getfield 239, 3) := by decide +kernel
theorem dX12_records_44 : decode cX12_records 44 = .ok (.iconst 1, 1) := by decide +kernel
theorem dX12_records_45 : decode cX12_records 45 = .ok (.isub, 1) := by decide +kernel
theorem dX12_records_46 : decode cX12_records 46 = .ok (.putfield 239, 3) := by decide +kernel
set_option maxHeartbeats 4000000 in
set_option maxRecDepth 100000 in
theorem S_X12_records_236 {l : Launch} {D : va_G} {ids : List Nat} {ad : Nat → Nat} {ca : Nat → ClassId} {σ : HS} (hid : ∀ i, i < 277 → i ∈ ids) (hG : GIm σ) {b : Int} (hR : RKm b σ) (hp0 : (σ.1 267 21).toInt ≤ b + 60) (hp1 : b + 60 ≤ 40000) : Kv l D ids ad ca yX12_records cX12_records 2 1 21 [.ref (ad 236)] σ (fun σ1 => (GIm σ1) ∧ (onm [266, 268, 1054] σ σ1) ∧ (RKm (b + 60) σ1)) := by
  refine Kv.of (by decide) (Nat.le_of_ble_eq_true rfl) 1 (fun Γ C Rt => ?_)
  show AW ids ad ca Γ 0 [some (.ref (ad 236)), none] [] σ
  have j51 : ∀ (d51 : Nat) (σq51 : HS) (y51_1 : Int32), 29 - y51_1.toInt < d51 → GIm σq51 → onm [266, 268, 1054] σ σq51 → 0 ≤ y51_1.toInt ∧ y51_1.toInt ≤ 29 → ((σq51.1 236 54).toInt ≤ 39) → (HB b (plm σ) (σq51.1 268) (σq51.1 236 54).toInt) → (∀ q : Nat, (q : Int) < y51_1.toInt → σq51.1 268 (29 * (σq51.1 236 54).toInt.toNat + q) = σ.1 266 q) → (σq51.1 266 = σ.1 266) → AW ids ad ca Γ 51 [some (.ref (ad 236)), some (.int y51_1)] [] σq51 := by
    intro d51
    induction d51 with
    | zero =>
      intro σq51 y51_1 hd51 hGq51 hoq51 hx51_0 hx51_1 hx51_2 hx51_3 hx51_4
      exfalso
      omega
    | succ d51 ih51 =>
      intro σq51 y51_1 hd51 hGq51 hoq51 hx51_0 hx51_1 hx51_2 hx51_3 hx51_4
      refine a_iload_n C dX12_records_51 (i := 1) rfl rfl ?_
      refine s_bipush C dX12_records_52 (29) (by decide) (fun z1 h2 => ?_)
      refine s_ic_ge C dX12_records_54 (tgt := 83) rfl (fun c3 => ?_) (fun c3 => ?_)
      ·
        refine a_aload_n C dX12_records_83 (i := 0) rfl rfl ?_
        refine a_dup C dX12_records_84 rfl ?_
        have g4 := bF_236_54 hGq51
        refine a_get C fl_RX12_239 (i := 236) kd_236 (hid 236 (by decide)) (v := .int (σq51.1 236 54)) rfl dX12_records_85 ?_
        refine s_iconst C dX12_records_88 (1) (by decide) (fun z5 h6 => ?_)
        refine s_iadd C dX12_records_89 (by omega) (fun z7 h8 => ?_)
        refine a_put C fp_RX12_239 (i := 236) kd_236 (hid 236 (by decide)) rfl rfl dX12_records_90 ?_
        have hG9 := wF_236_54 (v := z7) hGq51 (by omega) (by omega)
        refine a_aload_n C dX12_records_93 (i := 0) rfl rfl ?_
        refine a_callVv C (i := 236) kd_236 (hid 236 (by decide)) ⟨_, _, rfl⟩ (by decide) (S_X12_keepsRow_236 hid hG9) mi_X12_keepsRow ml_RX12_151 rfl rfl (Nat.le_of_ble_eq_true rfl) (Nat.le_of_ble_eq_true rfl) (Nat.le_of_ble_eq_true rfl) dX12_records_94 (fun σ11 q12 => ?_)
        obtain ⟨hG13, ho14, w16⟩ := q12
        have hr9 := hR.rw
        have hr8 := hR.row
        have hKR : RKm (b + 60) σ11 := RKm.ony3 (c := b + 60) hR ((onm.tr (onm.F hoq51 (by decide)) (onm.mono ho14 (by decide))) : onm [266, 268, 1054] σ σ11) (by decide) (by omega) ((hR.rw.eq (((onm.tr (onm.F hoq51 (by decide)) (onm.mono ho14 (by decide))) : onm [266, 268, 1054] σ σ11).1 267 21 (by decide)) (((onm.tr (onm.F hoq51 (by decide)) (onm.mono ho14 (by decide))) : onm [266, 268, 1054] σ σ11).1 267 26 (by decide)) (((onm.tr (onm.F hoq51 (by decide)) (onm.mono ho14 (by decide))) : onm [266, 268, 1054] σ σ11).1 267 27 (by decide))).mono (by omega)) ((show rw3 (b + 60) (plm σ) (σ.1 267 21) (σ.1 267 26) (σ.1 267 27) from ⟨hr9.1, hr9.2.1, hr9.2.2.1, by omega⟩).eq ((w16 21 (by decide)).trans (hoq51.1 267 21 (by decide))) ((w16 26 (by decide)).trans (hoq51.1 267 26 (by decide))) ((w16 27 (by decide)).trans (hoq51.1 267 27 (by decide)))) (fun u hu => by
      rw [ho14.1 236 54 (by decide)] at hu
      have hu2 : (u : Int) < z7.toInt := hu
      exact (((HB.add (n := (σq51.1 236 54).toInt) (k := y51_1.toInt) (a := 29 * (σq51.1 236 54).toInt.toNat) hx51_2 (by omega) (by omega) hx51_3 hR.nw) u (by omega)).mono (by omega)).eq (congrFun (ho14.a (i := 268) (by decide)) (29 * u + 21)) (congrFun (ho14.a (i := 268) (by decide)) (29 * u + 26)) (congrFun (ho14.a (i := 268) (by decide)) (29 * u + 27))) (fun s hs e9 => by rw [(((onm.tr (onm.F hoq51 (by decide)) (onm.mono ho14 (by decide))) : onm [266, 268, 1054] σ σ11).a (i := 276) (by decide))]; exact (hR.helds s hs (by rw [← (((onm.tr (onm.F hoq51 (by decide)) (onm.mono ho14 (by decide))) : onm [266, 268, 1054] σ σ11).a (i := 275) (by decide))]; exact e9)).mono (by omega))
        exact a_vret Rt dX12_records_97 (⟨hG13, (onm.tr (onm.F hoq51 (by decide)) (onm.mono ho14 (by decide))), hKR⟩)
      ·
        refine a_aload_n C dX12_records_57 (i := 0) rfl rfl ?_
        refine a_get C fl_RX12_113 (i := 236) kd_236 (hid 236 (by decide)) (v := .ref (ad 268)) rfl dX12_records_58 ?_
        refine s_bipush C dX12_records_61 (29) (by decide) (fun z17 h18 => ?_)
        refine a_aload_n C dX12_records_63 (i := 0) rfl rfl ?_
        have g19 := bF_236_54 hGq51
        refine a_get C fl_RX12_239 (i := 236) kd_236 (hid 236 (by decide)) (v := .int (σq51.1 236 54)) rfl dX12_records_64 ?_
        refine s_imuld C dX12_records_67 (29) (by omega) (by omega) (fun z20 h21 => ?_)
        refine a_iload_n C dX12_records_68 (i := 1) rfl rfl ?_
        refine s_iadd C dX12_records_69 (by omega) (fun z22 h23 => ?_)
        refine a_aload_n C dX12_records_70 (i := 0) rfl rfl ?_
        refine a_get C fl_RX12_107 (i := 236) kd_236 (hid 236 (by decide)) (v := .ref (ad 266)) rfl dX12_records_71 ?_
        refine a_iload_n C dX12_records_74 (i := 1) rfl rfl ?_
        refine s_iald C (i := 266) kd_266 (hid 266 (by decide)) al_266 (by omega) (by omega) dX12_records_75 (fun n24 h25 => ?_)
        refine s_val (fun z26 e27 => ?_)
        refine s_iast C (i := 268) kd_268 (hid 268 (by decide)) al_268 (by omega) (by omega) dX12_records_76 (fun n28 h29 => ?_)
        have hG30 := wA_268 (v := z26) (j := n28) hGq51
        refine s_iinc C dX12_records_77 rfl (1) (by decide) (by omega) (by decide) rfl (fun z31 h32 => ?_)
        show AW ids ad ca Γ 80 [some (.ref (ad 236)), some (.int z31)] _ _
        refine a_goto C dX12_records_80 (tgt := 51) rfl ?_
        exact ih51 _ z31 (by omega) hG30 (onm.I hoq51 (by decide)) (by omega) (show (σq51.1 236 54).toInt ≤ 39 by omega) (HB.st (n := (σq51.1 236 54).toInt) hx51_2 (by omega)) (cp_step (i := 268) (a := 29 * (σq51.1 236 54).toInt.toNat) (n := n28) (n1 := n24) (k := y51_1) (f := σ.1 266) hx51_3 (by omega) (by omega) (by omega) ((congrFun hx51_4.symm n24).trans e27)) hx51_4
  have j49 : ∀ (σq49 : HS), GIm σq49 → onm [266, 268, 1054] σ σq49 → ((σq49.1 236 54).toInt ≤ 39) → (HB b (plm σ) (σq49.1 268) (σq49.1 236 54).toInt) → (σq49.1 266 = σ.1 266) → AW ids ad ca Γ 49 [some (.ref (ad 236)), none] [] σq49 := by
    intro σq49 hGq49 hoq49 hx49_0 hx49_1 hx49_2
    refine s_iconst C dX12_records_49 (0) (by decide) (fun z33 h34 => ?_)
    refine a_istore_n C dX12_records_50 (i := 1) rfl (by decide) rfl (vs1 := [some (.ref (ad 236)), some (.int z33)]) rfl ?_
    have g35 := bF_236_54 hGq49
    exact j51 100000 _ z33 (by omega) hGq49 hoq49 (by omega) (show (σq49.1 236 54).toInt ≤ 39 by omega) hx49_1 (fun q hq => absurd hq (by omega)) hx49_2
  have j11 : ∀ (d11 : Nat) (σq11 : HS) (y11_1 : Int32), 1131 - y11_1.toInt < d11 → GIm σq11 → onm [266, 268, 1054] σ σq11 → 0 ≤ y11_1.toInt ∧ y11_1.toInt ≤ 1131 → ((σq11.1 236 54).toInt = 40) → ((σ.1 236 54).toInt = 40) → (σq11.1 266 = σ.1 266) → (∀ q : Nat, ((q : Int) < y11_1.toInt → σq11.1 268 q = σ.1 268 (q + 29)) ∧ (y11_1.toInt ≤ q → σq11.1 268 q = σ.1 268 q)) → AW ids ad ca Γ 11 [some (.ref (ad 236)), some (.int y11_1)] [] σq11 := by
    intro d11
    induction d11 with
    | zero =>
      intro σq11 y11_1 hd11 hGq11 hoq11 hx11_0 hx11_1 hx11_2 hx11_3 hx11_4
      exfalso
      omega
    | succ d11 ih11 =>
      intro σq11 y11_1 hd11 hGq11 hoq11 hx11_0 hx11_1 hx11_2 hx11_3 hx11_4
      refine a_iload_n C dX12_records_11 (i := 1) rfl rfl ?_
      refine s_sipush C dX12_records_12 (1131) (by decide) (fun z36 h37 => ?_)
      refine s_ic_ge C dX12_records_15 (tgt := 39) rfl (fun c38 => ?_) (fun c38 => ?_)
      ·
        refine a_aload_n C dX12_records_39 (i := 0) rfl rfl ?_
        refine a_dup C dX12_records_40 rfl ?_
        have g39 := bF_236_54 hGq11
        refine a_get C fl_RX12_239 (i := 236) kd_236 (hid 236 (by decide)) (v := .int (σq11.1 236 54)) rfl dX12_records_41 ?_
        refine s_iconst C dX12_records_44 (1) (by decide) (fun z40 h41 => ?_)
        refine s_isub C dX12_records_45 (by omega) (fun z42 h43 => ?_)
        refine a_put C fp_RX12_239 (i := 236) kd_236 (hid 236 (by decide)) rfl rfl dX12_records_46 ?_
        have hG44 := wF_236_54 (v := z42) hGq11 (by omega) (by omega)
        refine AW.sub (vs' := [some (.ref (ad 236)), none]) (lsub_of (by simp [lsubB])) ?_
        exact j49 _ hG44 (onm.F hoq11 (by decide)) (show z42.toInt ≤ 39 by omega) (show HB b (plm σ) (σq11.1 268) z42.toInt from by rw [show z42.toInt = 39 by omega]; exact HB.sh (f := σ.1 268) (k := y11_1.toInt) (fun u hu => hR.hist u (by omega)) (by omega) hx11_4) hx11_3
      ·
        refine a_aload_n C dX12_records_18 (i := 0) rfl rfl ?_
        refine a_get C fl_RX12_113 (i := 236) kd_236 (hid 236 (by decide)) (v := .ref (ad 268)) rfl dX12_records_19 ?_
        refine a_iload_n C dX12_records_22 (i := 1) rfl rfl ?_
        refine a_aload_n C dX12_records_23 (i := 0) rfl rfl ?_
        refine a_get C fl_RX12_113 (i := 236) kd_236 (hid 236 (by decide)) (v := .ref (ad 268)) rfl dX12_records_24 ?_
        refine a_iload_n C dX12_records_27 (i := 1) rfl rfl ?_
        refine s_bipush C dX12_records_28 (29) (by decide) (fun z45 h46 => ?_)
        refine s_iadd C dX12_records_30 (by omega) (fun z47 h48 => ?_)
        refine s_iald C (i := 268) kd_268 (hid 268 (by decide)) al_268 (by omega) (by omega) dX12_records_31 (fun n49 h50 => ?_)
        refine s_val (fun z51 e52 => ?_)
        refine s_iast C (i := 268) kd_268 (hid 268 (by decide)) al_268 (by omega) (by omega) dX12_records_32 (fun n53 h54 => ?_)
        have hG55 := wA_268 (v := z51) (j := n53) hGq11
        refine s_iinc C dX12_records_33 rfl (1) (by decide) (by omega) (by decide) rfl (fun z56 h57 => ?_)
        show AW ids ad ca Γ 36 [some (.ref (ad 236)), some (.int z56)] _ _
        refine a_goto C dX12_records_36 (tgt := 11) rfl ?_
        have g58 := bF_236_54 hGq11
        exact ih11 _ z56 (by omega) hG55 (onm.I hoq11 (by decide)) (by omega) (show (σq11.1 236 54).toInt = 40 by omega) (show (σ.1 236 54).toInt = 40 by omega) hx11_3 (sh_step (f := σ.1 268) hx11_4 (by omega) (by omega) (by rw [show n53 + 29 = n49 by omega]; exact ((hx11_4 n49).2 (by omega)).symm.trans e52))
  refine a_aload_n C dX12_records_0 (i := 0) rfl rfl ?_
  have g59 := bF_236_54 hG
  refine a_get C fl_RX12_239 (i := 236) kd_236 (hid 236 (by decide)) (v := .int (σ.1 236 54)) rfl dX12_records_1 ?_
  refine s_bipush C dX12_records_4 (40) (by decide) (fun z60 h61 => ?_)
  refine s_ic_ne C dX12_records_6 (tgt := 49) rfl (fun c62 => ?_) (fun c62 => ?_)
  ·
    exact j49 _ hG onm.rf (show (σ.1 236 54).toInt ≤ 39 by omega) (show HB b (plm σ) (σ.1 268) (σ.1 236 54).toInt from fun u hu => hR.hist u hu) (show σ.1 266 = σ.1 266 from rfl)
  ·
    refine s_iconst C dX12_records_9 (0) (by decide) (fun z63 h64 => ?_)
    refine a_istore_n C dX12_records_10 (i := 1) rfl (by decide) rfl (vs1 := [some (.ref (ad 236)), some (.int z63)]) rfl ?_
    exact j11 100000 _ z63 (by omega) hG onm.rf (by omega) (show (σ.1 236 54).toInt = 40 by omega) (show (σ.1 236 54).toInt = 40 by omega) (show σ.1 266 = σ.1 266 from rfl) (fun q => ⟨fun hq => absurd hq (by omega), fun _ => rfl⟩)
