theorem dX3_highest_0 : decode cX3_highest 0 = .ok (.iconst 0, 1) := by decide +kernel
theorem dX3_highest_1 : decode cX3_highest 1 = .ok (.istore_n 2, 1) := by decide +kernel
theorem dX3_highest_2 : decode cX3_highest 2 = .ok (.iconst 0, 1) := by decide +kernel
theorem dX3_highest_3 : decode cX3_highest 3 = .ok (.istore_n 3, 1) := by decide +kernel
theorem dX3_highest_4 : decode cX3_highest 4 = .ok (.iload_n 3, 1) := by decide +kernel
theorem dX3_highest_5 : decode cX3_highest 5 = .ok (.iload_n 1, 1) := by decide +kernel
theorem dX3_highest_6 : decode cX3_highest 6 = .ok (.if_icmp .ge 17, 3) := by decide +kernel
theorem dX3_highest_9 : decode cX3_highest 9 = .ok (.iload_n 2, 1) := by decide +kernel
theorem dX3_highest_10 : decode cX3_highest 10 = .ok (.aload_n 0, 1) := by decide +kernel
theorem dX3_highest_11 : decode cX3_highest 11 = .ok (.iload_n 3, 1) := by decide +kernel
theorem dX3_highest_12 : decode cX3_highest 12 = .ok (.iaload, 1) := by decide +kernel
theorem dX3_highest_13 : decode cX3_highest 13 = .ok (.invokestatic 9, 3) := by decide +kernel
theorem dX3_highest_16 : decode cX3_highest 16 = .ok (.istore_n 2, 1) := by decide +kernel
theorem dX3_highest_17 : decode cX3_highest 17 = .ok (.iinc 3 1, 3) := by decide +kernel
theorem dX3_highest_20 : decode cX3_highest 20 = .ok (.goto (-16), 3) := by decide +kernel
theorem dX3_highest_23 : decode cX3_highest 23 = .ok (.iload_n 2, 1) := by decide +kernel
theorem dX3_highest_24 : decode cX3_highest 24 = .ok (.ireturn, 1) := by decide +kernel
set_option maxHeartbeats 4000000 in
set_option maxRecDepth 100000 in
theorem S_X3_highest_H8 {l : Launch} {D : va_G} {ids : List Nat} {ad : Nat → Nat} {ca : Nat → ClassId} {σ : HS} {x2 : Int32} {h1 : Nat} (hid : ∀ i, i < 277 → i ∈ ids) (hG : GIc σ) (hx2 : 0 ≤ x2.toInt ∧ x2.toInt ≤ 8) (hk1 : kd h1 = 20) (hm1 : h1 ∈ ids) (hn1 : al h1 = 8) (hb1 : ∀ j : Nat, 0 ≤ (σ.1 h1 j).toInt ∧ (σ.1 h1 j).toInt ≤ 9999) : Ki l D ids ad ca yX3_highest cX3_highest 4 .int 1 21 [.ref (ad h1), .int x2] σ (fun r σ1 => (σ1 = σ)) := by
  refine Ki.of (by decide) (Nat.le_of_ble_eq_true rfl) 2 (fun Γ C Rt => ?_)
  show AW ids ad ca Γ 0 [some (.ref (ad h1)), some (.int x2), none, none] [] σ
  have j4 : ∀ (d : Nat) (y4_2 : Int32) (y4_3 : Int32), 8 - y4_3.toInt < d → 0 ≤ y4_2.toInt ∧ y4_2.toInt ≤ 9999 → 0 ≤ y4_3.toInt ∧ y4_3.toInt ≤ 8 → AW ids ad ca Γ 4 [some (.ref (ad h1)), some (.int x2), some (.int y4_2), some (.int y4_3)] [] σ := by
    intro d
    induction d with
    | zero =>
      intro y4_2 y4_3 hd hx4_0 hx4_1
      exfalso
      omega
    | succ d ih =>
      intro y4_2 y4_3 hd hx4_0 hx4_1
      refine a_iload_n C dX3_highest_4 (i := 3) rfl rfl ?_
      refine a_iload_n C dX3_highest_5 (i := 1) rfl rfl ?_
      refine s_ic_ge C dX3_highest_6 (tgt := 23) rfl (fun c1 => ?_) (fun c1 => ?_)
      ·
        refine a_iload_n C dX3_highest_23 (i := 2) rfl rfl ?_
        exact a_iret Rt dX3_highest_24 rfl (rfl)
      ·
        refine a_iload_n C dX3_highest_9 (i := 2) rfl rfl ?_
        refine a_aload_n C dX3_highest_10 (i := 0) rfl rfl ?_
        refine a_iload_n C dX3_highest_11 (i := 3) rfl rfl ?_
        refine s_iald C (i := h1) hk1 hm1 hn1 (by omega) (by omega) dX3_highest_12 (fun n2 h3 => ?_)
        refine s_val (fun z4 e5 => ?_)
        have g6 := hb1 n2
        rw [e5] at g6
        refine s_mmax C dX3_highest_13 mm_RX3_9 mm_max.1 mm_max.2.1 mm_max.2.2 (Nat.le_of_ble_eq_true rfl) (Nat.le_of_ble_eq_true rfl) (fun z7 h8 => ?_)
        refine a_istore_n C dX3_highest_16 (i := 2) rfl (by decide) rfl (vs1 := [some (.ref (ad h1)), some (.int x2), some (.int z7), some (.int y4_3)]) rfl ?_
        refine s_iinc C dX3_highest_17 rfl (1) (by decide) (by omega) (by decide) rfl (fun z9 h10 => ?_)
        show AW ids ad ca Γ 20 [some (.ref (ad h1)), some (.int x2), some (.int z7), some (.int z9)] _ _
        refine a_goto C dX3_highest_20 (tgt := 4) rfl ?_
        exact ih z7 z9 (by omega) (by omega) (by omega)
  refine s_iconst C dX3_highest_0 (0) (by decide) (fun z11 h12 => ?_)
  refine a_istore_n C dX3_highest_1 (i := 2) rfl (by decide) rfl (vs1 := [some (.ref (ad h1)), some (.int x2), some (.int z11), none]) rfl ?_
  refine s_iconst C dX3_highest_2 (0) (by decide) (fun z13 h14 => ?_)
  refine a_istore_n C dX3_highest_3 (i := 3) rfl (by decide) rfl (vs1 := [some (.ref (ad h1)), some (.int x2), some (.int z11), some (.int z13)]) rfl ?_
  exact j4 100000 z11 z13 (by omega) (by omega) (by omega)
theorem dX3_rounds_0 : decode cX3_rounds 0 = .ok (.iconst 0, 1) := by decide +kernel
theorem dX3_rounds_1 : decode cX3_rounds 1 = .ok (.istore_n 2, 1) := by decide +kernel
theorem dX3_rounds_2 : decode cX3_rounds 2 = .ok (.iconst 0, 1) := by decide +kernel
theorem dX3_rounds_3 : decode cX3_rounds 3 = .ok (.istore_n 3, 1) := by decide +kernel
theorem dX3_rounds_4 : decode cX3_rounds 4 = .ok (.iconst 0, 1) := by decide +kernel
theorem dX3_rounds_5 : decode cX3_rounds 5 = .ok (.istore 4, 2) := by decide +kernel
theorem dX3_rounds_7 : decode cX3_rounds 7 = .ok (.iload 4, 2) := by decide +kernel
theorem dX3_rounds_9 : decode cX3_rounds 9 = .ok (.iload_n 1, 1) := by decide +kernel
theorem dX3_rounds_10 : decode cX3_rounds 10 = .ok (.if_icmp .ge 58, 3) := by decide +kernel
theorem dX3_rounds_13 : decode cX3_rounds 13 = .ok (.iload_n 2, 1) := by decide +kernel
theorem dX3_rounds_14 : decode cX3_rounds 14 = .ok (.iload 4, 2) := by decide +kernel
theorem dX3_rounds_16 : decode cX3_rounds 16 = .ok (.ishr, 1) := by decide +kernel
theorem dX3_rounds_17 : decode cX3_rounds 17 = .ok (.iconst 1, 1) := by decide +kernel
theorem dX3_rounds_18 : decode cX3_rounds 18 = .ok (.iand, 1) := by decide +kernel
theorem dX3_rounds_19 : decode cX3_rounds 19 = .ok (.ifCond .ne 43, 3) := by decide +kernel
theorem dX3_rounds_22 : decode cX3_rounds 22 = .ok (.iinc 3 1, 3) := by decide +kernel
theorem dX3_rounds_25 : decode cX3_rounds 25 = .ok (.iload 4, 2) := by decide +kernel
theorem dX3_rounds_27 : decode cX3_rounds 27 = .ok (.istore 5, 2) := by decide +kernel
theorem dX3_rounds_29 : decode cX3_rounds 29 = .ok (.iconst 0, 1) := by decide +kernel
theorem dX3_rounds_30 : decode cX3_rounds 30 = .ok (.istore 6, 2) := by decide +kernel
theorem dX3_rounds_32 : decode cX3_rounds 32 = .ok (.iload 6, 2) := by decide +kernel
theorem dX3_rounds_34 : decode cX3_rounds 34 = .ok (.iload_n 1, 1) := by decide +kernel
theorem dX3_rounds_35 : decode cX3_rounds 35 = .ok (.if_icmp .ge 27, 3) := by decide +kernel
theorem dX3_rounds_38 : decode cX3_rounds 38 = .ok (.iload_n 2, 1) := by decide +kernel
theorem dX3_rounds_39 : decode cX3_rounds 39 = .ok (.iconst 1, 1) := by decide +kernel
theorem dX3_rounds_40 : decode cX3_rounds 40 = .ok (.iload 5, 2) := by decide +kernel
theorem dX3_rounds_42 : decode cX3_rounds 42 = .ok (.ishl, 1) := by decide +kernel
theorem dX3_rounds_43 : decode cX3_rounds 43 = .ok (.ior, 1) := by decide +kernel
theorem dX3_rounds_44 : decode cX3_rounds 44 = .ok (.istore_n 2, 1) := by decide +kernel
theorem dX3_rounds_45 : decode cX3_rounds 45 = .ok (.iload 5, 2) := by decide +kernel
theorem dX3_rounds_47 : decode cX3_rounds 47 = .ok (.aload_n 0, 1) := by decide +kernel
theorem dX3_rounds_48 : decode cX3_rounds 48 = .ok (.iload 5, 2) := by decide +kernel
theorem dX3_rounds_50 : decode cX3_rounds 50 = .ok (.iaload, 1) := by decide +kernel
theorem dX3_rounds_51 : decode cX3_rounds 51 = .ok (.iadd, 1) := by decide +kernel
theorem dX3_rounds_52 : decode cX3_rounds 52 = .ok (.iload_n 1, 1) := by decide +kernel
theorem dX3_rounds_53 : decode cX3_rounds 53 = .ok (.irem, 1) := by decide +kernel
theorem dX3_rounds_54 : decode cX3_rounds 54 = .ok (.istore 5, 2) := by decide +kernel
theorem dX3_rounds_56 : decode cX3_rounds 56 = .ok (.iinc 6 1, 3) := by decide +kernel
theorem dX3_rounds_59 : decode cX3_rounds 59 = .ok (.goto (-27), 3) := by decide +kernel
theorem dX3_rounds_62 : decode cX3_rounds 62 = .ok (.iinc 4 1, 3) := by decide +kernel
theorem dX3_rounds_65 : decode cX3_rounds 65 = .ok (.goto (-58), 3) := by decide +kernel
theorem dX3_rounds_68 : decode cX3_rounds 68 = .ok (.iload_n 3, 1) := by decide +kernel
theorem dX3_rounds_69 : decode cX3_rounds 69 = .ok (.ireturn, 1) := by decide +kernel
set_option maxHeartbeats 4000000 in
set_option maxRecDepth 100000 in
theorem S_X3_rounds_H8 {l : Launch} {D : va_G} {ids : List Nat} {ad : Nat → Nat} {ca : Nat → ClassId} {σ : HS} {x2 : Int32} {h1 : Nat} (hid : ∀ i, i < 277 → i ∈ ids) (hG : GIc σ) (hx2 : 0 ≤ x2.toInt ∧ x2.toInt ≤ 8) (hk1 : kd h1 = 20) (hm1 : h1 ∈ ids) (hn1 : al h1 = 8) (hb1 : ∀ j : Nat, 0 ≤ (σ.1 h1 j).toInt ∧ (σ.1 h1 j).toInt ≤ 9999) : Ki l D ids ad ca yX3_rounds cX3_rounds 7 .int 0 0 [.ref (ad h1), .int x2] σ (fun r σ1 => (σ1 = σ)) := by
  refine Ki.of (by decide) (Nat.le_of_ble_eq_true rfl) 5 (fun Γ C Rt => ?_)
  show AW ids ad ca Γ 0 [some (.ref (ad h1)), some (.int x2), none, none, none, none, none] [] σ
  have j7 : ∀ (d : Nat) (y7_2 : Int32) (y7_3 : Int32) (y7_4 : Int32), 8 - y7_4.toInt < d → 0 ≤ y7_4.toInt ∧ y7_4.toInt ≤ 8 → AW ids ad ca Γ 7 [some (.ref (ad h1)), some (.int x2), some (.int y7_2), some (.int y7_3), some (.int y7_4), none, none] [] σ := by
    intro d
    induction d with
    | zero =>
      intro y7_2 y7_3 y7_4 hd hx7_0
      exfalso
      omega
    | succ d ih =>
      intro y7_2 y7_3 y7_4 hd hx7_0
      have j62 : ∀ (y62_2 : Int32) (y62_3 : Int32) (y62_4 : Int32), 0 ≤ y62_4.toInt ∧ y62_4.toInt ≤ 7 → 1 ≤ x2.toInt ∧ x2.toInt ≤ 8 → AW ids ad ca Γ 62 [some (.ref (ad h1)), some (.int x2), some (.int y62_2), some (.int y62_3), some (.int y62_4), none, none] [] σ := by
        intro y62_2 y62_3 y62_4 hx62_0 hx62_1
        refine s_iinc C dX3_rounds_62 rfl (1) (by decide) (by omega) (by decide) rfl (fun z1 h2 => ?_)
        show AW ids ad ca Γ 65 [some (.ref (ad h1)), some (.int x2), some (.int y62_2), some (.int y62_3), some (.int z1), none, none] _ _
        refine a_goto C dX3_rounds_65 (tgt := 7) rfl ?_
        exact ih y62_2 y62_3 z1 (by omega) (by omega)
      have j32 : ∀ (d : Nat) (y32_2 : Int32) (y32_3 : Int32) (y32_4 : Int32) (y32_5 : Int32) (y32_6 : Int32), 8 - y32_6.toInt < d → 0 ≤ y32_4.toInt ∧ y32_4.toInt ≤ 7 → 0 ≤ y32_5.toInt ∧ y32_5.toInt ≤ 7 → 0 ≤ y32_6.toInt ∧ y32_6.toInt ≤ 8 → 1 ≤ x2.toInt ∧ x2.toInt ≤ 8 → AW ids ad ca Γ 32 [some (.ref (ad h1)), some (.int x2), some (.int y32_2), some (.int y32_3), some (.int y32_4), some (.int y32_5), some (.int y32_6)] [] σ := by
        intro d
        induction d with
        | zero =>
          intro y32_2 y32_3 y32_4 y32_5 y32_6 hd hx32_0 hx32_1 hx32_2 hx32_3
          exfalso
          omega
        | succ d ih =>
          intro y32_2 y32_3 y32_4 y32_5 y32_6 hd hx32_0 hx32_1 hx32_2 hx32_3
          refine a_iload C dX3_rounds_32 rfl ?_
          refine a_iload_n C dX3_rounds_34 (i := 1) rfl rfl ?_
          refine s_ic_ge C dX3_rounds_35 (tgt := 62) rfl (fun c3 => ?_) (fun c3 => ?_)
          ·
            refine AW.sub (vs' := [some (.ref (ad h1)), some (.int x2), some (.int y32_2), some (.int y32_3), some (.int y32_4), none, none]) (lsub_of (by simp [lsubB])) ?_
            exact j62 y32_2 y32_3 y32_4 (by omega) (by omega)
          ·
            refine a_iload_n C dX3_rounds_38 (i := 2) rfl rfl ?_
            refine s_iconst C dX3_rounds_39 (1) (by decide) (fun z4 h5 => ?_)
            refine a_iload C dX3_rounds_40 rfl ?_
            refine s_ishlU C dX3_rounds_42 (fun z6 => ?_)
            refine s_iorU C dX3_rounds_43 (fun z8 => ?_)
            refine a_istore_n C dX3_rounds_44 (i := 2) rfl (by decide) rfl (vs1 := [some (.ref (ad h1)), some (.int x2), some (.int z8), some (.int y32_3), some (.int y32_4), some (.int y32_5), some (.int y32_6)]) rfl ?_
            refine a_iload C dX3_rounds_45 rfl ?_
            refine a_aload_n C dX3_rounds_47 (i := 0) rfl rfl ?_
            refine a_iload C dX3_rounds_48 rfl ?_
            refine s_iald C (i := h1) hk1 hm1 hn1 (by omega) (by omega) dX3_rounds_50 (fun n10 h11 => ?_)
            refine s_val (fun z12 e13 => ?_)
            have g14 := hb1 n10
            rw [e13] at g14
            refine s_iadd C dX3_rounds_51 (by omega) (fun z15 h16 => ?_)
            refine a_iload_n C dX3_rounds_52 (i := 1) rfl rfl ?_
            refine s_irem C dX3_rounds_53 (by omega) (by omega) (fun z17 h18 => ?_)
            refine a_istore C dX3_rounds_54 (by decide) rfl (vs1 := [some (.ref (ad h1)), some (.int x2), some (.int z8), some (.int y32_3), some (.int y32_4), some (.int z17), some (.int y32_6)]) rfl ?_
            refine s_iinc C dX3_rounds_56 rfl (1) (by decide) (by omega) (by decide) rfl (fun z19 h20 => ?_)
            show AW ids ad ca Γ 59 [some (.ref (ad h1)), some (.int x2), some (.int z8), some (.int y32_3), some (.int y32_4), some (.int z17), some (.int z19)] _ _
            refine a_goto C dX3_rounds_59 (tgt := 32) rfl ?_
            exact ih z8 y32_3 y32_4 z17 z19 (by omega) (by omega) (by omega) (by omega) (by omega)
      refine a_iload C dX3_rounds_7 rfl ?_
      refine a_iload_n C dX3_rounds_9 (i := 1) rfl rfl ?_
      refine s_ic_ge C dX3_rounds_10 (tgt := 68) rfl (fun c21 => ?_) (fun c21 => ?_)
      ·
        refine a_iload_n C dX3_rounds_68 (i := 3) rfl rfl ?_
        exact a_iret Rt dX3_rounds_69 rfl (rfl)
      ·
        refine a_iload_n C dX3_rounds_13 (i := 2) rfl rfl ?_
        refine a_iload C dX3_rounds_14 rfl ?_
        refine s_ishrU C dX3_rounds_16 (fun z22 => ?_)
        refine s_iconst C dX3_rounds_17 (1) (by decide) (fun z24 h25 => ?_)
        refine s_iand C dX3_rounds_18 (by omega) (fun z26 h27 => ?_)
        refine s_if_ne C dX3_rounds_19 (tgt := 62) rfl (fun c28 => ?_) (fun c28 => ?_)
        ·
          exact j62 y7_2 y7_3 y7_4 (by omega) (by omega)
        ·
          refine s_iincU C dX3_rounds_22 rfl (by decide) rfl (fun z29 => ?_)
          show AW ids ad ca Γ 25 [some (.ref (ad h1)), some (.int x2), some (.int y7_2), some (.int z29), some (.int y7_4), none, none] _ _
          refine a_iload C dX3_rounds_25 rfl ?_
          refine a_istore C dX3_rounds_27 (by decide) rfl (vs1 := [some (.ref (ad h1)), some (.int x2), some (.int y7_2), some (.int z29), some (.int y7_4), some (.int y7_4), none]) rfl ?_
          refine s_iconst C dX3_rounds_29 (0) (by decide) (fun z31 h32 => ?_)
          refine a_istore C dX3_rounds_30 (by decide) rfl (vs1 := [some (.ref (ad h1)), some (.int x2), some (.int y7_2), some (.int z29), some (.int y7_4), some (.int y7_4), some (.int z31)]) rfl ?_
          exact j32 100000 y7_2 z29 y7_4 y7_4 z31 (by omega) (by omega) (by omega) (by omega) (by omega)
  refine s_iconst C dX3_rounds_0 (0) (by decide) (fun z33 h34 => ?_)
  refine a_istore_n C dX3_rounds_1 (i := 2) rfl (by decide) rfl (vs1 := [some (.ref (ad h1)), some (.int x2), some (.int z33), none, none, none, none]) rfl ?_
  refine s_iconst C dX3_rounds_2 (0) (by decide) (fun z35 h36 => ?_)
  refine a_istore_n C dX3_rounds_3 (i := 3) rfl (by decide) rfl (vs1 := [some (.ref (ad h1)), some (.int x2), some (.int z33), some (.int z35), none, none, none]) rfl ?_
  refine s_iconst C dX3_rounds_4 (0) (by decide) (fun z37 h38 => ?_)
  refine a_istore C dX3_rounds_5 (by decide) rfl (vs1 := [some (.ref (ad h1)), some (.int x2), some (.int z33), some (.int z35), some (.int z37), none, none]) rfl ?_
  exact j7 100000 z33 z35 z37 (by omega) (by omega)
theorem dX3_pairsToSwap_0 : decode cX3_pairsToSwap 0 = .ok (.iconst 0, 1) := by decide +kernel
theorem dX3_pairsToSwap_1 : decode cX3_pairsToSwap 1 = .ok (.istore_n 2, 1) := by decide +kernel
theorem dX3_pairsToSwap_2 : decode cX3_pairsToSwap 2 = .ok (.iconst 1, 1) := by decide +kernel
theorem dX3_pairsToSwap_3 : decode cX3_pairsToSwap 3 = .ok (.istore_n 3, 1) := by decide +kernel
theorem dX3_pairsToSwap_4 : decode cX3_pairsToSwap 4 = .ok (.iload_n 3, 1) := by decide +kernel
theorem dX3_pairsToSwap_5 : decode cX3_pairsToSwap 5 = .ok (.iload_n 1, 1) := by decide +kernel
theorem dX3_pairsToSwap_6 : decode cX3_pairsToSwap 6 = .ok (.if_icmp .ge 56, 3) := by decide +kernel
theorem dX3_pairsToSwap_9 : decode cX3_pairsToSwap 9 = .ok (.iconst 0, 1) := by decide +kernel
theorem dX3_pairsToSwap_10 : decode cX3_pairsToSwap 10 = .ok (.istore 4, 2) := by decide +kernel
theorem dX3_pairsToSwap_12 : decode cX3_pairsToSwap 12 = .ok (.iload 4, 2) := by decide +kernel
theorem dX3_pairsToSwap_14 : decode cX3_pairsToSwap 14 = .ok (.iload_n 3, 1) := by decide +kernel
theorem dX3_pairsToSwap_15 : decode cX3_pairsToSwap 15 = .ok (.if_icmp .ge 41, 3) := by decide +kernel
theorem dX3_pairsToSwap_18 : decode cX3_pairsToSwap 18 = .ok (.aload_n 0, 1) := by decide +kernel
theorem dX3_pairsToSwap_19 : decode cX3_pairsToSwap 19 = .ok (.iload_n 3, 1) := by decide +kernel
theorem dX3_pairsToSwap_20 : decode cX3_pairsToSwap 20 = .ok (.iaload, 1) := by decide +kernel
theorem dX3_pairsToSwap_21 : decode cX3_pairsToSwap 21 = .ok (.iload_n 3, 1) := by decide +kernel
theorem dX3_pairsToSwap_22 : decode cX3_pairsToSwap 22 = .ok (.iadd, 1) := by decide +kernel
theorem dX3_pairsToSwap_23 : decode cX3_pairsToSwap 23 = .ok (.iload 4, 2) := by decide +kernel
theorem dX3_pairsToSwap_25 : decode cX3_pairsToSwap 25 = .ok (.isub, 1) := by decide +kernel
theorem dX3_pairsToSwap_26 : decode cX3_pairsToSwap 26 = .ok (.invokestatic 15, 3) := by decide +kernel
theorem dX3_pairsToSwap_29 : decode cX3_pairsToSwap 29 = .ok (.ifCond .eq 21, 3) := by decide +kernel
theorem dX3_pairsToSwap_32 : decode cX3_pairsToSwap 32 = .ok (.aload_n 0, 1) := by decide +kernel
theorem dX3_pairsToSwap_33 : decode cX3_pairsToSwap 33 = .ok (.iload 4, 2) := by decide +kernel
theorem dX3_pairsToSwap_35 : decode cX3_pairsToSwap 35 = .ok (.iaload, 1) := by decide +kernel
theorem dX3_pairsToSwap_36 : decode cX3_pairsToSwap 36 = .ok (.iload_n 3, 1) := by decide +kernel
theorem dX3_pairsToSwap_37 : decode cX3_pairsToSwap 37 = .ok (.iload 4, 2) := by decide +kernel
theorem dX3_pairsToSwap_39 : decode cX3_pairsToSwap 39 = .ok (.isub, 1) := by decide +kernel
theorem dX3_pairsToSwap_40 : decode cX3_pairsToSwap 40 = .ok (.isub, 1) := by decide +kernel
theorem dX3_pairsToSwap_41 : decode cX3_pairsToSwap 41 = .ok (.invokestatic 15, 3) := by decide +kernel
theorem dX3_pairsToSwap_44 : decode cX3_pairsToSwap 44 = .ok (.ifCond .eq 6, 3) := by decide +kernel
theorem dX3_pairsToSwap_47 : decode cX3_pairsToSwap 47 = .ok (.iinc 2 1, 3) := by decide +kernel
theorem dX3_pairsToSwap_50 : decode cX3_pairsToSwap 50 = .ok (.iinc 4 1, 3) := by decide +kernel
theorem dX3_pairsToSwap_53 : decode cX3_pairsToSwap 53 = .ok (.goto (-41), 3) := by decide +kernel
theorem dX3_pairsToSwap_56 : decode cX3_pairsToSwap 56 = .ok (.iinc 3 1, 3) := by decide +kernel
theorem dX3_pairsToSwap_59 : decode cX3_pairsToSwap 59 = .ok (.goto (-55), 3) := by decide +kernel
theorem dX3_pairsToSwap_62 : decode cX3_pairsToSwap 62 = .ok (.iload_n 2, 1) := by decide +kernel
theorem dX3_pairsToSwap_63 : decode cX3_pairsToSwap 63 = .ok (.ireturn, 1) := by decide +kernel
set_option maxHeartbeats 4000000 in
set_option maxRecDepth 100000 in
theorem S_X3_pairsToSwap_H8 {l : Launch} {D : va_G} {ids : List Nat} {ad : Nat → Nat} {ca : Nat → ClassId} {σ : HS} {x2 : Int32} {h1 : Nat} (hid : ∀ i, i < 277 → i ∈ ids) (hG : GIc σ) (hx2 : 0 ≤ x2.toInt ∧ x2.toInt ≤ 8) (hk1 : kd h1 = 20) (hm1 : h1 ∈ ids) (hn1 : al h1 = 8) (hb1 : ∀ j : Nat, 0 ≤ (σ.1 h1 j).toInt ∧ (σ.1 h1 j).toInt ≤ 9999) : Ki l D ids ad ca yX3_pairsToSwap cX3_pairsToSwap 5 .int 1 20 [.ref (ad h1), .int x2] σ (fun r σ1 => (σ1 = σ)) := by
  refine Ki.of (by decide) (Nat.le_of_ble_eq_true rfl) 3 (fun Γ C Rt => ?_)
  show AW ids ad ca Γ 0 [some (.ref (ad h1)), some (.int x2), none, none, none] [] σ
  have j4 : ∀ (d : Nat) (y4_2 : Int32) (y4_3 : Int32), 8 - y4_3.toInt < d → 1 ≤ y4_3.toInt ∧ y4_3.toInt ≤ 8 → AW ids ad ca Γ 4 [some (.ref (ad h1)), some (.int x2), some (.int y4_2), some (.int y4_3), none] [] σ := by
    intro d
    induction d with
    | zero =>
      intro y4_2 y4_3 hd hx4_0
      exfalso
      omega
    | succ d ih =>
      intro y4_2 y4_3 hd hx4_0
      have j12 : ∀ (d : Nat) (y12_2 : Int32) (y12_3 : Int32) (y12_4 : Int32), 7 - y12_4.toInt < d → 1 ≤ y12_3.toInt ∧ y12_3.toInt ≤ 7 → 0 ≤ y12_4.toInt ∧ y12_4.toInt ≤ 7 → 2 ≤ x2.toInt ∧ x2.toInt ≤ 8 → AW ids ad ca Γ 12 [some (.ref (ad h1)), some (.int x2), some (.int y12_2), some (.int y12_3), some (.int y12_4)] [] σ := by
        intro d
        induction d with
        | zero =>
          intro y12_2 y12_3 y12_4 hd hx12_0 hx12_1 hx12_2
          exfalso
          omega
        | succ d ih =>
          intro y12_2 y12_3 y12_4 hd hx12_0 hx12_1 hx12_2
          have j50 : ∀ (y50_2 : Int32) (y50_3 : Int32) (y50_4 : Int32), 1 ≤ y50_3.toInt ∧ y50_3.toInt ≤ 7 → 0 ≤ y50_4.toInt ∧ y50_4.toInt ≤ 6 → 2 ≤ x2.toInt ∧ x2.toInt ≤ 8 → AW ids ad ca Γ 50 [some (.ref (ad h1)), some (.int x2), some (.int y50_2), some (.int y50_3), some (.int y50_4)] [] σ := by
            intro y50_2 y50_3 y50_4 hx50_0 hx50_1 hx50_2
            refine s_iinc C dX3_pairsToSwap_50 rfl (1) (by decide) (by omega) (by decide) rfl (fun z1 h2 => ?_)
            show AW ids ad ca Γ 53 [some (.ref (ad h1)), some (.int x2), some (.int y50_2), some (.int y50_3), some (.int z1)] _ _
            refine a_goto C dX3_pairsToSwap_53 (tgt := 12) rfl ?_
            exact ih y50_2 y50_3 z1 (by omega) (by omega) (by omega) (by omega)
          refine a_iload C dX3_pairsToSwap_12 rfl ?_
          refine a_iload_n C dX3_pairsToSwap_14 (i := 3) rfl rfl ?_
          refine s_ic_ge C dX3_pairsToSwap_15 (tgt := 56) rfl (fun c3 => ?_) (fun c3 => ?_)
          ·
            refine s_iinc C dX3_pairsToSwap_56 rfl (1) (by decide) (by omega) (by decide) rfl (fun z4 h5 => ?_)
            show AW ids ad ca Γ 59 [some (.ref (ad h1)), some (.int x2), some (.int y12_2), some (.int z4), some (.int y12_4)] _ _
            refine a_goto C dX3_pairsToSwap_59 (tgt := 4) rfl ?_
            refine AW.sub (vs' := [some (.ref (ad h1)), some (.int x2), some (.int y12_2), some (.int z4), none]) (lsub_of (by simp [lsubB])) ?_
            exact ih y12_2 z4 (by omega) (by omega)
          ·
            refine a_aload_n C dX3_pairsToSwap_18 (i := 0) rfl rfl ?_
            refine a_iload_n C dX3_pairsToSwap_19 (i := 3) rfl rfl ?_
            refine s_iald C (i := h1) hk1 hm1 hn1 (by omega) (by omega) dX3_pairsToSwap_20 (fun n6 h7 => ?_)
            refine s_val (fun z8 e9 => ?_)
            have g10 := hb1 n6
            rw [e9] at g10
            refine a_iload_n C dX3_pairsToSwap_21 (i := 3) rfl rfl ?_
            refine s_iadd C dX3_pairsToSwap_22 (by omega) (fun z11 h12 => ?_)
            refine a_iload C dX3_pairsToSwap_23 rfl ?_
            refine s_isub C dX3_pairsToSwap_25 (by omega) (fun z13 h14 => ?_)
            refine a_callSi C (S_X11_isHeight (x1 := z13) hid hG) ms_X11_isHeight ml_RX3_15 rfl rfl (Nat.le_of_ble_eq_true rfl) (Nat.le_of_ble_eq_true rfl) (Nat.le_of_ble_eq_true rfl) dX3_pairsToSwap_26 (fun z15 σ16 q17 => ?_)
            obtain ⟨w18, w19, w20⟩ := q17
            rw [w18]
            refine s_if_eq C dX3_pairsToSwap_29 (tgt := 50) rfl (fun c21 => ?_) (fun c21 => ?_)
            ·
              exact j50 y12_2 y12_3 y12_4 (by omega) (by omega) (by omega)
            ·
              refine a_aload_n C dX3_pairsToSwap_32 (i := 0) rfl rfl ?_
              refine a_iload C dX3_pairsToSwap_33 rfl ?_
              refine s_iald C (i := h1) hk1 hm1 hn1 (by omega) (by omega) dX3_pairsToSwap_35 (fun n22 h23 => ?_)
              refine s_val (fun z24 e25 => ?_)
              have g26 := hb1 n22
              rw [e25] at g26
              refine a_iload_n C dX3_pairsToSwap_36 (i := 3) rfl rfl ?_
              refine a_iload C dX3_pairsToSwap_37 rfl ?_
              refine s_isub C dX3_pairsToSwap_39 (by omega) (fun z27 h28 => ?_)
              refine s_isub C dX3_pairsToSwap_40 (by omega) (fun z29 h30 => ?_)
              refine a_callSi C (S_X11_isHeight (x1 := z29) hid hG) ms_X11_isHeight ml_RX3_15 rfl rfl (Nat.le_of_ble_eq_true rfl) (Nat.le_of_ble_eq_true rfl) (Nat.le_of_ble_eq_true rfl) dX3_pairsToSwap_41 (fun z31 σ32 q33 => ?_)
              obtain ⟨w34, w35, w36⟩ := q33
              rw [w34]
              refine s_if_eq C dX3_pairsToSwap_44 (tgt := 50) rfl (fun c37 => ?_) (fun c37 => ?_)
              ·
                exact j50 y12_2 y12_3 y12_4 (by omega) (by omega) (by omega)
              ·
                refine s_iincU C dX3_pairsToSwap_47 rfl (by decide) rfl (fun z38 => ?_)
                show AW ids ad ca Γ 50 [some (.ref (ad h1)), some (.int x2), some (.int z38), some (.int y12_3), some (.int y12_4)] _ _
                exact j50 z38 y12_3 y12_4 (by omega) (by omega) (by omega)
      refine a_iload_n C dX3_pairsToSwap_4 (i := 3) rfl rfl ?_
      refine a_iload_n C dX3_pairsToSwap_5 (i := 1) rfl rfl ?_
      refine s_ic_ge C dX3_pairsToSwap_6 (tgt := 62) rfl (fun c40 => ?_) (fun c40 => ?_)
      ·
        refine a_iload_n C dX3_pairsToSwap_62 (i := 2) rfl rfl ?_
        exact a_iret Rt dX3_pairsToSwap_63 rfl (rfl)
      ·
        refine s_iconst C dX3_pairsToSwap_9 (0) (by decide) (fun z41 h42 => ?_)
        refine a_istore C dX3_pairsToSwap_10 (by decide) rfl (vs1 := [some (.ref (ad h1)), some (.int x2), some (.int y4_2), some (.int y4_3), some (.int z41)]) rfl ?_
        exact j12 100000 y4_2 y4_3 z41 (by omega) (by omega) (by omega) (by omega)
  refine s_iconst C dX3_pairsToSwap_0 (0) (by decide) (fun z43 h44 => ?_)
  refine a_istore_n C dX3_pairsToSwap_1 (i := 2) rfl (by decide) rfl (vs1 := [some (.ref (ad h1)), some (.int x2), some (.int z43), none, none]) rfl ?_
  refine s_iconst C dX3_pairsToSwap_2 (1) (by decide) (fun z45 h46 => ?_)
  refine a_istore_n C dX3_pairsToSwap_3 (i := 3) rfl (by decide) rfl (vs1 := [some (.ref (ad h1)), some (.int x2), some (.int z43), some (.int z45), none]) rfl ?_
  exact j4 100000 z43 z45 (by omega) (by omega)
theorem dX3_landingBits_0 : decode cX3_landingBits 0 = .ok (.iconst 0, 1) := by decide +kernel
theorem dX3_landingBits_1 : decode cX3_landingBits 1 = .ok (.istore_n 2, 1) := by decide +kernel
theorem dX3_landingBits_2 : decode cX3_landingBits 2 = .ok (.iconst 1, 1) := by decide +kernel
theorem dX3_landingBits_3 : decode cX3_landingBits 3 = .ok (.istore_n 3, 1) := by decide +kernel
theorem dX3_landingBits_4 : decode cX3_landingBits 4 = .ok (.iload_n 3, 1) := by decide +kernel
theorem dX3_landingBits_5 : decode cX3_landingBits 5 = .ok (.bipush 9, 2) := by decide +kernel
theorem dX3_landingBits_7 : decode cX3_landingBits 7 = .ok (.if_icmp .gt 37, 3) := by decide +kernel
theorem dX3_landingBits_10 : decode cX3_landingBits 10 = .ok (.iload_n 1, 1) := by decide +kernel
theorem dX3_landingBits_11 : decode cX3_landingBits 11 = .ok (.ifCond .le 33, 3) := by decide +kernel
theorem dX3_landingBits_14 : decode cX3_landingBits 14 = .ok (.aload_n 0, 1) := by decide +kernel
theorem dX3_landingBits_15 : decode cX3_landingBits 15 = .ok (.iload_n 3, 1) := by decide +kernel
theorem dX3_landingBits_16 : decode cX3_landingBits 16 = .ok (.ineg, 1) := by decide +kernel
theorem dX3_landingBits_17 : decode cX3_landingBits 17 = .ok (.iload_n 1, 1) := by decide +kernel
theorem dX3_landingBits_18 : decode cX3_landingBits 18 = .ok (.invokestatic 19, 3) := by decide +kernel
theorem dX3_landingBits_21 : decode cX3_landingBits 21 = .ok (.iaload, 1) := by decide +kernel
theorem dX3_landingBits_22 : decode cX3_landingBits 22 = .ok (.iload_n 3, 1) := by decide +kernel
theorem dX3_landingBits_23 : decode cX3_landingBits 23 = .ok (.isub, 1) := by decide +kernel
theorem dX3_landingBits_24 : decode cX3_landingBits 24 = .ok (.istore 4, 2) := by decide +kernel
theorem dX3_landingBits_26 : decode cX3_landingBits 26 = .ok (.iload 4, 2) := by decide +kernel
theorem dX3_landingBits_28 : decode cX3_landingBits 28 = .ok (.ifCond .lt 10, 3) := by decide +kernel
theorem dX3_landingBits_31 : decode cX3_landingBits 31 = .ok (.iload_n 2, 1) := by decide +kernel
theorem dX3_landingBits_32 : decode cX3_landingBits 32 = .ok (.iconst 1, 1) := by decide +kernel
theorem dX3_landingBits_33 : decode cX3_landingBits 33 = .ok (.iload 4, 2) := by decide +kernel
theorem dX3_landingBits_35 : decode cX3_landingBits 35 = .ok (.ishl, 1) := by decide +kernel
theorem dX3_landingBits_36 : decode cX3_landingBits 36 = .ok (.ior, 1) := by decide +kernel
theorem dX3_landingBits_37 : decode cX3_landingBits 37 = .ok (.istore_n 2, 1) := by decide +kernel
theorem dX3_landingBits_38 : decode cX3_landingBits 38 = .ok (.iinc 3 1, 3) := by decide +kernel
theorem dX3_landingBits_41 : decode cX3_landingBits 41 = .ok (.goto (-37), 3) := by decide +kernel
theorem dX3_landingBits_44 : decode cX3_landingBits 44 = .ok (.iload_n 2, 1) := by decide +kernel
theorem dX3_landingBits_45 : decode cX3_landingBits 45 = .ok (.ireturn, 1) := by decide +kernel
set_option maxHeartbeats 4000000 in
set_option maxRecDepth 100000 in
theorem S_X3_landingBits_H8 {l : Launch} {D : va_G} {ids : List Nat} {ad : Nat → Nat} {ca : Nat → ClassId} {σ : HS} {x2 : Int32} {h1 : Nat} (hid : ∀ i, i < 277 → i ∈ ids) (hG : GIc σ) (hx2 : 0 ≤ x2.toInt ∧ x2.toInt ≤ 8) (hk1 : kd h1 = 20) (hm1 : h1 ∈ ids) (hn1 : al h1 = 8) (hb1 : ∀ j : Nat, 0 ≤ (σ.1 h1 j).toInt ∧ (σ.1 h1 j).toInt ≤ 9999) : Ki l D ids ad ca yX3_landingBits cX3_landingBits 5 .int 1 22 [.ref (ad h1), .int x2] σ (fun r σ1 => (σ1 = σ)) := by
  refine Ki.of (by decide) (Nat.le_of_ble_eq_true rfl) 3 (fun Γ C Rt => ?_)
  show AW ids ad ca Γ 0 [some (.ref (ad h1)), some (.int x2), none, none, none] [] σ
  have j4 : ∀ (d : Nat) (y4_2 : Int32) (y4_3 : Int32), 10 - y4_3.toInt < d → 1 ≤ y4_3.toInt ∧ y4_3.toInt ≤ 10 → AW ids ad ca Γ 4 [some (.ref (ad h1)), some (.int x2), some (.int y4_2), some (.int y4_3), none] [] σ := by
    intro d
    induction d with
    | zero =>
      intro y4_2 y4_3 hd hx4_0
      exfalso
      omega
    | succ d ih =>
      intro y4_2 y4_3 hd hx4_0
      have j38 : ∀ (y38_2 : Int32) (y38_3 : Int32), 1 ≤ y38_3.toInt ∧ y38_3.toInt ≤ 9 → 1 ≤ x2.toInt ∧ x2.toInt ≤ 8 → AW ids ad ca Γ 38 [some (.ref (ad h1)), some (.int x2), some (.int y38_2), some (.int y38_3), none] [] σ := by
        intro y38_2 y38_3 hx38_0 hx38_1
        refine s_iinc C dX3_landingBits_38 rfl (1) (by decide) (by omega) (by decide) rfl (fun z1 h2 => ?_)
        show AW ids ad ca Γ 41 [some (.ref (ad h1)), some (.int x2), some (.int y38_2), some (.int z1), none] _ _
        refine a_goto C dX3_landingBits_41 (tgt := 4) rfl ?_
        exact ih y38_2 z1 (by omega) (by omega)
      refine a_iload_n C dX3_landingBits_4 (i := 3) rfl rfl ?_
      refine s_bipush C dX3_landingBits_5 (9) (by decide) (fun z3 h4 => ?_)
      refine s_ic_gt C dX3_landingBits_7 (tgt := 44) rfl (fun c5 => ?_) (fun c5 => ?_)
      ·
        refine a_iload_n C dX3_landingBits_44 (i := 2) rfl rfl ?_
        exact a_iret Rt dX3_landingBits_45 rfl (rfl)
      ·
        refine a_iload_n C dX3_landingBits_10 (i := 1) rfl rfl ?_
        refine s_if_le C dX3_landingBits_11 (tgt := 44) rfl (fun c6 => ?_) (fun c6 => ?_)
        ·
          refine a_iload_n C dX3_landingBits_44 (i := 2) rfl rfl ?_
          exact a_iret Rt dX3_landingBits_45 rfl (rfl)
        ·
          refine a_aload_n C dX3_landingBits_14 (i := 0) rfl rfl ?_
          refine a_iload_n C dX3_landingBits_15 (i := 3) rfl rfl ?_
          refine s_inegU C dX3_landingBits_16 (fun z7 => ?_)
          refine a_iload_n C dX3_landingBits_17 (i := 1) rfl rfl ?_
          refine a_callSi C (S_J9_floorMod_7cf53 (x1 := z7) (x2 := x2) hid hG (by omega)) ms_J9_floorMod_7cf53 ml_RX3_19 rfl rfl (Nat.le_of_ble_eq_true rfl) (Nat.le_of_ble_eq_true rfl) (Nat.le_of_ble_eq_true rfl) dX3_landingBits_18 (fun z9 σ10 q11 => ?_)
          obtain ⟨w12, w13⟩ := q11
          rw [w12]
          refine s_iald C (i := h1) hk1 hm1 hn1 (by omega) (by omega) dX3_landingBits_21 (fun n14 h15 => ?_)
          refine s_val (fun z16 e17 => ?_)
          have g18 := hb1 n14
          rw [e17] at g18
          refine a_iload_n C dX3_landingBits_22 (i := 3) rfl rfl ?_
          refine s_isub C dX3_landingBits_23 (by omega) (fun z19 h20 => ?_)
          refine a_istore C dX3_landingBits_24 (by decide) rfl (vs1 := [some (.ref (ad h1)), some (.int x2), some (.int y4_2), some (.int y4_3), some (.int z19)]) rfl ?_
          refine a_iload C dX3_landingBits_26 rfl ?_
          refine s_if_lt C dX3_landingBits_28 (tgt := 38) rfl (fun c21 => ?_) (fun c21 => ?_)
          ·
            refine AW.sub (vs' := [some (.ref (ad h1)), some (.int x2), some (.int y4_2), some (.int y4_3), none]) (lsub_of (by simp [lsubB])) ?_
            exact j38 y4_2 y4_3 (by omega) (by omega)
          ·
            refine a_iload_n C dX3_landingBits_31 (i := 2) rfl rfl ?_
            refine s_iconst C dX3_landingBits_32 (1) (by decide) (fun z22 h23 => ?_)
            refine a_iload C dX3_landingBits_33 rfl ?_
            refine s_ishlU C dX3_landingBits_35 (fun z24 => ?_)
            refine s_iorU C dX3_landingBits_36 (fun z26 => ?_)
            refine a_istore_n C dX3_landingBits_37 (i := 2) rfl (by decide) rfl (vs1 := [some (.ref (ad h1)), some (.int x2), some (.int z26), some (.int y4_3), some (.int z19)]) rfl ?_
            refine AW.sub (vs' := [some (.ref (ad h1)), some (.int x2), some (.int z26), some (.int y4_3), none]) (lsub_of (by simp [lsubB])) ?_
            exact j38 z26 y4_3 (by omega) (by omega)
  refine s_iconst C dX3_landingBits_0 (0) (by decide) (fun z28 h29 => ?_)
  refine a_istore_n C dX3_landingBits_1 (i := 2) rfl (by decide) rfl (vs1 := [some (.ref (ad h1)), some (.int x2), some (.int z28), none, none]) rfl ?_
  refine s_iconst C dX3_landingBits_2 (1) (by decide) (fun z30 h31 => ?_)
  refine a_istore_n C dX3_landingBits_3 (i := 3) rfl (by decide) rfl (vs1 := [some (.ref (ad h1)), some (.int x2), some (.int z28), some (.int z30), none]) rfl ?_
  exact j4 100000 z28 z30 (by omega) (by omega)
theorem dX3_turns_0 : decode cX3_turns 0 = .ok (.iconst 0, 1) := by decide +kernel
theorem dX3_turns_1 : decode cX3_turns 1 = .ok (.istore_n 3, 1) := by decide +kernel
theorem dX3_turns_2 : decode cX3_turns 2 = .ok (.iload_n 3, 1) := by decide +kernel
theorem dX3_turns_3 : decode cX3_turns 3 = .ok (.iload_n 2, 1) := by decide +kernel
theorem dX3_turns_4 : decode cX3_turns 4 = .ok (.if_icmp .ge 61, 3) := by decide +kernel
theorem dX3_turns_7 : decode cX3_turns 7 = .ok (.iconst 1, 1) := by decide +kernel
theorem dX3_turns_8 : decode cX3_turns 8 = .ok (.istore 4, 2) := by decide +kernel
theorem dX3_turns_10 : decode cX3_turns 10 = .ok (.iconst 0, 1) := by decide +kernel
theorem dX3_turns_11 : decode cX3_turns 11 = .ok (.istore 5, 2) := by decide +kernel
theorem dX3_turns_13 : decode cX3_turns 13 = .ok (.iload 5, 2) := by decide +kernel
theorem dX3_turns_15 : decode cX3_turns 15 = .ok (.iload_n 2, 1) := by decide +kernel
theorem dX3_turns_16 : decode cX3_turns 16 = .ok (.if_icmp .ge 36, 3) := by decide +kernel
theorem dX3_turns_19 : decode cX3_turns 19 = .ok (.iload 4, 2) := by decide +kernel
theorem dX3_turns_21 : decode cX3_turns 21 = .ok (.ifCond .eq 22, 3) := by decide +kernel
theorem dX3_turns_24 : decode cX3_turns 24 = .ok (.aload_n 0, 1) := by decide +kernel
theorem dX3_turns_25 : decode cX3_turns 25 = .ok (.iload 5, 2) := by decide +kernel
theorem dX3_turns_27 : decode cX3_turns 27 = .ok (.iload_n 3, 1) := by decide +kernel
theorem dX3_turns_28 : decode cX3_turns 28 = .ok (.iadd, 1) := by decide +kernel
theorem dX3_turns_29 : decode cX3_turns 29 = .ok (.iload_n 2, 1) := by decide +kernel
theorem dX3_turns_30 : decode cX3_turns 30 = .ok (.irem, 1) := by decide +kernel
theorem dX3_turns_31 : decode cX3_turns 31 = .ok (.iaload, 1) := by decide +kernel
theorem dX3_turns_32 : decode cX3_turns 32 = .ok (.aload_n 1, 1) := by decide +kernel
theorem dX3_turns_33 : decode cX3_turns 33 = .ok (.iload 5, 2) := by decide +kernel
theorem dX3_turns_35 : decode cX3_turns 35 = .ok (.iaload, 1) := by decide +kernel
theorem dX3_turns_36 : decode cX3_turns 36 = .ok (.if_icmp .ne 7, 3) := by decide +kernel
theorem dX3_turns_39 : decode cX3_turns 39 = .ok (.iconst 1, 1) := by decide +kernel
theorem dX3_turns_40 : decode cX3_turns 40 = .ok (.goto 4, 3) := by decide +kernel
theorem dX3_turns_43 : decode cX3_turns 43 = .ok (.iconst 0, 1) := by decide +kernel
theorem dX3_turns_44 : decode cX3_turns 44 = .ok (.istore 4, 2) := by decide +kernel
theorem dX3_turns_46 : decode cX3_turns 46 = .ok (.iinc 5 1, 3) := by decide +kernel
theorem dX3_turns_49 : decode cX3_turns 49 = .ok (.goto (-36), 3) := by decide +kernel
theorem dX3_turns_52 : decode cX3_turns 52 = .ok (.iload 4, 2) := by decide +kernel
theorem dX3_turns_54 : decode cX3_turns 54 = .ok (.ifCond .eq 5, 3) := by decide +kernel
theorem dX3_turns_57 : decode cX3_turns 57 = .ok (.iload_n 3, 1) := by decide +kernel
theorem dX3_turns_58 : decode cX3_turns 58 = .ok (.ireturn, 1) := by decide +kernel
theorem dX3_turns_59 : decode cX3_turns 59 = .ok (.iinc 3 1, 3) := by decide +kernel
theorem dX3_turns_62 : decode cX3_turns 62 = .ok (.goto (-60), 3) := by decide +kernel
theorem dX3_turns_65 : decode cX3_turns 65 = .ok (.bipush (-2), 2) := by decide +kernel
theorem dX3_turns_67 : decode cX3_turns 67 = .ok (.ireturn, 1) := by decide +kernel
set_option maxHeartbeats 4000000 in
set_option maxRecDepth 100000 in
theorem S_X3_turns_H8_H8 {l : Launch} {D : va_G} {ids : List Nat} {ad : Nat → Nat} {ca : Nat → ClassId} {σ : HS} {x3 : Int32} {h1 : Nat} {h2 : Nat} (hid : ∀ i, i < 277 → i ∈ ids) (hG : GIc σ) (hx3 : 0 ≤ x3.toInt ∧ x3.toInt ≤ 8) (hk1 : kd h1 = 20) (hm1 : h1 ∈ ids) (hn1 : al h1 = 8) (hb1 : ∀ j : Nat, 0 ≤ (σ.1 h1 j).toInt ∧ (σ.1 h1 j).toInt ≤ 9999) (hk2 : kd h2 = 20) (hm2 : h2 ∈ ids) (hn2 : al h2 = 8) (hb2 : ∀ j : Nat, 0 ≤ (σ.1 h2 j).toInt ∧ (σ.1 h2 j).toInt ≤ 9999) : Ki l D ids ad ca yX3_turns cX3_turns 6 .int 0 0 [.ref (ad h1), .ref (ad h2), .int x3] σ (fun r σ1 => (σ1 = σ)) := by
  refine Ki.of (by decide) (Nat.le_of_ble_eq_true rfl) 3 (fun Γ C Rt => ?_)
  show AW ids ad ca Γ 0 [some (.ref (ad h1)), some (.ref (ad h2)), some (.int x3), none, none, none] [] σ
  have j2 : ∀ (d : Nat) (y2_3 : Int32), 8 - y2_3.toInt < d → 0 ≤ y2_3.toInt ∧ y2_3.toInt ≤ 8 → AW ids ad ca Γ 2 [some (.ref (ad h1)), some (.ref (ad h2)), some (.int x3), some (.int y2_3), none, none] [] σ := by
    intro d
    induction d with
    | zero =>
      intro y2_3 hd hx2_0
      exfalso
      omega
    | succ d ih =>
      intro y2_3 hd hx2_0
      have j13 : ∀ (d : Nat) (y13_3 : Int32) (y13_4 : Int32) (y13_5 : Int32), 8 - y13_5.toInt < d → 0 ≤ y13_3.toInt ∧ y13_3.toInt ≤ 7 → 0 ≤ y13_4.toInt ∧ y13_4.toInt ≤ 1 → 0 ≤ y13_5.toInt ∧ y13_5.toInt ≤ 8 → 1 ≤ x3.toInt ∧ x3.toInt ≤ 8 → AW ids ad ca Γ 13 [some (.ref (ad h1)), some (.ref (ad h2)), some (.int x3), some (.int y13_3), some (.int y13_4), some (.int y13_5)] [] σ := by
        intro d
        induction d with
        | zero =>
          intro y13_3 y13_4 y13_5 hd hx13_0 hx13_1 hx13_2 hx13_3
          exfalso
          omega
        | succ d ih =>
          intro y13_3 y13_4 y13_5 hd hx13_0 hx13_1 hx13_2 hx13_3
          have j44 : ∀ (y44_3 : Int32) (y44_5 : Int32) (u44_0 : Int32), 0 ≤ y44_3.toInt ∧ y44_3.toInt ≤ 7 → 0 ≤ y44_5.toInt ∧ y44_5.toInt ≤ 7 → 0 ≤ u44_0.toInt ∧ u44_0.toInt ≤ 1 → 1 ≤ x3.toInt ∧ x3.toInt ≤ 8 → AW ids ad ca Γ 44 [some (.ref (ad h1)), some (.ref (ad h2)), some (.int x3), some (.int y44_3), none, some (.int y44_5)] [.int u44_0] σ := by
            intro y44_3 y44_5 u44_0 hx44_0 hx44_1 hx44_2 hx44_3
            refine a_istore C dX3_turns_44 (by decide) rfl (vs1 := [some (.ref (ad h1)), some (.ref (ad h2)), some (.int x3), some (.int y44_3), some (.int u44_0), some (.int y44_5)]) rfl ?_
            refine s_iinc C dX3_turns_46 rfl (1) (by decide) (by omega) (by decide) rfl (fun z1 h2 => ?_)
            show AW ids ad ca Γ 49 [some (.ref (ad h1)), some (.ref (ad h2)), some (.int x3), some (.int y44_3), some (.int u44_0), some (.int z1)] _ _
            refine a_goto C dX3_turns_49 (tgt := 13) rfl ?_
            exact ih y44_3 u44_0 z1 (by omega) (by omega) (by omega) (by omega) (by omega)
          have j43 : ∀ (y43_3 : Int32) (y43_5 : Int32), 0 ≤ y43_3.toInt ∧ y43_3.toInt ≤ 7 → 0 ≤ y43_5.toInt ∧ y43_5.toInt ≤ 7 → 1 ≤ x3.toInt ∧ x3.toInt ≤ 8 → AW ids ad ca Γ 43 [some (.ref (ad h1)), some (.ref (ad h2)), some (.int x3), some (.int y43_3), none, some (.int y43_5)] [] σ := by
            intro y43_3 y43_5 hx43_0 hx43_1 hx43_2
            refine s_iconst C dX3_turns_43 (0) (by decide) (fun z3 h4 => ?_)
            exact j44 y43_3 y43_5 z3 (by omega) (by omega) (by omega) (by omega)
          refine a_iload C dX3_turns_13 rfl ?_
          refine a_iload_n C dX3_turns_15 (i := 2) rfl rfl ?_
          refine s_ic_ge C dX3_turns_16 (tgt := 52) rfl (fun c5 => ?_) (fun c5 => ?_)
          ·
            refine a_iload C dX3_turns_52 rfl ?_
            refine s_if_eq C dX3_turns_54 (tgt := 59) rfl (fun c6 => ?_) (fun c6 => ?_)
            ·
              refine s_iinc C dX3_turns_59 rfl (1) (by decide) (by omega) (by decide) rfl (fun z7 h8 => ?_)
              show AW ids ad ca Γ 62 [some (.ref (ad h1)), some (.ref (ad h2)), some (.int x3), some (.int z7), some (.int y13_4), some (.int y13_5)] _ _
              refine a_goto C dX3_turns_62 (tgt := 2) rfl ?_
              refine AW.sub (vs' := [some (.ref (ad h1)), some (.ref (ad h2)), some (.int x3), some (.int z7), none, none]) (lsub_of (by simp [lsubB])) ?_
              exact ih z7 (by omega) (by omega)
            ·
              refine a_iload_n C dX3_turns_57 (i := 3) rfl rfl ?_
              exact a_iret Rt dX3_turns_58 rfl (rfl)
          ·
            refine a_iload C dX3_turns_19 rfl ?_
            refine s_if_eq C dX3_turns_21 (tgt := 43) rfl (fun c9 => ?_) (fun c9 => ?_)
            ·
              refine AW.sub (vs' := [some (.ref (ad h1)), some (.ref (ad h2)), some (.int x3), some (.int y13_3), none, some (.int y13_5)]) (lsub_of (by simp [lsubB])) ?_
              exact j43 y13_3 y13_5 (by omega) (by omega) (by omega)
            ·
              refine a_aload_n C dX3_turns_24 (i := 0) rfl rfl ?_
              refine a_iload C dX3_turns_25 rfl ?_
              refine a_iload_n C dX3_turns_27 (i := 3) rfl rfl ?_
              refine s_iadd C dX3_turns_28 (by omega) (fun z10 h11 => ?_)
              refine a_iload_n C dX3_turns_29 (i := 2) rfl rfl ?_
              refine s_irem C dX3_turns_30 (by omega) (by omega) (fun z12 h13 => ?_)
              refine s_iald C (i := h1) hk1 hm1 hn1 (by omega) (by omega) dX3_turns_31 (fun n14 h15 => ?_)
              refine s_val (fun z16 e17 => ?_)
              have g18 := hb1 n14
              rw [e17] at g18
              refine a_aload_n C dX3_turns_32 (i := 1) rfl rfl ?_
              refine a_iload C dX3_turns_33 rfl ?_
              refine s_iald C (i := h2) hk2 hm2 hn2 (by omega) (by omega) dX3_turns_35 (fun n19 h20 => ?_)
              refine s_val (fun z21 e22 => ?_)
              have g23 := hb2 n19
              rw [e22] at g23
              refine s_ic_ne C dX3_turns_36 (tgt := 43) rfl (fun c24 => ?_) (fun c24 => ?_)
              ·
                refine AW.sub (vs' := [some (.ref (ad h1)), some (.ref (ad h2)), some (.int x3), some (.int y13_3), none, some (.int y13_5)]) (lsub_of (by simp [lsubB])) ?_
                exact j43 y13_3 y13_5 (by omega) (by omega) (by omega)
              ·
                refine s_iconst C dX3_turns_39 (1) (by decide) (fun z25 h26 => ?_)
                refine a_goto C dX3_turns_40 (tgt := 44) rfl ?_
                refine AW.sub (vs' := [some (.ref (ad h1)), some (.ref (ad h2)), some (.int x3), some (.int y13_3), none, some (.int y13_5)]) (lsub_of (by simp [lsubB])) ?_
                exact j44 y13_3 y13_5 z25 (by omega) (by omega) (by omega) (by omega)
      refine a_iload_n C dX3_turns_2 (i := 3) rfl rfl ?_
      refine a_iload_n C dX3_turns_3 (i := 2) rfl rfl ?_
      refine s_ic_ge C dX3_turns_4 (tgt := 65) rfl (fun c27 => ?_) (fun c27 => ?_)
      ·
        refine s_bipush C dX3_turns_65 (-2) (by decide) (fun z28 h29 => ?_)
        exact a_iret Rt dX3_turns_67 rfl (rfl)
      ·
        refine s_iconst C dX3_turns_7 (1) (by decide) (fun z30 h31 => ?_)
        refine a_istore C dX3_turns_8 (by decide) rfl (vs1 := [some (.ref (ad h1)), some (.ref (ad h2)), some (.int x3), some (.int y2_3), some (.int z30), none]) rfl ?_
        refine s_iconst C dX3_turns_10 (0) (by decide) (fun z32 h33 => ?_)
        refine a_istore C dX3_turns_11 (by decide) rfl (vs1 := [some (.ref (ad h1)), some (.ref (ad h2)), some (.int x3), some (.int y2_3), some (.int z30), some (.int z32)]) rfl ?_
        exact j13 100000 y2_3 z30 z32 (by omega) (by omega) (by omega) (by omega) (by omega)
  refine s_iconst C dX3_turns_0 (0) (by decide) (fun z34 h35 => ?_)
  refine a_istore_n C dX3_turns_1 (i := 3) rfl (by decide) rfl (vs1 := [some (.ref (ad h1)), some (.ref (ad h2)), some (.int x3), some (.int z34), none, none]) rfl ?_
  exact j2 100000 z34 (by omega) (by omega)
theorem dX4_stir_0 : decode cX4_stir 0 = .ok (.iload_n 0, 1) := by decide +kernel
theorem dX4_stir_1 : decode cX4_stir 1 = .ok (.iload_n 1, 1) := by decide +kernel
theorem dX4_stir_2 : decode cX4_stir 2 = .ok (.ixor, 1) := by decide +kernel
theorem dX4_stir_3 : decode cX4_stir 3 = .ok (.ldc 129, 2) := by decide +kernel
theorem dX4_stir_5 : decode cX4_stir 5 = .ok (.imul, 1) := by decide +kernel
theorem dX4_stir_6 : decode cX4_stir 6 = .ok (.sipush 12345, 3) := by decide +kernel
theorem dX4_stir_9 : decode cX4_stir 9 = .ok (.iadd, 1) := by decide +kernel
theorem dX4_stir_10 : decode cX4_stir 10 = .ok (.istore_n 2, 1) := by decide +kernel
theorem dX4_stir_11 : decode cX4_stir 11 = .ok (.iload_n 2, 1) := by decide +kernel
theorem dX4_stir_12 : decode cX4_stir 12 = .ok (.iload_n 2, 1) := by decide +kernel
theorem dX4_stir_13 : decode cX4_stir 13 = .ok (.bipush 15, 2) := by decide +kernel
theorem dX4_stir_15 : decode cX4_stir 15 = .ok (.iushr, 1) := by decide +kernel
theorem dX4_stir_16 : decode cX4_stir 16 = .ok (.ixor, 1) := by decide +kernel
theorem dX4_stir_17 : decode cX4_stir 17 = .ok (.ireturn, 1) := by decide +kernel
set_option maxHeartbeats 4000000 in
set_option maxRecDepth 100000 in
theorem S_X4_stir {l : Launch} {D : va_G} {ids : List Nat} {ad : Nat → Nat} {ca : Nat → ClassId} {σ : HS} {x1 : Int32} {x2 : Int32} (hid : ∀ i, i < 277 → i ∈ ids) (hG : GIc σ) : Ki l D ids ad ca yX4_stir cX4_stir 3 .int 0 0 [.int x1, .int x2] σ (fun r σ1 => (σ1 = σ)) := by
  refine Ki.of (by decide) (Nat.le_of_ble_eq_true rfl) 1 (fun Γ C Rt => ?_)
  show AW ids ad ca Γ 0 [some (.int x1), some (.int x2), none] [] σ
  refine a_iload_n C dX4_stir_0 (i := 0) rfl rfl ?_
  refine a_iload_n C dX4_stir_1 (i := 1) rfl rfl ?_
  refine s_ixorU C dX4_stir_2 (fun z1 => ?_)
  refine s_ldc C dX4_stir_3 ko_RX4_129 (1103515245) (by decide) (fun z3 h4 => ?_)
  refine s_imulU C dX4_stir_5 (fun z5 => ?_)
  refine s_sipush C dX4_stir_6 (12345) (by decide) (fun z7 h8 => ?_)
  refine s_iaddU C dX4_stir_9 (fun z9 => ?_)
  refine a_istore_n C dX4_stir_10 (i := 2) rfl (by decide) rfl (vs1 := [some (.int x1), some (.int x2), some (.int z9)]) rfl ?_
  refine a_iload_n C dX4_stir_11 (i := 2) rfl rfl ?_
  refine a_iload_n C dX4_stir_12 (i := 2) rfl rfl ?_
  refine s_bipush C dX4_stir_13 (15) (by decide) (fun z11 h12 => ?_)
  refine s_iushrU C dX4_stir_15 (fun z13 => ?_)
  refine s_ixorU C dX4_stir_16 (fun z15 => ?_)
  exact a_iret Rt dX4_stir_17 rfl (rfl)
theorem dX4_lot_0 : decode cX4_lot 0 = .ok (.iload_n 1, 1) := by decide +kernel
theorem dX4_lot_1 : decode cX4_lot 1 = .ok (.bipush 125, 2) := by decide +kernel
theorem dX4_lot_3 : decode cX4_lot 3 = .ok (.invokestatic 126, 3) := by decide +kernel
theorem dX4_lot_6 : decode cX4_lot 6 = .ok (.iload_n 2, 1) := by decide +kernel
theorem dX4_lot_7 : decode cX4_lot 7 = .ok (.invokestatic 126, 3) := by decide +kernel
theorem dX4_lot_10 : decode cX4_lot 10 = .ok (.istore_n 3, 1) := by decide +kernel
theorem dX4_lot_11 : decode cX4_lot 11 = .ok (.iload_n 0, 1) := by decide +kernel
theorem dX4_lot_12 : decode cX4_lot 12 = .ok (.iconst 1, 1) := by decide +kernel
theorem dX4_lot_13 : decode cX4_lot 13 = .ok (.if_icmp .ge 7, 3) := by decide +kernel
theorem dX4_lot_16 : decode cX4_lot 16 = .ok (.iconst 0, 1) := by decide +kernel
theorem dX4_lot_17 : decode cX4_lot 17 = .ok (.goto 8, 3) := by decide +kernel
theorem dX4_lot_20 : decode cX4_lot 20 = .ok (.iload_n 3, 1) := by decide +kernel
theorem dX4_lot_21 : decode cX4_lot 21 = .ok (.iconst 1, 1) := by decide +kernel
theorem dX4_lot_22 : decode cX4_lot 22 = .ok (.iushr, 1) := by decide +kernel
theorem dX4_lot_23 : decode cX4_lot 23 = .ok (.iload_n 0, 1) := by decide +kernel
theorem dX4_lot_24 : decode cX4_lot 24 = .ok (.irem, 1) := by decide +kernel
theorem dX4_lot_25 : decode cX4_lot 25 = .ok (.ireturn, 1) := by decide +kernel
set_option maxHeartbeats 4000000 in
set_option maxRecDepth 100000 in
theorem S_X4_lot {l : Launch} {D : va_G} {ids : List Nat} {ad : Nat → Nat} {ca : Nat → ClassId} {σ : HS} {x1 : Int32} {x2 : Int32} {x3 : Int32} (hid : ∀ i, i < 277 → i ∈ ids) (hG : GIc σ) : Ki l D ids ad ca yX4_lot cX4_lot 4 .int 1 22 [.int x1, .int x2, .int x3] σ (fun r σ1 => (σ1 = σ)) := by
  refine Ki.of (by decide) (Nat.le_of_ble_eq_true rfl) 1 (fun Γ C Rt => ?_)
  show AW ids ad ca Γ 0 [some (.int x1), some (.int x2), some (.int x3), none] [] σ
  refine a_iload_n C dX4_lot_0 (i := 1) rfl rfl ?_
  refine s_bipush C dX4_lot_1 (125) (by decide) (fun z1 h2 => ?_)
  refine a_callSi C (S_X4_stir (x1 := x2) (x2 := z1) hid hG) ms_X4_stir ml_RX4_126 rfl rfl (Nat.le_of_ble_eq_true rfl) (Nat.le_of_ble_eq_true rfl) (Nat.le_of_ble_eq_true rfl) dX4_lot_3 (fun z3 σ4 q5 => ?_)
  rw [q5]
  refine a_iload_n C dX4_lot_6 (i := 2) rfl rfl ?_
  refine a_callSi C (S_X4_stir (x1 := z3) (x2 := x3) hid hG) ms_X4_stir ml_RX4_126 rfl rfl (Nat.le_of_ble_eq_true rfl) (Nat.le_of_ble_eq_true rfl) (Nat.le_of_ble_eq_true rfl) dX4_lot_7 (fun z6 σ7 q8 => ?_)
  rw [q8]
  refine a_istore_n C dX4_lot_10 (i := 3) rfl (by decide) rfl (vs1 := [some (.int x1), some (.int x2), some (.int x3), some (.int z6)]) rfl ?_
  refine a_iload_n C dX4_lot_11 (i := 0) rfl rfl ?_
  refine s_iconst C dX4_lot_12 (1) (by decide) (fun z9 h10 => ?_)
  refine s_ic_ge C dX4_lot_13 (tgt := 20) rfl (fun c11 => ?_) (fun c11 => ?_)
  ·
    refine a_iload_n C dX4_lot_20 (i := 3) rfl rfl ?_
    refine s_iconst C dX4_lot_21 (1) (by decide) (fun z12 h13 => ?_)
    refine s_iushrU C dX4_lot_22 (fun z14 => ?_)
    refine a_iload_n C dX4_lot_23 (i := 0) rfl rfl ?_
    refine s_iremU C dX4_lot_24 (by omega) (fun z16 => ?_)
    exact a_iret Rt dX4_lot_25 rfl (rfl)
  ·
    refine s_iconst C dX4_lot_16 (0) (by decide) (fun z18 h19 => ?_)
    refine a_goto C dX4_lot_17 (tgt := 25) rfl ?_
    exact a_iret Rt dX4_lot_25 rfl (rfl)
set_option maxHeartbeats 4000000 in
set_option maxRecDepth 100000 in
theorem S_X5_clear_12 {l : Launch} {D : va_G} {ids : List Nat} {ad : Nat → Nat} {ca : Nat → ClassId} {σ : HS} (hid : ∀ i, i < 277 → i ∈ ids) (hG : GIc σ) : Kv l D ids ad ca yX5_clear cX5_clear 1 0 0 [.ref (ad 12)] σ (fun σ1 => (GIc σ1) ∧ (only [12] σ σ1)) := by
  refine Kv.of (by decide) (Nat.le_of_ble_eq_true rfl) 0 (fun Γ C Rt => ?_)
  show AW ids ad ca Γ 0 [some (.ref (ad 12))] [] σ
  refine a_aload_n C dX5_clear_0 (i := 0) rfl rfl ?_
  refine s_iconst C dX5_clear_1 (0) (by decide) (fun z1 h2 => ?_)
  refine a_put C fp_RX5_18 (i := 12) kd_12 (hid 12 (by decide)) rfl rfl dX5_clear_2 ?_
  have hG3 := wF_12_2 (v := z1) hG (by omega) (by omega)
  exact a_vret Rt dX5_clear_5 (⟨hG3, (only.I only.rf (by decide))⟩)
set_option maxHeartbeats 4000000 in
set_option maxRecDepth 100000 in
theorem S_X5_keep_12_56 {l : Launch} {D : va_G} {ids : List Nat} {ad : Nat → Nat} {ca : Nat → ClassId} {σ : HS} (hid : ∀ i, i < 277 → i ∈ ids) (hG : GIc σ) : Kv l D ids ad ca yX5_keep cX5_keep 2 2 81 [.ref (ad 12), .ref (ad 56)] σ (fun σ1 => (GIc σ1) ∧ (only ([12] ++ ringN 160) σ σ1)) := by
  refine Kv.of (by decide) (Nat.le_of_ble_eq_true rfl) 0 (fun Γ C Rt => ?_)
  show AW ids ad ca Γ 0 [some (.ref (ad 12)), some (.ref (ad 56))] [] σ
  refine a_aload_n C dX5_keep_0 (i := 0) rfl rfl ?_
  refine a_get C fl_RX5_11 (i := 12) kd_12 (hid 12 (by decide)) (v := .ref (ad 13)) rfl dX5_keep_1 ?_
  refine a_aload_n C dX5_keep_4 (i := 0) rfl rfl ?_
  have g1 := bF_12_1 hG
  refine a_get C fl_RX5_22 (i := 12) kd_12 (hid 12 (by decide)) (v := .int (σ.1 12 1)) rfl dX5_keep_5 ?_
  refine s_aaldR C (hid 13 (by decide)) (by omega) (by omega) dX5_keep_8 (fun n2 h3 h4 => ?_)
  refine a_aload_n C dX5_keep_9 (i := 1) rfl rfl ?_
  refine a_callVv C (i := (76 + 4 * n2)) (n0 := 0) (by rw [show 76 + 4 * n2 = 56 + 4 * (n2 + 5) by omega]; exact (kdA (n2 + 5) (by omega)).1.1) (hid _ (by omega)) ⟨_, _, rfl⟩ (by decide) (S_copy 0 (n2 + 5) rfl (by omega) (by decide) (by omega) hid hG) mi_X0_copy ml_RX5_25 rfl rfl (Nat.le_of_ble_eq_true rfl) (Nat.le_of_ble_eq_true rfl) (Nat.le_of_ble_eq_true rfl) dX5_keep_10 (fun σ5 q6 => ?_)
  obtain ⟨hG7, ho8⟩ := q6
  have ho8 := only.mono ho8 (ring_mem h4)
  refine a_aload_n C dX5_keep_13 (i := 0) rfl rfl ?_
  refine a_aload_n C dX5_keep_14 (i := 0) rfl rfl ?_
  have g9 := bF_12_1 hG7
  refine a_get C fl_RX5_22 (i := 12) kd_12 (hid 12 (by decide)) (v := .int (σ5.1 12 1)) rfl dX5_keep_15 ?_
  refine s_iconst C dX5_keep_18 (1) (by decide) (fun z10 h11 => ?_)
  refine s_iadd C dX5_keep_19 (by omega) (fun z12 h13 => ?_)
  refine s_bipush C dX5_keep_20 (40) (by decide) (fun z14 h15 => ?_)
  refine s_iremc C dX5_keep_22 (40) (by omega) (by omega) (by decide) (fun z16 h17 => ?_)
  refine a_put C fp_RX5_22 (i := 12) kd_12 (hid 12 (by decide)) rfl rfl dX5_keep_23 ?_
  have hG18 := wF_12_1 (v := z16) hG7 (by omega) (by omega)
  refine a_aload_n C dX5_keep_26 (i := 0) rfl rfl ?_
  refine s_bipush C dX5_keep_27 (40) (by decide) (fun z19 h20 => ?_)
  refine a_aload_n C dX5_keep_29 (i := 0) rfl rfl ?_
  have g21 := bF_12_2 hG7
  refine a_get C fl_RX5_18 (i := 12) kd_12 (hid 12 (by decide)) (v := .int (σ5.1 12 2)) rfl dX5_keep_30 ?_
  refine s_iconst C dX5_keep_33 (1) (by decide) (fun z22 h23 => ?_)
  refine s_iadd C dX5_keep_34 (by omega) (fun z24 h25 => ?_)
  refine s_mmin C dX5_keep_35 mm_RX5_29 mm_min.1 mm_min.2.1 mm_min.2.2 (Nat.le_of_ble_eq_true rfl) (Nat.le_of_ble_eq_true rfl) (fun z26 h27 => ?_)
  refine a_put C fp_RX5_18 (i := 12) kd_12 (hid 12 (by decide)) rfl rfl dX5_keep_38 ?_
  have hG28 := wF_12_2 (v := z26) hG18 (by omega) (by omega)
  exact a_vret Rt dX5_keep_41 (⟨hG28, (only.I (only.I (only.tr only.rf (only.mono ho8 mono_r)) (by decide)) (by decide))⟩)
theorem dX5_giveBack_9 : decode cX5_giveBack 9 = .ok (.aload_n 0, 1) := by decide +kernel
theorem dX5_giveBack_10 : decode cX5_giveBack 10 = .ok (.aload_n 0, 1) := by decide +kernel
theorem dX5_giveBack_11 : decode cX5_giveBack 11 = .ok (.getfield 22, 3) := by decide +kernel
theorem dX5_giveBack_14 : decode cX5_giveBack 14 = .ok (.bipush 40, 2) := by decide +kernel
theorem dX5_giveBack_16 : decode cX5_giveBack 16 = .ok (.iadd, 1) := by decide +kernel
theorem dX5_giveBack_17 : decode cX5_giveBack 17 = .ok (.iconst 1, 1) := by decide +kernel
theorem dX5_giveBack_18 : decode cX5_giveBack 18 = .ok (.isub, 1) := by decide +kernel
theorem dX5_giveBack_19 : decode cX5_giveBack 19 = .ok (.bipush 40, 2) := by decide +kernel
theorem dX5_giveBack_21 : decode cX5_giveBack 21 = .ok (.irem, 1) := by decide +kernel
theorem dX5_giveBack_22 : decode cX5_giveBack 22 = .ok (.putfield 22, 3) := by decide +kernel
theorem dX5_giveBack_25 : decode cX5_giveBack 25 = .ok (.aload_n 1, 1) := by decide +kernel
theorem dX5_giveBack_26 : decode cX5_giveBack 26 = .ok (.aload_n 0, 1) := by decide +kernel
theorem dX5_giveBack_27 : decode cX5_giveBack 27 = .ok (.getfield 11, 3) := by decide +kernel
theorem dX5_giveBack_30 : decode cX5_giveBack 30 = .ok (.aload_n 0, 1) := by decide +kernel
theorem dX5_giveBack_31 : decode cX5_giveBack 31 = .ok (.getfield 22, 3) := by decide +kernel
theorem dX5_giveBack_34 : decode cX5_giveBack 34 = .ok (.aaload, 1) := by decide +kernel
theorem dX5_giveBack_35 : decode cX5_giveBack 35 = .ok (.invokevirtual 25, 3) := by decide +kernel
theorem dX5_giveBack_38 : decode cX5_giveBack 38 = .ok (.aload_n 0, 1) := by decide +kernel
theorem dX5_giveBack_39 : decode cX5_giveBack 39 = .ok (.dup, 1) := by decide +kernel
theorem dX5_giveBack_40 : decode cX5_giveBack 40 = .ok (.getfield 18, 3) := by decide +kernel
theorem dX5_giveBack_43 : decode cX5_giveBack 43 = .ok (.iconst 1, 1) := by decide +kernel
theorem dX5_giveBack_44 : decode cX5_giveBack 44 = .ok (.isub, 1) := by decide +kernel
theorem dX5_giveBack_45 : decode cX5_giveBack 45 = .ok (.putfield 18, 3) := by decide +kernel
theorem dX5_giveBack_48 : decode cX5_giveBack 48 = .ok (.iconst 1, 1) := by decide +kernel
theorem dX5_giveBack_49 : decode cX5_giveBack 49 = .ok (.ireturn, 1) := by decide +kernel
set_option maxHeartbeats 4000000 in
set_option maxRecDepth 100000 in
theorem S_X5_giveBack_12_56 {l : Launch} {D : va_G} {ids : List Nat} {ad : Nat → Nat} {ca : Nat → ClassId} {σ : HS} (hid : ∀ i, i < 277 → i ∈ ids) (hG : GIc σ) : Ki l D ids ad ca yX5_giveBack cX5_giveBack 2 .boolean 2 81 [.ref (ad 12), .ref (ad 56)] σ (fun r σ1 => (GIc σ1) ∧ (only [12, 56, 57, 58, 59] σ σ1) ∧ (0 ≤ r.toInt ∧ r.toInt ≤ 1)) := by
  refine Ki.of (by decide) (Nat.le_of_ble_eq_true rfl) 0 (fun Γ C Rt => ?_)
  show AW ids ad ca Γ 0 [some (.ref (ad 12)), some (.ref (ad 56))] [] σ
  refine a_aload_n C dX5_giveBack_0 (i := 0) rfl rfl ?_
  have g1 := bF_12_2 hG
  refine a_get C fl_RX5_18 (i := 12) kd_12 (hid 12 (by decide)) (v := .int (σ.1 12 2)) rfl dX5_giveBack_1 ?_
  refine s_if_ne C dX5_giveBack_4 (tgt := 9) rfl (fun c2 => ?_) (fun c2 => ?_)
  ·
    refine a_aload_n C dX5_giveBack_9 (i := 0) rfl rfl ?_
    refine a_aload_n C dX5_giveBack_10 (i := 0) rfl rfl ?_
    have g3 := bF_12_1 hG
    refine a_get C fl_RX5_22 (i := 12) kd_12 (hid 12 (by decide)) (v := .int (σ.1 12 1)) rfl dX5_giveBack_11 ?_
    refine s_bipush C dX5_giveBack_14 (40) (by decide) (fun z4 h5 => ?_)
    refine s_iadd C dX5_giveBack_16 (by omega) (fun z6 h7 => ?_)
    refine s_iconst C dX5_giveBack_17 (1) (by decide) (fun z8 h9 => ?_)
    refine s_isub C dX5_giveBack_18 (by omega) (fun z10 h11 => ?_)
    refine s_bipush C dX5_giveBack_19 (40) (by decide) (fun z12 h13 => ?_)
    refine s_iremc C dX5_giveBack_21 (40) (by omega) (by omega) (by decide) (fun z14 h15 => ?_)
    refine a_put C fp_RX5_22 (i := 12) kd_12 (hid 12 (by decide)) rfl rfl dX5_giveBack_22 ?_
    have hG16 := wF_12_1 (v := z14) hG (by omega) (by omega)
    refine a_aload_n C dX5_giveBack_25 (i := 1) rfl rfl ?_
    refine a_aload_n C dX5_giveBack_26 (i := 0) rfl rfl ?_
    refine a_get C fl_RX5_11 (i := 12) kd_12 (hid 12 (by decide)) (v := .ref (ad 13)) rfl dX5_giveBack_27 ?_
    refine a_aload_n C dX5_giveBack_30 (i := 0) rfl rfl ?_
    refine a_get C fl_RX5_22 (i := 12) kd_12 (hid 12 (by decide)) (v := .int z14) rfl dX5_giveBack_31 ?_
    refine s_aaldR C (hid 13 (by decide)) (by omega) (by omega) dX5_giveBack_34 (fun n17 h18 h19 => ?_)
    refine a_callVv C (i := 56) (n0 := 0) kd_56 (hid 56 (by decide)) ⟨_, _, rfl⟩ (by decide) (S_copy (n17 + 5) 0 (by omega) rfl (by omega) (by decide) hid hG16) mi_X0_copy ml_RX5_25 rfl rfl (Nat.le_of_ble_eq_true rfl) (Nat.le_of_ble_eq_true rfl) (Nat.le_of_ble_eq_true rfl) dX5_giveBack_35 (fun σ20 q21 => ?_)
    obtain ⟨hG22, ho23⟩ := q21
    refine a_aload_n C dX5_giveBack_38 (i := 0) rfl rfl ?_
    refine a_dup C dX5_giveBack_39 rfl ?_
    have g24 := bF_12_2 hG22
    refine a_get C fl_RX5_18 (i := 12) kd_12 (hid 12 (by decide)) (v := .int (σ20.1 12 2)) rfl dX5_giveBack_40 ?_
    refine s_iconst C dX5_giveBack_43 (1) (by decide) (fun z25 h26 => ?_)
    refine s_isub C dX5_giveBack_44 (by omega) (fun z27 h28 => ?_)
    refine a_put C fp_RX5_18 (i := 12) kd_12 (hid 12 (by decide)) rfl rfl dX5_giveBack_45 ?_
    have hG29 := wF_12_2 (v := z27) hG22 (by omega) (by omega)
    refine s_iconst C dX5_giveBack_48 (1) (by decide) (fun z30 h31 => ?_)
    exact a_iret Rt dX5_giveBack_49 (nar_z (by omega)).1 (⟨hG29, (only.I (only.tr (only.I only.rf (by decide)) (only.mono ho23 (by decide))) (by decide)), (by intros; omega)⟩)
  ·
    refine s_iconst C dX5_giveBack_7 (0) (by decide) (fun z32 h33 => ?_)
    exact a_iret Rt dX5_giveBack_8 (nar_z (by omega)).1 (⟨hG, only.rf, (by intros; omega)⟩)
theorem dX4_asks_0 : decode cX4_asks 0 = .ok (.aload_n 0, 1) := by decide +kernel
theorem dX4_asks_1 : decode cX4_asks 1 = .ok (.getfield 12, 3) := by decide +kernel
theorem dX4_asks_4 : decode cX4_asks 4 = .ok (.getfield 107, 3) := by decide +kernel
theorem dX4_asks_7 : decode cX4_asks 7 = .ok (.iconst 2, 1) := by decide +kernel
theorem dX4_asks_8 : decode cX4_asks 8 = .ok (.iload_n 3, 1) := by decide +kernel
theorem dX4_asks_9 : decode cX4_asks 9 = .ok (.iastore, 1) := by decide +kernel
theorem dX4_asks_10 : decode cX4_asks 10 = .ok (.aload_n 0, 1) := by decide +kernel
theorem dX4_asks_11 : decode cX4_asks 11 = .ok (.getfield 12, 3) := by decide +kernel
theorem dX4_asks_14 : decode cX4_asks 14 = .ok (.aload_n 1, 1) := by decide +kernel
theorem dX4_asks_15 : decode cX4_asks 15 = .ok (.getfield 116, 3) := by decide +kernel
theorem dX4_asks_18 : decode cX4_asks 18 = .ok (.aload_n 1, 1) := by decide +kernel
theorem dX4_asks_19 : decode cX4_asks 19 = .ok (.getfield 119, 3) := by decide +kernel
theorem dX4_asks_22 : decode cX4_asks 22 = .ok (.iload_n 2, 1) := by decide +kernel
theorem dX4_asks_23 : decode cX4_asks 23 = .ok (.iaload, 1) := by decide +kernel
theorem dX4_asks_24 : decode cX4_asks 24 = .ok (.invokevirtual 122, 3) := by decide +kernel
theorem dX4_asks_27 : decode cX4_asks 27 = .ok (.istore 4, 2) := by decide +kernel
theorem dX4_asks_29 : decode cX4_asks 29 = .ok (.iload_n 2, 1) := by decide +kernel
theorem dX4_asks_30 : decode cX4_asks 30 = .ok (.lookupswitch 51 #[(1, 26), (2, 38)], 26) := by decide +kernel
theorem dX4_asks_56 : decode cX4_asks 56 = .ok (.iconst 0, 1) := by decide +kernel
theorem dX4_asks_57 : decode cX4_asks 57 = .ok (.bipush 100, 2) := by decide +kernel
theorem dX4_asks_59 : decode cX4_asks 59 = .ok (.iload 4, 2) := by decide +kernel
theorem dX4_asks_61 : decode cX4_asks 61 = .ok (.invokestatic 95, 3) := by decide +kernel
theorem dX4_asks_64 : decode cX4_asks 64 = .ok (.invokestatic 51, 3) := by decide +kernel
theorem dX4_asks_67 : decode cX4_asks 67 = .ok (.ireturn, 1) := by decide +kernel
theorem dX4_asks_68 : decode cX4_asks 68 = .ok (.bipush (-99), 2) := by decide +kernel
theorem dX4_asks_70 : decode cX4_asks 70 = .ok (.bipush 99, 2) := by decide +kernel
theorem dX4_asks_72 : decode cX4_asks 72 = .ok (.iload 4, 2) := by decide +kernel
theorem dX4_asks_74 : decode cX4_asks 74 = .ok (.invokestatic 95, 3) := by decide +kernel
theorem dX4_asks_77 : decode cX4_asks 77 = .ok (.invokestatic 51, 3) := by decide +kernel
theorem dX4_asks_80 : decode cX4_asks 80 = .ok (.ireturn, 1) := by decide +kernel
theorem dX4_asks_81 : decode cX4_asks 81 = .ok (.iconst 0, 1) := by decide +kernel
theorem dX4_asks_82 : decode cX4_asks 82 = .ok (.bipush 99, 2) := by decide +kernel
theorem dX4_asks_84 : decode cX4_asks 84 = .ok (.iload 4, 2) := by decide +kernel
theorem dX4_asks_86 : decode cX4_asks 86 = .ok (.invokestatic 95, 3) := by decide +kernel
theorem dX4_asks_89 : decode cX4_asks 89 = .ok (.invokestatic 51, 3) := by decide +kernel
theorem dX4_asks_92 : decode cX4_asks 92 = .ok (.ireturn, 1) := by decide +kernel
set_option maxHeartbeats 4000000 in
set_option maxRecDepth 100000 in
theorem S_X4_asks_8_30 {l : Launch} {D : va_G} {ids : List Nat} {ad : Nat → Nat} {ca : Nat → ClassId} {σ : HS} {x2 : Int32} {x3 : Int32} (hid : ∀ i, i < 277 → i ∈ ids) (hG : GIc σ) (hx2 : 0 ≤ x2.toInt ∧ x2.toInt ≤ 3) : Ki l D ids ad ca yX4_asks cX4_asks 5 .int 2 50 [.ref (ad 8), .ref (ad 30), .int x2, .int x3] σ (fun r σ1 => (GIc σ1) ∧ (only [9, 10, 11] σ σ1)) := by
  refine Ki.of (by decide) (Nat.le_of_ble_eq_true rfl) 1 (fun Γ C Rt => ?_)
  show AW ids ad ca Γ 0 [some (.ref (ad 8)), some (.ref (ad 30)), some (.int x2), some (.int x3), none] [] σ
  refine a_aload_n C dX4_asks_0 (i := 0) rfl rfl ?_
  refine a_get C fl_RX4_12 (i := 8) kd_8 (hid 8 (by decide)) (v := .ref (ad 9)) rfl dX4_asks_1 ?_
  refine a_get C fl_RX4_107 (i := 9) kd_9 (hid 9 (by decide)) (v := .ref (ad 10)) rfl dX4_asks_4 ?_
  refine s_iconst C dX4_asks_7 (2) (by decide) (fun z1 h2 => ?_)
  refine a_iload_n C dX4_asks_8 (i := 3) rfl rfl ?_
  refine s_iast C (i := 10) kd_10 (hid 10 (by decide)) al_10 (by omega) (by omega) dX4_asks_9 (fun n3 h4 => ?_)
  have hG5 := wA_10 (v := x3) (j := n3) hG
  refine a_aload_n C dX4_asks_10 (i := 0) rfl rfl ?_
  refine a_get C fl_RX4_12 (i := 8) kd_8 (hid 8 (by decide)) (v := .ref (ad 9)) rfl dX4_asks_11 ?_
  refine a_aload_n C dX4_asks_14 (i := 1) rfl rfl ?_
  refine a_get C fl_RX4_116 (i := 30) kd_30 (hid 30 (by decide)) (v := .ref (ad 41)) rfl dX4_asks_15 ?_
  refine a_aload_n C dX4_asks_18 (i := 1) rfl rfl ?_
  refine a_get C fl_RX4_119 (i := 30) kd_30 (hid 30 (by decide)) (v := .ref (ad 42)) rfl dX4_asks_19 ?_
  refine a_iload_n C dX4_asks_22 (i := 2) rfl rfl ?_
  refine s_iald C (i := 42) kd_42 (hid 42 (by decide)) al_42 (by omega) (by omega) dX4_asks_23 (fun n6 h7 => ?_)
  refine s_val (fun z8 e9 => ?_)
  refine a_callVi C (i := 9) kd_9 (hid 9 (by decide)) ⟨_, _, rfl⟩ (by decide) (S_X1_answer_9_41 (x2 := z8) hid hG5) mi_X1_answer ml_RX4_122 rfl rfl (Nat.le_of_ble_eq_true rfl) (Nat.le_of_ble_eq_true rfl) (Nat.le_of_ble_eq_true rfl) dX4_asks_24 (fun z10 σ11 q12 => ?_)
  obtain ⟨hG13, ho14⟩ := q12
  refine a_istore C dX4_asks_27 (by decide) rfl (vs1 := [some (.ref (ad 8)), some (.ref (ad 30)), some (.int x2), some (.int x3), some (.int z10)]) rfl ?_
  refine a_iload_n C dX4_asks_29 (i := 2) rfl rfl ?_
  by_cases hq15 : x2.toInt = 1
  ·
    refine a_lookup C dX4_asks_30 (by decide) (by rw [hq15]; rfl) (tgt := 56) rfl ?_
    refine s_iconst C dX4_asks_56 (0) (by decide) (fun z16 h17 => ?_)
    refine s_bipush C dX4_asks_57 (100) (by decide) (fun z18 h19 => ?_)
    refine a_iload C dX4_asks_59 rfl ?_
    refine s_mmin C dX4_asks_61 mm_RX4_95 mm_min.1 mm_min.2.1 mm_min.2.2 (Nat.le_of_ble_eq_true rfl) (Nat.le_of_ble_eq_true rfl) (fun z20 h21 => ?_)
    refine s_mmax C dX4_asks_64 mm_RX4_51 mm_max.1 mm_max.2.1 mm_max.2.2 (Nat.le_of_ble_eq_true rfl) (Nat.le_of_ble_eq_true rfl) (fun z22 h23 => ?_)
    exact a_iret Rt dX4_asks_67 rfl (⟨hG13, (only.tr (only.I only.rf (by decide)) (only.mono ho14 (by decide)))⟩)
  by_cases hq24 : x2.toInt = 2
  ·
    refine a_lookup C dX4_asks_30 (by decide) (by rw [hq24]; rfl) (tgt := 68) rfl ?_
    refine s_bipush C dX4_asks_68 (-99) (by decide) (fun z25 h26 => ?_)
    refine s_bipush C dX4_asks_70 (99) (by decide) (fun z27 h28 => ?_)
    refine a_iload C dX4_asks_72 rfl ?_
    refine s_mmin C dX4_asks_74 mm_RX4_95 mm_min.1 mm_min.2.1 mm_min.2.2 (Nat.le_of_ble_eq_true rfl) (Nat.le_of_ble_eq_true rfl) (fun z29 h30 => ?_)
    refine s_mmax C dX4_asks_77 mm_RX4_51 mm_max.1 mm_max.2.1 mm_max.2.2 (Nat.le_of_ble_eq_true rfl) (Nat.le_of_ble_eq_true rfl) (fun z31 h32 => ?_)
    exact a_iret Rt dX4_asks_80 rfl (⟨hG13, (only.tr (only.I only.rf (by decide)) (only.mono ho14 (by decide)))⟩)
  refine a_lookup C dX4_asks_30 (by decide) (off := 51) (by simp [Op.lookupswitch.offset, *]) (tgt := 81) rfl ?_
  refine s_iconst C dX4_asks_81 (0) (by decide) (fun z33 h34 => ?_)
  refine s_bipush C dX4_asks_82 (99) (by decide) (fun z35 h36 => ?_)
  refine a_iload C dX4_asks_84 rfl ?_
  refine s_mmin C dX4_asks_86 mm_RX4_95 mm_min.1 mm_min.2.1 mm_min.2.2 (Nat.le_of_ble_eq_true rfl) (Nat.le_of_ble_eq_true rfl) (fun z37 h38 => ?_)
  refine s_mmax C dX4_asks_89 mm_RX4_51 mm_max.1 mm_max.2.1 mm_max.2.2 (Nat.le_of_ble_eq_true rfl) (Nat.le_of_ble_eq_true rfl) (fun z39 h40 => ?_)
  exact a_iret Rt dX4_asks_92 rfl (⟨hG13, (only.tr (only.I only.rf (by decide)) (only.mono ho14 (by decide)))⟩)
theorem dX4_lookAt_0 : decode cX4_lookAt 0 = .ok (.aload_n 0, 1) := by decide +kernel
theorem dX4_lookAt_1 : decode cX4_lookAt 1 = .ok (.getfield 12, 3) := by decide +kernel
theorem dX4_lookAt_4 : decode cX4_lookAt 4 = .ok (.getfield 107, 3) := by decide +kernel
theorem dX4_lookAt_7 : decode cX4_lookAt 7 = .ok (.iconst 0, 1) := by decide +kernel
theorem dX4_lookAt_8 : decode cX4_lookAt 8 = .ok (.aload_n 1, 1) := by decide +kernel
theorem dX4_lookAt_9 : decode cX4_lookAt 9 = .ok (.getfield 110, 3) := by decide +kernel
theorem dX4_lookAt_12 : decode cX4_lookAt 12 = .ok (.iload_n 3, 1) := by decide +kernel
theorem dX4_lookAt_13 : decode cX4_lookAt 13 = .ok (.iaload, 1) := by decide +kernel
theorem dX4_lookAt_14 : decode cX4_lookAt 14 = .ok (.iastore, 1) := by decide +kernel
theorem dX4_lookAt_15 : decode cX4_lookAt 15 = .ok (.aload_n 0, 1) := by decide +kernel
theorem dX4_lookAt_16 : decode cX4_lookAt 16 = .ok (.getfield 12, 3) := by decide +kernel
theorem dX4_lookAt_19 : decode cX4_lookAt 19 = .ok (.getfield 107, 3) := by decide +kernel
theorem dX4_lookAt_22 : decode cX4_lookAt 22 = .ok (.iconst 1, 1) := by decide +kernel
theorem dX4_lookAt_23 : decode cX4_lookAt 23 = .ok (.aload_n 1, 1) := by decide +kernel
theorem dX4_lookAt_24 : decode cX4_lookAt 24 = .ok (.getfield 113, 3) := by decide +kernel
theorem dX4_lookAt_27 : decode cX4_lookAt 27 = .ok (.iload_n 3, 1) := by decide +kernel
theorem dX4_lookAt_28 : decode cX4_lookAt 28 = .ok (.iaload, 1) := by decide +kernel
theorem dX4_lookAt_29 : decode cX4_lookAt 29 = .ok (.iastore, 1) := by decide +kernel
theorem dX4_lookAt_30 : decode cX4_lookAt 30 = .ok (.aload_n 0, 1) := by decide +kernel
theorem dX4_lookAt_31 : decode cX4_lookAt 31 = .ok (.getfield 12, 3) := by decide +kernel
theorem dX4_lookAt_34 : decode cX4_lookAt 34 = .ok (.getfield 107, 3) := by decide +kernel
theorem dX4_lookAt_37 : decode cX4_lookAt 37 = .ok (.iconst 3, 1) := by decide +kernel
theorem dX4_lookAt_38 : decode cX4_lookAt 38 = .ok (.aload_n 2, 1) := by decide +kernel
theorem dX4_lookAt_39 : decode cX4_lookAt 39 = .ok (.getfield 78, 3) := by decide +kernel
theorem dX4_lookAt_42 : decode cX4_lookAt 42 = .ok (.iastore, 1) := by decide +kernel
theorem dX4_lookAt_43 : decode cX4_lookAt 43 = .ok (.aload_n 0, 1) := by decide +kernel
theorem dX4_lookAt_44 : decode cX4_lookAt 44 = .ok (.getfield 12, 3) := by decide +kernel
theorem dX4_lookAt_47 : decode cX4_lookAt 47 = .ok (.getfield 107, 3) := by decide +kernel
theorem dX4_lookAt_50 : decode cX4_lookAt 50 = .ok (.iconst 4, 1) := by decide +kernel
theorem dX4_lookAt_51 : decode cX4_lookAt 51 = .ok (.aload_n 2, 1) := by decide +kernel
theorem dX4_lookAt_52 : decode cX4_lookAt 52 = .ok (.getfield 42, 3) := by decide +kernel
theorem dX4_lookAt_55 : decode cX4_lookAt 55 = .ok (.iastore, 1) := by decide +kernel
theorem dX4_lookAt_56 : decode cX4_lookAt 56 = .ok (.aload_n 0, 1) := by decide +kernel
theorem dX4_lookAt_57 : decode cX4_lookAt 57 = .ok (.getfield 12, 3) := by decide +kernel
theorem dX4_lookAt_60 : decode cX4_lookAt 60 = .ok (.getfield 107, 3) := by decide +kernel
theorem dX4_lookAt_63 : decode cX4_lookAt 63 = .ok (.iconst 5, 1) := by decide +kernel
theorem dX4_lookAt_64 : decode cX4_lookAt 64 = .ok (.iload 4, 2) := by decide +kernel
theorem dX4_lookAt_66 : decode cX4_lookAt 66 = .ok (.iastore, 1) := by decide +kernel
theorem dX4_lookAt_67 : decode cX4_lookAt 67 = .ok (.aload_n 0, 1) := by decide +kernel
theorem dX4_lookAt_68 : decode cX4_lookAt 68 = .ok (.getfield 12, 3) := by decide +kernel
theorem dX4_lookAt_71 : decode cX4_lookAt 71 = .ok (.getfield 107, 3) := by decide +kernel
theorem dX4_lookAt_74 : decode cX4_lookAt 74 = .ok (.bipush 6, 2) := by decide +kernel
theorem dX4_lookAt_76 : decode cX4_lookAt 76 = .ok (.iload_n 3, 1) := by decide +kernel
theorem dX4_lookAt_77 : decode cX4_lookAt 77 = .ok (.iastore, 1) := by decide +kernel
theorem dX4_lookAt_78 : decode cX4_lookAt 78 = .ok (.aload_n 0, 1) := by decide +kernel
theorem dX4_lookAt_79 : decode cX4_lookAt 79 = .ok (.getfield 12, 3) := by decide +kernel
theorem dX4_lookAt_82 : decode cX4_lookAt 82 = .ok (.getfield 107, 3) := by decide +kernel
theorem dX4_lookAt_85 : decode cX4_lookAt 85 = .ok (.bipush 7, 2) := by decide +kernel
theorem dX4_lookAt_87 : decode cX4_lookAt 87 = .ok (.aload_n 2, 1) := by decide +kernel
theorem dX4_lookAt_88 : decode cX4_lookAt 88 = .ok (.getfield 98, 3) := by decide +kernel
theorem dX4_lookAt_91 : decode cX4_lookAt 91 = .ok (.iastore, 1) := by decide +kernel
theorem dX4_lookAt_92 : decode cX4_lookAt 92 = .ok (.aload_n 0, 1) := by decide +kernel
theorem dX4_lookAt_93 : decode cX4_lookAt 93 = .ok (.getfield 12, 3) := by decide +kernel
theorem dX4_lookAt_96 : decode cX4_lookAt 96 = .ok (.getfield 107, 3) := by decide +kernel
theorem dX4_lookAt_99 : decode cX4_lookAt 99 = .ok (.bipush 8, 2) := by decide +kernel
theorem dX4_lookAt_101 : decode cX4_lookAt 101 = .ok (.aload_n 2, 1) := by decide +kernel
theorem dX4_lookAt_102 : decode cX4_lookAt 102 = .ok (.getfield 78, 3) := by decide +kernel
theorem dX4_lookAt_105 : decode cX4_lookAt 105 = .ok (.iconst 1, 1) := by decide +kernel
theorem dX4_lookAt_106 : decode cX4_lookAt 106 = .ok (.iand, 1) := by decide +kernel
theorem dX4_lookAt_107 : decode cX4_lookAt 107 = .ok (.iastore, 1) := by decide +kernel
theorem dX4_lookAt_108 : decode cX4_lookAt 108 = .ok (.return_, 1) := by decide +kernel
set_option maxHeartbeats 4000000 in
set_option maxRecDepth 100000 in
theorem S_X4_lookAt_8_30_56 {l : Launch} {D : va_G} {ids : List Nat} {ad : Nat → Nat} {ca : Nat → ClassId} {σ : HS} {x3 : Int32} {x4 : Int32} (hid : ∀ i, i < 277 → i ∈ ids) (hG : GIc σ) (hx3 : 0 ≤ x3.toInt ∧ x3.toInt ≤ 6) : Kv l D ids ad ca yX4_lookAt cX4_lookAt 5 0 0 [.ref (ad 8), .ref (ad 30), .ref (ad 56), .int x3, .int x4] σ (fun σ1 => (GIc σ1) ∧ (only [10] σ σ1)) := by
  refine Kv.of (by decide) (Nat.le_of_ble_eq_true rfl) 0 (fun Γ C Rt => ?_)
  show AW ids ad ca Γ 0 [some (.ref (ad 8)), some (.ref (ad 30)), some (.ref (ad 56)), some (.int x3), some (.int x4)] [] σ
  refine a_aload_n C dX4_lookAt_0 (i := 0) rfl rfl ?_
  refine a_get C fl_RX4_12 (i := 8) kd_8 (hid 8 (by decide)) (v := .ref (ad 9)) rfl dX4_lookAt_1 ?_
  refine a_get C fl_RX4_107 (i := 9) kd_9 (hid 9 (by decide)) (v := .ref (ad 10)) rfl dX4_lookAt_4 ?_
  refine s_iconst C dX4_lookAt_7 (0) (by decide) (fun z1 h2 => ?_)
  refine a_aload_n C dX4_lookAt_8 (i := 1) rfl rfl ?_
  refine a_get C fl_RX4_110 (i := 30) kd_30 (hid 30 (by decide)) (v := .ref (ad 31)) rfl dX4_lookAt_9 ?_
  refine a_iload_n C dX4_lookAt_12 (i := 3) rfl rfl ?_
  refine s_iald C (i := 31) kd_31 (hid 31 (by decide)) al_31 (by omega) (by omega) dX4_lookAt_13 (fun n3 h4 => ?_)
  refine s_val (fun z5 e6 => ?_)
  refine s_iast C (i := 10) kd_10 (hid 10 (by decide)) al_10 (by omega) (by omega) dX4_lookAt_14 (fun n7 h8 => ?_)
  have hG9 := wA_10 (v := z5) (j := n7) hG
  refine a_aload_n C dX4_lookAt_15 (i := 0) rfl rfl ?_
  refine a_get C fl_RX4_12 (i := 8) kd_8 (hid 8 (by decide)) (v := .ref (ad 9)) rfl dX4_lookAt_16 ?_
  refine a_get C fl_RX4_107 (i := 9) kd_9 (hid 9 (by decide)) (v := .ref (ad 10)) rfl dX4_lookAt_19 ?_
  refine s_iconst C dX4_lookAt_22 (1) (by decide) (fun z10 h11 => ?_)
  refine a_aload_n C dX4_lookAt_23 (i := 1) rfl rfl ?_
  refine a_get C fl_RX4_113 (i := 30) kd_30 (hid 30 (by decide)) (v := .ref (ad 32)) rfl dX4_lookAt_24 ?_
  refine a_iload_n C dX4_lookAt_27 (i := 3) rfl rfl ?_
  refine s_iald C (i := 32) kd_32 (hid 32 (by decide)) al_32 (by omega) (by omega) dX4_lookAt_28 (fun n12 h13 => ?_)
  refine s_val (fun z14 e15 => ?_)
  refine s_iast C (i := 10) kd_10 (hid 10 (by decide)) al_10 (by omega) (by omega) dX4_lookAt_29 (fun n16 h17 => ?_)
  have hG18 := wA_10 (v := z14) (j := n16) hG9
  refine a_aload_n C dX4_lookAt_30 (i := 0) rfl rfl ?_
  refine a_get C fl_RX4_12 (i := 8) kd_8 (hid 8 (by decide)) (v := .ref (ad 9)) rfl dX4_lookAt_31 ?_
  refine a_get C fl_RX4_107 (i := 9) kd_9 (hid 9 (by decide)) (v := .ref (ad 10)) rfl dX4_lookAt_34 ?_
  refine s_iconst C dX4_lookAt_37 (3) (by decide) (fun z19 h20 => ?_)
  refine a_aload_n C dX4_lookAt_38 (i := 2) rfl rfl ?_
  refine a_get C fl_RX4_78 (i := 56) kd_56 (hid 56 (by decide)) (v := .int (σ.1 56 4)) rfl dX4_lookAt_39 ?_
  refine s_iast C (i := 10) kd_10 (hid 10 (by decide)) al_10 (by omega) (by omega) dX4_lookAt_42 (fun n21 h22 => ?_)
  have hG23 := wA_10 (v := (σ.1 56 4)) (j := n21) hG18
  refine a_aload_n C dX4_lookAt_43 (i := 0) rfl rfl ?_
  refine a_get C fl_RX4_12 (i := 8) kd_8 (hid 8 (by decide)) (v := .ref (ad 9)) rfl dX4_lookAt_44 ?_
  refine a_get C fl_RX4_107 (i := 9) kd_9 (hid 9 (by decide)) (v := .ref (ad 10)) rfl dX4_lookAt_47 ?_
  refine s_iconst C dX4_lookAt_50 (4) (by decide) (fun z24 h25 => ?_)
  refine a_aload_n C dX4_lookAt_51 (i := 2) rfl rfl ?_
  refine a_get C fl_RX4_42 (i := 56) kd_56 (hid 56 (by decide)) (v := .int (σ.1 56 5)) rfl dX4_lookAt_52 ?_
  refine s_iast C (i := 10) kd_10 (hid 10 (by decide)) al_10 (by omega) (by omega) dX4_lookAt_55 (fun n26 h27 => ?_)
  have hG28 := wA_10 (v := (σ.1 56 5)) (j := n26) hG23
  refine a_aload_n C dX4_lookAt_56 (i := 0) rfl rfl ?_
  refine a_get C fl_RX4_12 (i := 8) kd_8 (hid 8 (by decide)) (v := .ref (ad 9)) rfl dX4_lookAt_57 ?_
  refine a_get C fl_RX4_107 (i := 9) kd_9 (hid 9 (by decide)) (v := .ref (ad 10)) rfl dX4_lookAt_60 ?_
  refine s_iconst C dX4_lookAt_63 (5) (by decide) (fun z29 h30 => ?_)
  refine a_iload C dX4_lookAt_64 rfl ?_
  refine s_iast C (i := 10) kd_10 (hid 10 (by decide)) al_10 (by omega) (by omega) dX4_lookAt_66 (fun n31 h32 => ?_)
  have hG33 := wA_10 (v := x4) (j := n31) hG28
  refine a_aload_n C dX4_lookAt_67 (i := 0) rfl rfl ?_
  refine a_get C fl_RX4_12 (i := 8) kd_8 (hid 8 (by decide)) (v := .ref (ad 9)) rfl dX4_lookAt_68 ?_
  refine a_get C fl_RX4_107 (i := 9) kd_9 (hid 9 (by decide)) (v := .ref (ad 10)) rfl dX4_lookAt_71 ?_
  refine s_bipush C dX4_lookAt_74 (6) (by decide) (fun z34 h35 => ?_)
  refine a_iload_n C dX4_lookAt_76 (i := 3) rfl rfl ?_
  refine s_iast C (i := 10) kd_10 (hid 10 (by decide)) al_10 (by omega) (by omega) dX4_lookAt_77 (fun n36 h37 => ?_)
  have hG38 := wA_10 (v := x3) (j := n36) hG33
  refine a_aload_n C dX4_lookAt_78 (i := 0) rfl rfl ?_
  refine a_get C fl_RX4_12 (i := 8) kd_8 (hid 8 (by decide)) (v := .ref (ad 9)) rfl dX4_lookAt_79 ?_
  refine a_get C fl_RX4_107 (i := 9) kd_9 (hid 9 (by decide)) (v := .ref (ad 10)) rfl dX4_lookAt_82 ?_
  refine s_bipush C dX4_lookAt_85 (7) (by decide) (fun z39 h40 => ?_)
  refine a_aload_n C dX4_lookAt_87 (i := 2) rfl rfl ?_
  refine a_get C fl_RX4_98 (i := 56) kd_56 (hid 56 (by decide)) (v := .int (σ.1 56 7)) rfl dX4_lookAt_88 ?_
  refine s_iast C (i := 10) kd_10 (hid 10 (by decide)) al_10 (by omega) (by omega) dX4_lookAt_91 (fun n41 h42 => ?_)
  have hG43 := wA_10 (v := (σ.1 56 7)) (j := n41) hG38
  refine a_aload_n C dX4_lookAt_92 (i := 0) rfl rfl ?_
  refine a_get C fl_RX4_12 (i := 8) kd_8 (hid 8 (by decide)) (v := .ref (ad 9)) rfl dX4_lookAt_93 ?_
  refine a_get C fl_RX4_107 (i := 9) kd_9 (hid 9 (by decide)) (v := .ref (ad 10)) rfl dX4_lookAt_96 ?_
  refine s_bipush C dX4_lookAt_99 (8) (by decide) (fun z44 h45 => ?_)
  refine a_aload_n C dX4_lookAt_101 (i := 2) rfl rfl ?_
  refine a_get C fl_RX4_78 (i := 56) kd_56 (hid 56 (by decide)) (v := .int (σ.1 56 4)) rfl dX4_lookAt_102 ?_
  refine s_iconst C dX4_lookAt_105 (1) (by decide) (fun z46 h47 => ?_)
  refine s_iand C dX4_lookAt_106 (by omega) (fun z48 h49 => ?_)
  refine s_iast C (i := 10) kd_10 (hid 10 (by decide)) al_10 (by omega) (by omega) dX4_lookAt_107 (fun n50 h51 => ?_)
  have hG52 := wA_10 (v := z48) (j := n50) hG43
  exact a_vret Rt dX4_lookAt_108 (⟨hG52, (only.I (only.I (only.I (only.I (only.I (only.I (only.I (only.I only.rf (by decide)) (by decide)) (by decide)) (by decide)) (by decide)) (by decide)) (by decide)) (by decide))⟩)
