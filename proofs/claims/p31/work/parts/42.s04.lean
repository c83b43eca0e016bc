set_option maxHeartbeats 4000000 in
set_option maxRecDepth 100000 in
theorem S_X3_kept_29 {l : Launch} {D : va_G} {ids : List Nat} {ad : Nat → Nat} {ca : Nat → ClassId} {σ : HS} {x2 : Int32} (hid : ∀ i, i < 277 → i ∈ ids) (hG : GIc σ) (hx2 : 0 ≤ x2.toInt ∧ x2.toInt ≤ 16) : Ki l D ids ad ca yX3_kept cX3_kept 4 .int 0 0 [.ref (ad 29), .int x2] σ (fun r σ1 => (σ1 = σ)) := by
  refine Ki.of (by decide) (Nat.le_of_ble_eq_true rfl) 2 (fun Γ C Rt => ?_)
  show AW ids ad ca Γ 0 [some (.ref (ad 29)), some (.int x2), none, none] [] σ
  have j4 : ∀ (d4 : Nat) (y4_2 : Int32) (y4_3 : Int32), 16 - y4_3.toInt < d4 → 0 ≤ y4_3.toInt ∧ y4_3.toInt ≤ 16 → AW ids ad ca Γ 4 [some (.ref (ad 29)), some (.int x2), some (.int y4_2), some (.int y4_3)] [] σ := by
    intro d4
    induction d4 with
    | zero =>
      intro y4_2 y4_3 hd4 hx4_0
      exfalso
      omega
    | succ d4 ih4 =>
      intro y4_2 y4_3 hd4 hx4_0
      refine a_iload_n C dX3_kept_4 (i := 3) rfl rfl ?_
      refine a_iload_n C dX3_kept_5 (i := 1) rfl rfl ?_
      refine s_ic_ge C dX3_kept_6 (tgt := 21) rfl (fun c1 => ?_) (fun c1 => ?_)
      ·
        refine a_iload_n C dX3_kept_21 (i := 1) rfl rfl ?_
        refine s_iconst C dX3_kept_22 (1) (by decide) (fun z2 h3 => ?_)
        refine s_ic_ge C dX3_kept_23 (tgt := 30) rfl (fun c4 => ?_) (fun c4 => ?_)
        ·
          refine a_iload_n C dX3_kept_30 (i := 2) rfl rfl ?_
          refine a_iload_n C dX3_kept_31 (i := 1) rfl rfl ?_
          refine s_idivU C dX3_kept_32 (by omega) (fun z5 => ?_)
          exact a_iret Rt dX3_kept_33 rfl (rfl)
        ·
          refine s_iconst C dX3_kept_26 (0) (by decide) (fun z7 h8 => ?_)
          refine a_goto C dX3_kept_27 (tgt := 33) rfl ?_
          exact a_iret Rt dX3_kept_33 rfl (rfl)
      ·
        refine a_iload_n C dX3_kept_9 (i := 2) rfl rfl ?_
        refine a_aload_n C dX3_kept_10 (i := 0) rfl rfl ?_
        refine a_iload_n C dX3_kept_11 (i := 3) rfl rfl ?_
        refine s_iald C (i := 29) kd_29 (hid 29 (by decide)) al_29 (by omega) (by omega) dX3_kept_12 (fun n9 h10 => ?_)
        refine s_val (fun z11 e12 => ?_)
        refine s_iaddU C dX3_kept_13 (fun z13 => ?_)
        refine a_istore_n C dX3_kept_14 (i := 2) rfl (by decide) rfl (vs1 := [some (.ref (ad 29)), some (.int x2), some (.int z13), some (.int y4_3)]) rfl ?_
        refine s_iinc C dX3_kept_15 rfl (1) (by decide) (by omega) (by decide) rfl (fun z15 h16 => ?_)
        show AW ids ad ca Γ 18 [some (.ref (ad 29)), some (.int x2), some (.int z13), some (.int z15)] _ _
        refine a_goto C dX3_kept_18 (tgt := 4) rfl ?_
        exact ih4 z13 z15 (by omega) (by omega)
  refine s_iconst C dX3_kept_0 (0) (by decide) (fun z17 h18 => ?_)
  refine a_istore_n C dX3_kept_1 (i := 2) rfl (by decide) rfl (vs1 := [some (.ref (ad 29)), some (.int x2), some (.int z17), none]) rfl ?_
  refine s_iconst C dX3_kept_2 (0) (by decide) (fun z19 h20 => ?_)
  refine a_istore_n C dX3_kept_3 (i := 3) rfl (by decide) rfl (vs1 := [some (.ref (ad 29)), some (.int x2), some (.int z17), some (.int z19)]) rfl ?_
  exact j4 100000 z17 z19 (by omega) (by omega)
theorem dX3_highest_0 : decode cX3_highest 0 = .ok (.iconst 0, 1) := by decide +kernel
theorem dX3_highest_1 : decode cX3_highest 1 = .ok (.istore_n 2, 1) := by decide +kernel
theorem dX3_highest_2 : decode cX3_highest 2 = .ok (.iconst 0, 1) := by decide +kernel
theorem dX3_highest_3 : decode cX3_highest 3 = .ok (.istore_n 3, 1) := by decide +kernel
theorem dX3_highest_4 : decode cX3_highest 4 = .ok (.iload_n 3, 1) := by decide +kernel
theorem dX3_highest_5 : decode cX3_highest 5 = .ok (.iload_n 1, 1) := by decide +kernel
theorem dX3_highest_6 : decode cX3_highest 6 = .ok (.if_icmp .ge 17, 3) := by decide +kernel
theorem dX3_highest_9 : decode cX3_highest 9 = .ok (.iload_n 2, 1) := by decide +kernel
theorem dX3_highest_10 : decode cX3_highest 10 = .ok (.aload_n 0, 1) := by decide +kernel
theorem dX3_highest_11 : decode cX3_highest 11 = .ok (.iload_n 3, 1) := by decide +kernel
theorem dX3_highest_12 : decode cX3_highest 12 = .ok (.iaload, 1) := by decide +kernel
theorem dX3_highest_13 : decode cX3_highest 13 = .ok (.invokestatic 9, 3) := by decide +kernel
theorem dX3_highest_16 : decode cX3_highest 16 = .ok (.istore_n 2, 1) := by decide +kernel
theorem dX3_highest_17 : decode cX3_highest 17 = .ok (.iinc 3 1, 3) := by decide +kernel
theorem dX3_highest_20 : decode cX3_highest 20 = .ok (.goto (-16), 3) := by decide +kernel
theorem dX3_highest_23 : decode cX3_highest 23 = .ok (.iload_n 2, 1) := by decide +kernel
theorem dX3_highest_24 : decode cX3_highest 24 = .ok (.ireturn, 1) := by decide +kernel
set_option maxHeartbeats 4000000 in
set_option maxRecDepth 100000 in
theorem S_X3_highest_H8 {l : Launch} {D : va_G} {ids : List Nat} {ad : Nat → Nat} {ca : Nat → ClassId} {σ : HS} {x2 : Int32} {ar1 : Nat} (hid : ∀ i, i < 277 → i ∈ ids) (hG : GIc σ) (hx2 : 0 ≤ x2.toInt ∧ x2.toInt ≤ 8) (hk1 : kd ar1 = 20) (hm1 : ar1 ∈ ids) (hn1 : al ar1 = 8) (hb1 : ∀ j : Nat, 0 ≤ (σ.1 ar1 j).toInt ∧ (σ.1 ar1 j).toInt ≤ 9999) : Ki l D ids ad ca yX3_highest cX3_highest 4 .int 1 21 [.ref (ad ar1), .int x2] σ (fun r σ1 => (σ1 = σ)) := by
  refine Ki.of (by decide) (Nat.le_of_ble_eq_true rfl) 2 (fun Γ C Rt => ?_)
  show AW ids ad ca Γ 0 [some (.ref (ad ar1)), some (.int x2), none, none] [] σ
  have j4 : ∀ (d4 : Nat) (y4_2 : Int32) (y4_3 : Int32), 8 - y4_3.toInt < d4 → 0 ≤ y4_2.toInt ∧ y4_2.toInt ≤ 9999 → 0 ≤ y4_3.toInt ∧ y4_3.toInt ≤ 8 → AW ids ad ca Γ 4 [some (.ref (ad ar1)), some (.int x2), some (.int y4_2), some (.int y4_3)] [] σ := by
    intro d4
    induction d4 with
    | zero =>
      intro y4_2 y4_3 hd4 hx4_0 hx4_1
      exfalso
      omega
    | succ d4 ih4 =>
      intro y4_2 y4_3 hd4 hx4_0 hx4_1
      refine a_iload_n C dX3_highest_4 (i := 3) rfl rfl ?_
      refine a_iload_n C dX3_highest_5 (i := 1) rfl rfl ?_
      refine s_ic_ge C dX3_highest_6 (tgt := 23) rfl (fun c1 => ?_) (fun c1 => ?_)
      ·
        refine a_iload_n C dX3_highest_23 (i := 2) rfl rfl ?_
        exact a_iret Rt dX3_highest_24 rfl (rfl)
      ·
        refine a_iload_n C dX3_highest_9 (i := 2) rfl rfl ?_
        refine a_aload_n C dX3_highest_10 (i := 0) rfl rfl ?_
        refine a_iload_n C dX3_highest_11 (i := 3) rfl rfl ?_
        refine s_iald C (i := ar1) hk1 hm1 hn1 (by omega) (by omega) dX3_highest_12 (fun n2 h3 => ?_)
        refine s_val (fun z4 e5 => ?_)
        have g6 := hb1 n2
        rw [e5] at g6
        refine s_mmax C dX3_highest_13 mm_RX3_9 mm_max.1 mm_max.2.1 mm_max.2.2 (Nat.le_of_ble_eq_true rfl) (Nat.le_of_ble_eq_true rfl) (fun z7 h8 => ?_)
        refine a_istore_n C dX3_highest_16 (i := 2) rfl (by decide) rfl (vs1 := [some (.ref (ad ar1)), some (.int x2), some (.int z7), some (.int y4_3)]) rfl ?_
        refine s_iinc C dX3_highest_17 rfl (1) (by decide) (by omega) (by decide) rfl (fun z9 h10 => ?_)
        show AW ids ad ca Γ 20 [some (.ref (ad ar1)), some (.int x2), some (.int z7), some (.int z9)] _ _
        refine a_goto C dX3_highest_20 (tgt := 4) rfl ?_
        exact ih4 z7 z9 (by omega) (by omega) (by omega)
  refine s_iconst C dX3_highest_0 (0) (by decide) (fun z11 h12 => ?_)
  refine a_istore_n C dX3_highest_1 (i := 2) rfl (by decide) rfl (vs1 := [some (.ref (ad ar1)), some (.int x2), some (.int z11), none]) rfl ?_
  refine s_iconst C dX3_highest_2 (0) (by decide) (fun z13 h14 => ?_)
  refine a_istore_n C dX3_highest_3 (i := 3) rfl (by decide) rfl (vs1 := [some (.ref (ad ar1)), some (.int x2), some (.int z11), some (.int z13)]) rfl ?_
  exact j4 100000 z11 z13 (by omega) (by omega) (by omega)
theorem dX3_rounds_0 : decode cX3_rounds 0 = .ok (.iconst 0, 1) := by decide +kernel
theorem dX3_rounds_1 : decode cX3_rounds 1 = .ok (.istore_n 2, 1) := by decide +kernel
theorem dX3_rounds_2 : decode cX3_rounds 2 = .ok (.iconst 0, 1) := by decide +kernel
theorem dX3_rounds_3 : decode cX3_rounds 3 = .ok (.istore_n 3, 1) := by decide +kernel
theorem dX3_rounds_4 : decode cX3_rounds 4 = .ok (.iconst 0, 1) := by decide +kernel
theorem dX3_rounds_5 : decode cX3_rounds 5 = .ok (.istore 4, 2) := by decide +kernel
theorem dX3_rounds_7 : decode cX3_rounds 7 = .ok (.iload 4, 2) := by decide +kernel
theorem dX3_rounds_9 : decode cX3_rounds 9 = .ok (.iload_n 1, 1) := by decide +kernel
theorem dX3_rounds_10 : decode cX3_rounds 10 = .ok (.if_icmp .ge 58, 3) := by decide +kernel
theorem dX3_rounds_13 : decode cX3_rounds 13 = .ok (.iload_n 2, 1) := by decide +kernel
theorem dX3_rounds_14 : decode cX3_rounds 14 = .ok (.iload 4, 2) := by decide +kernel
theorem dX3_rounds_16 : decode cX3_rounds 16 = .ok (.ishr, 1) := by decide +kernel
theorem dX3_rounds_17 : decode cX3_rounds 17 = .ok (.iconst 1, 1) := by decide +kernel
theorem dX3_rounds_18 : decode cX3_rounds 18 = .ok (.iand, 1) := by decide +kernel
theorem dX3_rounds_19 : decode cX3_rounds 19 = .ok (.ifCond .ne 43, 3) := by decide +kernel
theorem dX3_rounds_22 : decode cX3_rounds 22 = .ok (.iinc 3 1, 3) := by decide +kernel
theorem dX3_rounds_25 : decode cX3_rounds 25 = .ok (.iload 4, 2) := by decide +kernel
theorem dX3_rounds_27 : decode cX3_rounds 27 = .ok (.istore 5, 2) := by decide +kernel
theorem dX3_rounds_29 : decode cX3_rounds 29 = .ok (.iconst 0, 1) := by decide +kernel
theorem dX3_rounds_30 : decode cX3_rounds 30 = .ok (.istore 6, 2) := by decide +kernel
theorem dX3_rounds_32 : decode cX3_rounds 32 = .ok (.iload 6, 2) := by decide +kernel
theorem dX3_rounds_34 : decode cX3_rounds 34 = .ok (.iload_n 1, 1) := by decide +kernel
theorem dX3_rounds_35 : decode cX3_rounds 35 = .ok (.if_icmp .ge 27, 3) := by decide +kernel
theorem dX3_rounds_38 : decode cX3_rounds 38 = .ok (.iload_n 2, 1) := by decide +kernel
theorem dX3_rounds_39 : decode cX3_rounds 39 = .ok (.iconst 1, 1) := by decide +kernel
theorem dX3_rounds_40 : decode cX3_rounds 40 = .ok (.iload 5, 2) := by decide +kernel
theorem dX3_rounds_42 : decode cX3_rounds 42 = .ok (.ishl, 1) := by decide +kernel
theorem dX3_rounds_43 : decode cX3_rounds 43 = .ok (.ior, 1) := by decide +kernel
theorem dX3_rounds_44 : decode cX3_rounds 44 = .ok (.istore_n 2, 1) := by decide +kernel
theorem dX3_rounds_45 : decode cX3_rounds 45 = .ok (.iload 5, 2) := by decide +kernel
theorem dX3_rounds_47 : decode cX3_rounds 47 = .ok (.aload_n 0, 1) := by decide +kernel
theorem dX3_rounds_48 : decode cX3_rounds 48 = .ok (.iload 5, 2) := by decide +kernel
theorem dX3_rounds_50 : decode cX3_rounds 50 = .ok (.iaload, 1) := by decide +kernel
theorem dX3_rounds_51 : decode cX3_rounds 51 = .ok (.iadd, 1) := by decide +kernel
theorem dX3_rounds_52 : decode cX3_rounds 52 = .ok (.iload_n 1, 1) := by decide +kernel
theorem dX3_rounds_53 : decode cX3_rounds 53 = .ok (.irem, 1) := by decide +kernel
theorem dX3_rounds_54 : decode cX3_rounds 54 = .ok (.istore 5, 2) := by decide +kernel
theorem dX3_rounds_56 : decode cX3_rounds 56 = .ok (.iinc 6 1, 3) := by decide +kernel
theorem dX3_rounds_59 : decode cX3_rounds 59 = .ok (.goto (-27), 3) := by decide +kernel
theorem dX3_rounds_62 : decode cX3_rounds 62 = .ok (.iinc 4 1, 3) := by decide +kernel
theorem dX3_rounds_65 : decode cX3_rounds 65 = .ok (.goto (-58), 3) := by decide +kernel
theorem dX3_rounds_68 : decode cX3_rounds 68 = .ok (.iload_n 3, 1) := by decide +kernel
theorem dX3_rounds_69 : decode cX3_rounds 69 = .ok (.ireturn, 1) := by decide +kernel
set_option maxHeartbeats 4000000 in
set_option maxRecDepth 100000 in
theorem S_X3_rounds_H8 {l : Launch} {D : va_G} {ids : List Nat} {ad : Nat → Nat} {ca : Nat → ClassId} {σ : HS} {x2 : Int32} {ar1 : Nat} (hid : ∀ i, i < 277 → i ∈ ids) (hG : GIc σ) (hx2 : 0 ≤ x2.toInt ∧ x2.toInt ≤ 8) (hk1 : kd ar1 = 20) (hm1 : ar1 ∈ ids) (hn1 : al ar1 = 8) (hb1 : ∀ j : Nat, 0 ≤ (σ.1 ar1 j).toInt ∧ (σ.1 ar1 j).toInt ≤ 9999) : Ki l D ids ad ca yX3_rounds cX3_rounds 7 .int 0 0 [.ref (ad ar1), .int x2] σ (fun r σ1 => (σ1 = σ)) := by
  refine Ki.of (by decide) (Nat.le_of_ble_eq_true rfl) 5 (fun Γ C Rt => ?_)
  show AW ids ad ca Γ 0 [some (.ref (ad ar1)), some (.int x2), none, none, none, none, none] [] σ
  have j7 : ∀ (d7 : Nat) (y7_2 : Int32) (y7_3 : Int32) (y7_4 : Int32), 8 - y7_4.toInt < d7 → 0 ≤ y7_4.toInt ∧ y7_4.toInt ≤ 8 → AW ids ad ca Γ 7 [some (.ref (ad ar1)), some (.int x2), some (.int y7_2), some (.int y7_3), some (.int y7_4), none, none] [] σ := by
    intro d7
    induction d7 with
    | zero =>
      intro y7_2 y7_3 y7_4 hd7 hx7_0
      exfalso
      omega
    | succ d7 ih7 =>
      intro y7_2 y7_3 y7_4 hd7 hx7_0
      have j62 : ∀ (y62_2 : Int32) (y62_3 : Int32), 1 ≤ x2.toInt ∧ x2.toInt ≤ 8 → 0 ≤ y7_4.toInt ∧ y7_4.toInt ≤ 7 → AW ids ad ca Γ 62 [some (.ref (ad ar1)), some (.int x2), some (.int y62_2), some (.int y62_3), some (.int y7_4), none, none] [] σ := by
        intro y62_2 y62_3 hx62_0 hx62_1
        refine s_iinc C dX3_rounds_62 rfl (1) (by decide) (by omega) (by decide) rfl (fun z1 h2 => ?_)
        show AW ids ad ca Γ 65 [some (.ref (ad ar1)), some (.int x2), some (.int y62_2), some (.int y62_3), some (.int z1), none, none] _ _
        refine a_goto C dX3_rounds_65 (tgt := 7) rfl ?_
        exact ih7 y62_2 y62_3 z1 (by omega) (by omega)
      have j32 : ∀ (d32 : Nat) (y32_2 : Int32) (y32_3 : Int32) (y32_5 : Int32) (y32_6 : Int32), 8 - y32_6.toInt < d32 → 0 ≤ y32_5.toInt ∧ y32_5.toInt ≤ 7 → 0 ≤ y32_6.toInt ∧ y32_6.toInt ≤ 8 → 1 ≤ x2.toInt ∧ x2.toInt ≤ 8 → 0 ≤ y7_4.toInt ∧ y7_4.toInt ≤ 7 → AW ids ad ca Γ 32 [some (.ref (ad ar1)), some (.int x2), some (.int y32_2), some (.int y32_3), some (.int y7_4), some (.int y32_5), some (.int y32_6)] [] σ := by
        intro d32
        induction d32 with
        | zero =>
          intro y32_2 y32_3 y32_5 y32_6 hd32 hx32_0 hx32_1 hx32_2 hx32_3
          exfalso
          omega
        | succ d32 ih32 =>
          intro y32_2 y32_3 y32_5 y32_6 hd32 hx32_0 hx32_1 hx32_2 hx32_3
          refine a_iload C dX3_rounds_32 rfl ?_
          refine a_iload_n C dX3_rounds_34 (i := 1) rfl rfl ?_
          refine s_ic_ge C dX3_rounds_35 (tgt := 62) rfl (fun c3 => ?_) (fun c3 => ?_)
          ·
            refine AW.sub (vs' := [some (.ref (ad ar1)), some (.int x2), some (.int y32_2), some (.int y32_3), some (.int y7_4), none, none]) (lsub_of (by simp [lsubB])) ?_
            exact j62 y32_2 y32_3 (by omega) (by omega)
          ·
            refine a_iload_n C dX3_rounds_38 (i := 2) rfl rfl ?_
            refine s_iconst C dX3_rounds_39 (1) (by decide) (fun z4 h5 => ?_)
            refine a_iload C dX3_rounds_40 rfl ?_
            refine s_ishlU C dX3_rounds_42 (fun z6 => ?_)
            refine s_iorU C dX3_rounds_43 (fun z8 => ?_)
            refine a_istore_n C dX3_rounds_44 (i := 2) rfl (by decide) rfl (vs1 := [some (.ref (ad ar1)), some (.int x2), some (.int z8), some (.int y32_3), some (.int y7_4), some (.int y32_5), some (.int y32_6)]) rfl ?_
            refine a_iload C dX3_rounds_45 rfl ?_
            refine a_aload_n C dX3_rounds_47 (i := 0) rfl rfl ?_
            refine a_iload C dX3_rounds_48 rfl ?_
            refine s_iald C (i := ar1) hk1 hm1 hn1 (by omega) (by omega) dX3_rounds_50 (fun n10 h11 => ?_)
            refine s_val (fun z12 e13 => ?_)
            have g14 := hb1 n10
            rw [e13] at g14
            refine s_iadd C dX3_rounds_51 (by omega) (fun z15 h16 => ?_)
            refine a_iload_n C dX3_rounds_52 (i := 1) rfl rfl ?_
            refine s_irem C dX3_rounds_53 (by omega) (by omega) (fun z17 h18 => ?_)
            refine a_istore C dX3_rounds_54 (by decide) rfl (vs1 := [some (.ref (ad ar1)), some (.int x2), some (.int z8), some (.int y32_3), some (.int y7_4), some (.int z17), some (.int y32_6)]) rfl ?_
            refine s_iinc C dX3_rounds_56 rfl (1) (by decide) (by omega) (by decide) rfl (fun z19 h20 => ?_)
            show AW ids ad ca Γ 59 [some (.ref (ad ar1)), some (.int x2), some (.int z8), some (.int y32_3), some (.int y7_4), some (.int z17), some (.int z19)] _ _
            refine a_goto C dX3_rounds_59 (tgt := 32) rfl ?_
            exact ih32 z8 y32_3 z17 z19 (by omega) (by omega) (by omega) (by omega) (by omega)
      refine a_iload C dX3_rounds_7 rfl ?_
      refine a_iload_n C dX3_rounds_9 (i := 1) rfl rfl ?_
      refine s_ic_ge C dX3_rounds_10 (tgt := 68) rfl (fun c21 => ?_) (fun c21 => ?_)
      ·
        refine a_iload_n C dX3_rounds_68 (i := 3) rfl rfl ?_
        exact a_iret Rt dX3_rounds_69 rfl (rfl)
      ·
        refine a_iload_n C dX3_rounds_13 (i := 2) rfl rfl ?_
        refine a_iload C dX3_rounds_14 rfl ?_
        refine s_ishrU C dX3_rounds_16 (fun z22 => ?_)
        refine s_iconst C dX3_rounds_17 (1) (by decide) (fun z24 h25 => ?_)
        refine s_iand C dX3_rounds_18 (by omega) (fun z26 h27 => ?_)
        refine s_if_ne C dX3_rounds_19 (tgt := 62) rfl (fun c28 => ?_) (fun c28 => ?_)
        ·
          exact j62 y7_2 y7_3 (by omega) (by omega)
        ·
          refine s_iincU C dX3_rounds_22 rfl (by decide) rfl (fun z29 => ?_)
          show AW ids ad ca Γ 25 [some (.ref (ad ar1)), some (.int x2), some (.int y7_2), some (.int z29), some (.int y7_4), none, none] _ _
          refine a_iload C dX3_rounds_25 rfl ?_
          refine a_istore C dX3_rounds_27 (by decide) rfl (vs1 := [some (.ref (ad ar1)), some (.int x2), some (.int y7_2), some (.int z29), some (.int y7_4), some (.int y7_4), none]) rfl ?_
          refine s_iconst C dX3_rounds_29 (0) (by decide) (fun z31 h32 => ?_)
          refine a_istore C dX3_rounds_30 (by decide) rfl (vs1 := [some (.ref (ad ar1)), some (.int x2), some (.int y7_2), some (.int z29), some (.int y7_4), some (.int y7_4), some (.int z31)]) rfl ?_
          exact j32 100000 y7_2 z29 y7_4 z31 (by omega) (by omega) (by omega) (by omega) (by omega)
  refine s_iconst C dX3_rounds_0 (0) (by decide) (fun z33 h34 => ?_)
  refine a_istore_n C dX3_rounds_1 (i := 2) rfl (by decide) rfl (vs1 := [some (.ref (ad ar1)), some (.int x2), some (.int z33), none, none, none, none]) rfl ?_
  refine s_iconst C dX3_rounds_2 (0) (by decide) (fun z35 h36 => ?_)
  refine a_istore_n C dX3_rounds_3 (i := 3) rfl (by decide) rfl (vs1 := [some (.ref (ad ar1)), some (.int x2), some (.int z33), some (.int z35), none, none, none]) rfl ?_
  refine s_iconst C dX3_rounds_4 (0) (by decide) (fun z37 h38 => ?_)
  refine a_istore C dX3_rounds_5 (by decide) rfl (vs1 := [some (.ref (ad ar1)), some (.int x2), some (.int z33), some (.int z35), some (.int z37), none, none]) rfl ?_
  exact j7 100000 z33 z35 z37 (by omega) (by omega)
theorem dX3_pairsToSwap_0 : decode cX3_pairsToSwap 0 = .ok (.iconst 0, 1) := by decide +kernel
theorem dX3_pairsToSwap_1 : decode cX3_pairsToSwap 1 = .ok (.istore_n 2, 1) := by decide +kernel
theorem dX3_pairsToSwap_2 : decode cX3_pairsToSwap 2 = .ok (.iconst 1, 1) := by decide +kernel
theorem dX3_pairsToSwap_3 : decode cX3_pairsToSwap 3 = .ok (.istore_n 3, 1) := by decide +kernel
theorem dX3_pairsToSwap_4 : decode cX3_pairsToSwap 4 = .ok (.iload_n 3, 1) := by decide +kernel
theorem dX3_pairsToSwap_5 : decode cX3_pairsToSwap 5 = .ok (.iload_n 1, 1) := by decide +kernel
theorem dX3_pairsToSwap_6 : decode cX3_pairsToSwap 6 = .ok (.if_icmp .ge 56, 3) := by decide +kernel
theorem dX3_pairsToSwap_9 : decode cX3_pairsToSwap 9 = .ok (.iconst 0, 1) := by decide +kernel
theorem dX3_pairsToSwap_10 : decode cX3_pairsToSwap 10 = .ok (.istore 4, 2) := by decide +kernel
theorem dX3_pairsToSwap_12 : decode cX3_pairsToSwap 12 = .ok (.iload 4, 2) := by decide +kernel
theorem dX3_pairsToSwap_14 : decode cX3_pairsToSwap 14 = .ok (.iload_n 3, 1) := by decide +kernel
theorem dX3_pairsToSwap_15 : decode cX3_pairsToSwap 15 = .ok (.if_icmp .ge 41, 3) := by decide +kernel
theorem dX3_pairsToSwap_18 : decode cX3_pairsToSwap 18 = .ok (.aload_n 0, 1) := by decide +kernel
theorem dX3_pairsToSwap_19 : decode cX3_pairsToSwap 19 = .ok (.iload_n 3, 1) := by decide +kernel
theorem dX3_pairsToSwap_20 : decode cX3_pairsToSwap 20 = .ok (.iaload, 1) := by decide +kernel
theorem dX3_pairsToSwap_21 : decode cX3_pairsToSwap 21 = .ok (.iload_n 3, 1) := by decide +kernel
theorem dX3_pairsToSwap_22 : decode cX3_pairsToSwap 22 = .ok (.iadd, 1) := by decide +kernel
theorem dX3_pairsToSwap_23 : decode cX3_pairsToSwap 23 = .ok (.iload 4, 2) := by decide +kernel
theorem dX3_pairsToSwap_25 : decode cX3_pairsToSwap 25 = .ok (.isub, 1) := by decide +kernel
theorem dX3_pairsToSwap_26 : decode cX3_pairsToSwap 26 = .ok (.invokestatic 15, 3) := by decide +kernel
theorem dX3_pairsToSwap_29 : decode cX3_pairsToSwap 29 = .ok (.ifCond .eq 21, 3) := by decide +kernel
theorem dX3_pairsToSwap_32 : decode cX3_pairsToSwap 32 = .ok (.aload_n 0, 1) := by decide +kernel
theorem dX3_pairsToSwap_33 : decode cX3_pairsToSwap 33 = .ok (.iload 4, 2) := by decide +kernel
theorem dX3_pairsToSwap_35 : decode cX3_pairsToSwap 35 = .ok (.iaload, 1) := by decide +kernel
theorem dX3_pairsToSwap_36 : decode cX3_pairsToSwap 36 = .ok (.iload_n 3, 1) := by decide +kernel
theorem dX3_pairsToSwap_37 : decode cX3_pairsToSwap 37 = .ok (.iload 4, 2) := by decide +kernel
theorem dX3_pairsToSwap_39 : decode cX3_pairsToSwap 39 = .ok (.isub, 1) := by decide +kernel
theorem dX3_pairsToSwap_40 : decode cX3_pairsToSwap 40 = .ok (.isub, 1) := by decide +kernel
theorem dX3_pairsToSwap_41 : decode cX3_pairsToSwap 41 = .ok (.invokestatic 15, 3) := by decide +kernel
theorem dX3_pairsToSwap_44 : decode cX3_pairsToSwap 44 = .ok (.ifCond .eq 6, 3) := by decide +kernel
theorem dX3_pairsToSwap_47 : decode cX3_pairsToSwap 47 = .ok (.iinc 2 1, 3) := by decide +kernel
theorem dX3_pairsToSwap_50 : decode cX3_pairsToSwap 50 = .ok (.iinc 4 1, 3) := by decide +kernel
theorem dX3_pairsToSwap_53 : decode cX3_pairsToSwap 53 = .ok (.goto (-41), 3) := by decide +kernel
theorem dX3_pairsToSwap_56 : decode cX3_pairsToSwap 56 = .ok (.iinc 3 1, 3) := by decide +kernel
theorem dX3_pairsToSwap_59 : decode cX3_pairsToSwap 59 = .ok (.goto (-55), 3) := by decide +kernel
theorem dX3_pairsToSwap_62 : decode cX3_pairsToSwap 62 = .ok (.iload_n 2, 1) := by decide +kernel
theorem dX3_pairsToSwap_63 : decode cX3_pairsToSwap 63 = .ok (.ireturn, 1) := by decide +kernel
set_option maxHeartbeats 4000000 in
set_option maxRecDepth 100000 in
theorem S_X3_pairsToSwap_H8 {l : Launch} {D : va_G} {ids : List Nat} {ad : Nat → Nat} {ca : Nat → ClassId} {σ : HS} {x2 : Int32} {ar1 : Nat} (hid : ∀ i, i < 277 → i ∈ ids) (hG : GIc σ) (hx2 : 0 ≤ x2.toInt ∧ x2.toInt ≤ 8) (hk1 : kd ar1 = 20) (hm1 : ar1 ∈ ids) (hn1 : al ar1 = 8) (hb1 : ∀ j : Nat, 0 ≤ (σ.1 ar1 j).toInt ∧ (σ.1 ar1 j).toInt ≤ 9999) : Ki l D ids ad ca yX3_pairsToSwap cX3_pairsToSwap 5 .int 1 20 [.ref (ad ar1), .int x2] σ (fun r σ1 => (σ1 = σ)) := by
  refine Ki.of (by decide) (Nat.le_of_ble_eq_true rfl) 3 (fun Γ C Rt => ?_)
  show AW ids ad ca Γ 0 [some (.ref (ad ar1)), some (.int x2), none, none, none] [] σ
  have j4 : ∀ (d4 : Nat) (y4_2 : Int32) (y4_3 : Int32), 8 - y4_3.toInt < d4 → 1 ≤ y4_3.toInt ∧ y4_3.toInt ≤ 8 → AW ids ad ca Γ 4 [some (.ref (ad ar1)), some (.int x2), some (.int y4_2), some (.int y4_3), none] [] σ := by
    intro d4
    induction d4 with
    | zero =>
      intro y4_2 y4_3 hd4 hx4_0
      exfalso
      omega
    | succ d4 ih4 =>
      intro y4_2 y4_3 hd4 hx4_0
      have j12 : ∀ (d12 : Nat) (y12_2 : Int32) (y12_4 : Int32), 7 - y12_4.toInt < d12 → 0 ≤ y12_4.toInt ∧ y12_4.toInt ≤ 7 → 2 ≤ x2.toInt ∧ x2.toInt ≤ 8 → 1 ≤ y4_3.toInt ∧ y4_3.toInt ≤ 7 → AW ids ad ca Γ 12 [some (.ref (ad ar1)), some (.int x2), some (.int y12_2), some (.int y4_3), some (.int y12_4)] [] σ := by
        intro d12
        induction d12 with
        | zero =>
          intro y12_2 y12_4 hd12 hx12_0 hx12_1 hx12_2
          exfalso
          omega
        | succ d12 ih12 =>
          intro y12_2 y12_4 hd12 hx12_0 hx12_1 hx12_2
          have j50 : ∀ (y50_2 : Int32), 0 ≤ y12_4.toInt ∧ y12_4.toInt ≤ 6 → AW ids ad ca Γ 50 [some (.ref (ad ar1)), some (.int x2), some (.int y50_2), some (.int y4_3), some (.int y12_4)] [] σ := by
            intro y50_2 hx50_0
            refine s_iinc C dX3_pairsToSwap_50 rfl (1) (by decide) (by omega) (by decide) rfl (fun z1 h2 => ?_)
            show AW ids ad ca Γ 53 [some (.ref (ad ar1)), some (.int x2), some (.int y50_2), some (.int y4_3), some (.int z1)] _ _
            refine a_goto C dX3_pairsToSwap_53 (tgt := 12) rfl ?_
            exact ih12 y50_2 z1 (by omega) (by omega) (by omega) (by omega)
          refine a_iload C dX3_pairsToSwap_12 rfl ?_
          refine a_iload_n C dX3_pairsToSwap_14 (i := 3) rfl rfl ?_
          refine s_ic_ge C dX3_pairsToSwap_15 (tgt := 56) rfl (fun c3 => ?_) (fun c3 => ?_)
          ·
            refine s_iinc C dX3_pairsToSwap_56 rfl (1) (by decide) (by omega) (by decide) rfl (fun z4 h5 => ?_)
            show AW ids ad ca Γ 59 [some (.ref (ad ar1)), some (.int x2), some (.int y12_2), some (.int z4), some (.int y12_4)] _ _
            refine a_goto C dX3_pairsToSwap_59 (tgt := 4) rfl ?_
            refine AW.sub (vs' := [some (.ref (ad ar1)), some (.int x2), some (.int y12_2), some (.int z4), none]) (lsub_of (by simp [lsubB])) ?_
            exact ih4 y12_2 z4 (by omega) (by omega)
          ·
            refine a_aload_n C dX3_pairsToSwap_18 (i := 0) rfl rfl ?_
            refine a_iload_n C dX3_pairsToSwap_19 (i := 3) rfl rfl ?_
            refine s_iald C (i := ar1) hk1 hm1 hn1 (by omega) (by omega) dX3_pairsToSwap_20 (fun n6 h7 => ?_)
            refine s_val (fun z8 e9 => ?_)
            have g10 := hb1 n6
            rw [e9] at g10
            refine a_iload_n C dX3_pairsToSwap_21 (i := 3) rfl rfl ?_
            refine s_iadd C dX3_pairsToSwap_22 (by omega) (fun z11 h12 => ?_)
            refine a_iload C dX3_pairsToSwap_23 rfl ?_
            refine s_isub C dX3_pairsToSwap_25 (by omega) (fun z13 h14 => ?_)
            refine a_callSNi C (S_X11_isHeight (x1 := z13) hid hG) ms_X11_isHeight (host := "StateJuggler") (by decide +kernel) rfl rfl (Nat.le_of_ble_eq_true rfl) (Nat.le_of_ble_eq_true rfl) (Nat.le_of_ble_eq_true rfl) dX3_pairsToSwap_26 (fun z15 σ16 q17 => ?_)
            obtain ⟨w18, w19, w20⟩ := q17
            rw [w18]
            refine s_if_eq C dX3_pairsToSwap_29 (tgt := 50) rfl (fun c21 => ?_) (fun c21 => ?_)
            ·
              exact j50 y12_2 (by omega)
            ·
              refine a_aload_n C dX3_pairsToSwap_32 (i := 0) rfl rfl ?_
              refine a_iload C dX3_pairsToSwap_33 rfl ?_
              refine s_iald C (i := ar1) hk1 hm1 hn1 (by omega) (by omega) dX3_pairsToSwap_35 (fun n22 h23 => ?_)
              refine s_val (fun z24 e25 => ?_)
              have g26 := hb1 n22
              rw [e25] at g26
              refine a_iload_n C dX3_pairsToSwap_36 (i := 3) rfl rfl ?_
              refine a_iload C dX3_pairsToSwap_37 rfl ?_
              refine s_isub C dX3_pairsToSwap_39 (by omega) (fun z27 h28 => ?_)
              refine s_isub C dX3_pairsToSwap_40 (by omega) (fun z29 h30 => ?_)
              refine a_callSNi C (S_X11_isHeight (x1 := z29) hid hG) ms_X11_isHeight (host := "StateJuggler") (by decide +kernel) rfl rfl (Nat.le_of_ble_eq_true rfl) (Nat.le_of_ble_eq_true rfl) (Nat.le_of_ble_eq_true rfl) dX3_pairsToSwap_41 (fun z31 σ32 q33 => ?_)
              obtain ⟨w34, w35, w36⟩ := q33
              rw [w34]
              refine s_if_eq C dX3_pairsToSwap_44 (tgt := 50) rfl (fun c37 => ?_) (fun c37 => ?_)
              ·
                exact j50 y12_2 (by omega)
              ·
                refine s_iincU C dX3_pairsToSwap_47 rfl (by decide) rfl (fun z38 => ?_)
                show AW ids ad ca Γ 50 [some (.ref (ad ar1)), some (.int x2), some (.int z38), some (.int y4_3), some (.int y12_4)] _ _
                exact j50 z38 (by omega)
      refine a_iload_n C dX3_pairsToSwap_4 (i := 3) rfl rfl ?_
      refine a_iload_n C dX3_pairsToSwap_5 (i := 1) rfl rfl ?_
      refine s_ic_ge C dX3_pairsToSwap_6 (tgt := 62) rfl (fun c40 => ?_) (fun c40 => ?_)
      ·
        refine a_iload_n C dX3_pairsToSwap_62 (i := 2) rfl rfl ?_
        exact a_iret Rt dX3_pairsToSwap_63 rfl (rfl)
      ·
        refine s_iconst C dX3_pairsToSwap_9 (0) (by decide) (fun z41 h42 => ?_)
        refine a_istore C dX3_pairsToSwap_10 (by decide) rfl (vs1 := [some (.ref (ad ar1)), some (.int x2), some (.int y4_2), some (.int y4_3), some (.int z41)]) rfl ?_
        exact j12 100000 y4_2 z41 (by omega) (by omega) (by omega) (by omega)
  refine s_iconst C dX3_pairsToSwap_0 (0) (by decide) (fun z43 h44 => ?_)
  refine a_istore_n C dX3_pairsToSwap_1 (i := 2) rfl (by decide) rfl (vs1 := [some (.ref (ad ar1)), some (.int x2), some (.int z43), none, none]) rfl ?_
  refine s_iconst C dX3_pairsToSwap_2 (1) (by decide) (fun z45 h46 => ?_)
  refine a_istore_n C dX3_pairsToSwap_3 (i := 3) rfl (by decide) rfl (vs1 := [some (.ref (ad ar1)), some (.int x2), some (.int z43), some (.int z45), none]) rfl ?_
  exact j4 100000 z43 z45 (by omega) (by omega)
theorem dX3_landingBits_0 : decode cX3_landingBits 0 = .ok (.iconst 0, 1) := by decide +kernel
theorem dX3_landingBits_1 : decode cX3_landingBits 1 = .ok (.istore_n 2, 1) := by decide +kernel
theorem dX3_landingBits_2 : decode cX3_landingBits 2 = .ok (.iconst 1, 1) := by decide +kernel
theorem dX3_landingBits_3 : decode cX3_landingBits 3 = .ok (.istore_n 3, 1) := by decide +kernel
theorem dX3_landingBits_4 : decode cX3_landingBits 4 = .ok (.iload_n 3, 1) := by decide +kernel
theorem dX3_landingBits_5 : decode cX3_landingBits 5 = .ok (.bipush 9, 2) := by decide +kernel
theorem dX3_landingBits_7 : decode cX3_landingBits 7 = .ok (.if_icmp .gt 37, 3) := by decide +kernel
theorem dX3_landingBits_10 : decode cX3_landingBits 10 = .ok (.iload_n 1, 1) := by decide +kernel
theorem dX3_landingBits_11 : decode cX3_landingBits 11 = .ok (.ifCond .le 33, 3) := by decide +kernel
theorem dX3_landingBits_14 : decode cX3_landingBits 14 = .ok (.aload_n 0, 1) := by decide +kernel
theorem dX3_landingBits_15 : decode cX3_landingBits 15 = .ok (.iload_n 3, 1) := by decide +kernel
theorem dX3_landingBits_16 : decode cX3_landingBits 16 = .ok (.ineg, 1) := by decide +kernel
theorem dX3_landingBits_17 : decode cX3_landingBits 17 = .ok (.iload_n 1, 1) := by decide +kernel
theorem dX3_landingBits_18 : decode cX3_landingBits 18 = .ok (.invokestatic 19, 3) := by decide +kernel
theorem dX3_landingBits_21 : decode cX3_landingBits 21 = .ok (.iaload, 1) := by decide +kernel
theorem dX3_landingBits_22 : decode cX3_landingBits 22 = .ok (.iload_n 3, 1) := by decide +kernel
theorem dX3_landingBits_23 : decode cX3_landingBits 23 = .ok (.isub, 1) := by decide +kernel
theorem dX3_landingBits_24 : decode cX3_landingBits 24 = .ok (.istore 4, 2) := by decide +kernel
theorem dX3_landingBits_26 : decode cX3_landingBits 26 = .ok (.iload 4, 2) := by decide +kernel
theorem dX3_landingBits_28 : decode cX3_landingBits 28 = .ok (.ifCond .lt 10, 3) := by decide +kernel
theorem dX3_landingBits_31 : decode cX3_landingBits 31 = .ok (.iload_n 2, 1) := by decide +kernel
theorem dX3_landingBits_32 : decode cX3_landingBits 32 = .ok (.iconst 1, 1) := by decide +kernel
theorem dX3_landingBits_33 : decode cX3_landingBits 33 = .ok (.iload 4, 2) := by decide +kernel
theorem dX3_landingBits_35 : decode cX3_landingBits 35 = .ok (.ishl, 1) := by decide +kernel
theorem dX3_landingBits_36 : decode cX3_landingBits 36 = .ok (.ior, 1) := by decide +kernel
theorem dX3_landingBits_37 : decode cX3_landingBits 37 = .ok (.istore_n 2, 1) := by decide +kernel
theorem dX3_landingBits_38 : decode cX3_landingBits 38 = .ok (.iinc 3 1, 3) := by decide +kernel
theorem dX3_landingBits_41 : decode cX3_landingBits 41 = .ok (.goto (-37), 3) := by decide +kernel
theorem dX3_landingBits_44 : decode cX3_landingBits 44 = .ok (.iload_n 2, 1) := by decide +kernel
theorem dX3_landingBits_45 : decode cX3_landingBits 45 = .ok (.ireturn, 1) := by decide +kernel
set_option maxHeartbeats 4000000 in
set_option maxRecDepth 100000 in
theorem S_X3_landingBits_H8 {l : Launch} {D : va_G} {ids : List Nat} {ad : Nat → Nat} {ca : Nat → ClassId} {σ : HS} {x2 : Int32} {ar1 : Nat} (hid : ∀ i, i < 277 → i ∈ ids) (hG : GIc σ) (hx2 : 0 ≤ x2.toInt ∧ x2.toInt ≤ 8) (hk1 : kd ar1 = 20) (hm1 : ar1 ∈ ids) (hn1 : al ar1 = 8) (hb1 : ∀ j : Nat, 0 ≤ (σ.1 ar1 j).toInt ∧ (σ.1 ar1 j).toInt ≤ 9999) : Ki l D ids ad ca yX3_landingBits cX3_landingBits 5 .int 1 22 [.ref (ad ar1), .int x2] σ (fun r σ1 => (σ1 = σ)) := by
  refine Ki.of (by decide) (Nat.le_of_ble_eq_true rfl) 3 (fun Γ C Rt => ?_)
  show AW ids ad ca Γ 0 [some (.ref (ad ar1)), some (.int x2), none, none, none] [] σ
  have j4 : ∀ (d4 : Nat) (y4_2 : Int32) (y4_3 : Int32), 10 - y4_3.toInt < d4 → 1 ≤ y4_3.toInt ∧ y4_3.toInt ≤ 10 → AW ids ad ca Γ 4 [some (.ref (ad ar1)), some (.int x2), some (.int y4_2), some (.int y4_3), none] [] σ := by
    intro d4
    induction d4 with
    | zero =>
      intro y4_2 y4_3 hd4 hx4_0
      exfalso
      omega
    | succ d4 ih4 =>
      intro y4_2 y4_3 hd4 hx4_0
      have j38 : ∀ (y38_2 : Int32), 1 ≤ x2.toInt ∧ x2.toInt ≤ 8 → 1 ≤ y4_3.toInt ∧ y4_3.toInt ≤ 9 → AW ids ad ca Γ 38 [some (.ref (ad ar1)), some (.int x2), some (.int y38_2), some (.int y4_3), none] [] σ := by
        intro y38_2 hx38_0 hx38_1
        refine s_iinc C dX3_landingBits_38 rfl (1) (by decide) (by omega) (by decide) rfl (fun z1 h2 => ?_)
        show AW ids ad ca Γ 41 [some (.ref (ad ar1)), some (.int x2), some (.int y38_2), some (.int z1), none] _ _
        refine a_goto C dX3_landingBits_41 (tgt := 4) rfl ?_
        exact ih4 y38_2 z1 (by omega) (by omega)
      refine a_iload_n C dX3_landingBits_4 (i := 3) rfl rfl ?_
      refine s_bipush C dX3_landingBits_5 (9) (by decide) (fun z3 h4 => ?_)
      refine s_ic_gt C dX3_landingBits_7 (tgt := 44) rfl (fun c5 => ?_) (fun c5 => ?_)
      ·
        refine a_iload_n C dX3_landingBits_44 (i := 2) rfl rfl ?_
        exact a_iret Rt dX3_landingBits_45 rfl (rfl)
      ·
        refine a_iload_n C dX3_landingBits_10 (i := 1) rfl rfl ?_
        refine s_if_le C dX3_landingBits_11 (tgt := 44) rfl (fun c6 => ?_) (fun c6 => ?_)
        ·
          refine a_iload_n C dX3_landingBits_44 (i := 2) rfl rfl ?_
          exact a_iret Rt dX3_landingBits_45 rfl (rfl)
        ·
          refine a_aload_n C dX3_landingBits_14 (i := 0) rfl rfl ?_
          refine a_iload_n C dX3_landingBits_15 (i := 3) rfl rfl ?_
          refine s_inegU C dX3_landingBits_16 (fun z7 => ?_)
          refine a_iload_n C dX3_landingBits_17 (i := 1) rfl rfl ?_
          refine a_callSi C (S_J9_floorMod_7cf53 (x1 := z7) (x2 := x2) hid hG (by omega)) ms_J9_floorMod_7cf53 ml_RX3_19 rfl rfl (Nat.le_of_ble_eq_true rfl) (Nat.le_of_ble_eq_true rfl) (Nat.le_of_ble_eq_true rfl) dX3_landingBits_18 (fun z9 σ10 q11 => ?_)
          obtain ⟨w12, w13⟩ := q11
          rw [w12]
          refine s_iald C (i := ar1) hk1 hm1 hn1 (by omega) (by omega) dX3_landingBits_21 (fun n14 h15 => ?_)
          refine s_val (fun z16 e17 => ?_)
          have g18 := hb1 n14
          rw [e17] at g18
          refine a_iload_n C dX3_landingBits_22 (i := 3) rfl rfl ?_
          refine s_isub C dX3_landingBits_23 (by omega) (fun z19 h20 => ?_)
          refine a_istore C dX3_landingBits_24 (by decide) rfl (vs1 := [some (.ref (ad ar1)), some (.int x2), some (.int y4_2), some (.int y4_3), some (.int z19)]) rfl ?_
          refine a_iload C dX3_landingBits_26 rfl ?_
          refine s_if_lt C dX3_landingBits_28 (tgt := 38) rfl (fun c21 => ?_) (fun c21 => ?_)
          ·
            refine AW.sub (vs' := [some (.ref (ad ar1)), some (.int x2), some (.int y4_2), some (.int y4_3), none]) (lsub_of (by simp [lsubB])) ?_
            exact j38 y4_2 (by omega) (by omega)
          ·
            refine a_iload_n C dX3_landingBits_31 (i := 2) rfl rfl ?_
            refine s_iconst C dX3_landingBits_32 (1) (by decide) (fun z22 h23 => ?_)
            refine a_iload C dX3_landingBits_33 rfl ?_
            refine s_ishlU C dX3_landingBits_35 (fun z24 => ?_)
            refine s_iorU C dX3_landingBits_36 (fun z26 => ?_)
            refine a_istore_n C dX3_landingBits_37 (i := 2) rfl (by decide) rfl (vs1 := [some (.ref (ad ar1)), some (.int x2), some (.int z26), some (.int y4_3), some (.int z19)]) rfl ?_
            refine AW.sub (vs' := [some (.ref (ad ar1)), some (.int x2), some (.int z26), some (.int y4_3), none]) (lsub_of (by simp [lsubB])) ?_
            exact j38 z26 (by omega) (by omega)
  refine s_iconst C dX3_landingBits_0 (0) (by decide) (fun z28 h29 => ?_)
  refine a_istore_n C dX3_landingBits_1 (i := 2) rfl (by decide) rfl (vs1 := [some (.ref (ad ar1)), some (.int x2), some (.int z28), none, none]) rfl ?_
  refine s_iconst C dX3_landingBits_2 (1) (by decide) (fun z30 h31 => ?_)
  refine a_istore_n C dX3_landingBits_3 (i := 3) rfl (by decide) rfl (vs1 := [some (.ref (ad ar1)), some (.int x2), some (.int z28), some (.int z30), none]) rfl ?_
  exact j4 100000 z28 z30 (by omega) (by omega)
theorem dX3_turns_0 : decode cX3_turns 0 = .ok (.iconst 0, 1) := by decide +kernel
theorem dX3_turns_1 : decode cX3_turns 1 = .ok (.istore_n 3, 1) := by decide +kernel
theorem dX3_turns_2 : decode cX3_turns 2 = .ok (.iload_n 3, 1) := by decide +kernel
theorem dX3_turns_3 : decode cX3_turns 3 = .ok (.iload_n 2, 1) := by decide +kernel
theorem dX3_turns_4 : decode cX3_turns 4 = .ok (.if_icmp .ge 61, 3) := by decide +kernel
theorem dX3_turns_7 : decode cX3_turns 7 = .ok (.iconst 1, 1) := by decide +kernel
theorem dX3_turns_8 : decode cX3_turns 8 = .ok (.istore 4, 2) := by decide +kernel
theorem dX3_turns_10 : decode cX3_turns 10 = .ok (.iconst 0, 1) := by decide +kernel
theorem dX3_turns_11 : decode cX3_turns 11 = .ok (.istore 5, 2) := by decide +kernel
theorem dX3_turns_13 : decode cX3_turns 13 = .ok (.iload 5, 2) := by decide +kernel
theorem dX3_turns_15 : decode cX3_turns 15 = .ok (.iload_n 2, 1) := by decide +kernel
theorem dX3_turns_16 : decode cX3_turns 16 = .ok (.if_icmp .ge 36, 3) := by decide +kernel
theorem dX3_turns_19 : decode cX3_turns 19 = .ok (.iload 4, 2) := by decide +kernel
theorem dX3_turns_21 : decode cX3_turns 21 = .ok (.ifCond .eq 22, 3) := by decide +kernel
theorem dX3_turns_24 : decode cX3_turns 24 = .ok (.aload_n 0, 1) := by decide +kernel
theorem dX3_turns_25 : decode cX3_turns 25 = .ok (.iload 5, 2) := by decide +kernel
theorem dX3_turns_27 : decode cX3_turns 27 = .ok (.iload_n 3, 1) := by decide +kernel
theorem dX3_turns_28 : decode cX3_turns 28 = .ok (.iadd, 1) := by decide +kernel
theorem dX3_turns_29 : decode cX3_turns 29 = .ok (.iload_n 2, 1) := by decide +kernel
theorem dX3_turns_30 : decode cX3_turns 30 = .ok (.irem, 1) := by decide +kernel
theorem dX3_turns_31 : decode cX3_turns 31 = .ok (.iaload, 1) := by decide +kernel
theorem dX3_turns_32 : decode cX3_turns 32 = .ok (.aload_n 1, 1) := by decide +kernel
theorem dX3_turns_33 : decode cX3_turns 33 = .ok (.iload 5, 2) := by decide +kernel
theorem dX3_turns_35 : decode cX3_turns 35 = .ok (.iaload, 1) := by decide +kernel
theorem dX3_turns_36 : decode cX3_turns 36 = .ok (.if_icmp .ne 7, 3) := by decide +kernel
theorem dX3_turns_39 : decode cX3_turns 39 = .ok (.iconst 1, 1) := by decide +kernel
theorem dX3_turns_40 : decode cX3_turns 40 = .ok (.goto 4, 3) := by decide +kernel
theorem dX3_turns_43 : decode cX3_turns 43 = .ok (.iconst 0, 1) := by decide +kernel
theorem dX3_turns_44 : decode cX3_turns 44 = .ok (.istore 4, 2) := by decide +kernel
theorem dX3_turns_46 : decode cX3_turns 46 = .ok (.iinc 5 1, 3) := by decide +kernel
theorem dX3_turns_49 : decode cX3_turns 49 = .ok (.goto (-36), 3) := by decide +kernel
theorem dX3_turns_52 : decode cX3_turns 52 = .ok (.iload 4, 2) := by decide +kernel
theorem dX3_turns_54 : decode cX3_turns 54 = .ok (.ifCond .eq 5, 3) := by decide +kernel
theorem dX3_turns_57 : decode cX3_turns 57 = .ok (.iload_n 3, 1) := by decide +kernel
theorem dX3_turns_58 : decode cX3_turns 58 = .ok (.ireturn, 1) := by decide +kernel
theorem dX3_turns_59 : decode cX3_turns 59 = .ok (.iinc 3 1, 3) := by decide +kernel
theorem dX3_turns_62 : decode cX3_turns 62 = .ok (.goto (-60), 3) := by decide +kernel
theorem dX3_turns_65 : decode cX3_turns 65 = .ok (.bipush (-2), 2) := by decide +kernel
theorem dX3_turns_67 : decode cX3_turns 67 = .ok (.ireturn, 1) := by decide +kernel
set_option maxHeartbeats 4000000 in
set_option maxRecDepth 100000 in
theorem S_X3_turns_H8_H8 {l : Launch} {D : va_G} {ids : List Nat} {ad : Nat → Nat} {ca : Nat → ClassId} {σ : HS} {x3 : Int32} {ar1 : Nat} {ar2 : Nat} (hid : ∀ i, i < 277 → i ∈ ids) (hG : GIc σ) (hx3 : 0 ≤ x3.toInt ∧ x3.toInt ≤ 8) (hk1 : kd ar1 = 20) (hm1 : ar1 ∈ ids) (hn1 : al ar1 = 8) (hb1 : ∀ j : Nat, 0 ≤ (σ.1 ar1 j).toInt ∧ (σ.1 ar1 j).toInt ≤ 9999) (hk2 : kd ar2 = 20) (hm2 : ar2 ∈ ids) (hn2 : al ar2 = 8) (hb2 : ∀ j : Nat, 0 ≤ (σ.1 ar2 j).toInt ∧ (σ.1 ar2 j).toInt ≤ 9999) : Ki l D ids ad ca yX3_turns cX3_turns 6 .int 0 0 [.ref (ad ar1), .ref (ad ar2), .int x3] σ (fun r σ1 => (σ1 = σ)) := by
  refine Ki.of (by decide) (Nat.le_of_ble_eq_true rfl) 3 (fun Γ C Rt => ?_)
  show AW ids ad ca Γ 0 [some (.ref (ad ar1)), some (.ref (ad ar2)), some (.int x3), none, none, none] [] σ
  have j2 : ∀ (d2 : Nat) (y2_3 : Int32), 8 - y2_3.toInt < d2 → 0 ≤ y2_3.toInt ∧ y2_3.toInt ≤ 8 → AW ids ad ca Γ 2 [some (.ref (ad ar1)), some (.ref (ad ar2)), some (.int x3), some (.int y2_3), none, none] [] σ := by
    intro d2
    induction d2 with
    | zero =>
      intro y2_3 hd2 hx2_0
      exfalso
      omega
    | succ d2 ih2 =>
      intro y2_3 hd2 hx2_0
      have j13 : ∀ (d13 : Nat) (y13_4 : Int32) (y13_5 : Int32), 8 - y13_5.toInt < d13 → 0 ≤ y13_4.toInt ∧ y13_4.toInt ≤ 1 → 0 ≤ y13_5.toInt ∧ y13_5.toInt ≤ 8 → 1 ≤ x3.toInt ∧ x3.toInt ≤ 8 → 0 ≤ y2_3.toInt ∧ y2_3.toInt ≤ 7 → AW ids ad ca Γ 13 [some (.ref (ad ar1)), some (.ref (ad ar2)), some (.int x3), some (.int y2_3), some (.int y13_4), some (.int y13_5)] [] σ := by
        intro d13
        induction d13 with
        | zero =>
          intro y13_4 y13_5 hd13 hx13_0 hx13_1 hx13_2 hx13_3
          exfalso
          omega
        | succ d13 ih13 =>
          intro y13_4 y13_5 hd13 hx13_0 hx13_1 hx13_2 hx13_3
          have j44 : ∀ (u44_0 : Int32), 0 ≤ u44_0.toInt ∧ u44_0.toInt ≤ 1 → 0 ≤ y13_5.toInt ∧ y13_5.toInt ≤ 7 → AW ids ad ca Γ 44 [some (.ref (ad ar1)), some (.ref (ad ar2)), some (.int x3), some (.int y2_3), none, some (.int y13_5)] [.int u44_0] σ := by
            intro u44_0 hx44_0 hx44_1
            refine a_istore C dX3_turns_44 (by decide) rfl (vs1 := [some (.ref (ad ar1)), some (.ref (ad ar2)), some (.int x3), some (.int y2_3), some (.int u44_0), some (.int y13_5)]) rfl ?_
            refine s_iinc C dX3_turns_46 rfl (1) (by decide) (by omega) (by decide) rfl (fun z1 h2 => ?_)
            show AW ids ad ca Γ 49 [some (.ref (ad ar1)), some (.ref (ad ar2)), some (.int x3), some (.int y2_3), some (.int u44_0), some (.int z1)] _ _
            refine a_goto C dX3_turns_49 (tgt := 13) rfl ?_
            exact ih13 u44_0 z1 (by omega) (by omega) (by omega) (by omega) (by omega)
          have j43 : 0 ≤ y13_5.toInt ∧ y13_5.toInt ≤ 7 → AW ids ad ca Γ 43 [some (.ref (ad ar1)), some (.ref (ad ar2)), some (.int x3), some (.int y2_3), none, some (.int y13_5)] [] σ := by
            intro hx43_0
            refine s_iconst C dX3_turns_43 (0) (by decide) (fun z3 h4 => ?_)
            exact j44 z3 (by omega) (by omega)
          refine a_iload C dX3_turns_13 rfl ?_
          refine a_iload_n C dX3_turns_15 (i := 2) rfl rfl ?_
          refine s_ic_ge C dX3_turns_16 (tgt := 52) rfl (fun c5 => ?_) (fun c5 => ?_)
          ·
            refine a_iload C dX3_turns_52 rfl ?_
            refine s_if_eq C dX3_turns_54 (tgt := 59) rfl (fun c6 => ?_) (fun c6 => ?_)
            ·
              refine s_iinc C dX3_turns_59 rfl (1) (by decide) (by omega) (by decide) rfl (fun z7 h8 => ?_)
              show AW ids ad ca Γ 62 [some (.ref (ad ar1)), some (.ref (ad ar2)), some (.int x3), some (.int z7), some (.int y13_4), some (.int y13_5)] _ _
              refine a_goto C dX3_turns_62 (tgt := 2) rfl ?_
              refine AW.sub (vs' := [some (.ref (ad ar1)), some (.ref (ad ar2)), some (.int x3), some (.int z7), none, none]) (lsub_of (by simp [lsubB])) ?_
              exact ih2 z7 (by omega) (by omega)
            ·
              refine a_iload_n C dX3_turns_57 (i := 3) rfl rfl ?_
              exact a_iret Rt dX3_turns_58 rfl (rfl)
          ·
            refine a_iload C dX3_turns_19 rfl ?_
            refine s_if_eq C dX3_turns_21 (tgt := 43) rfl (fun c9 => ?_) (fun c9 => ?_)
            ·
              refine AW.sub (vs' := [some (.ref (ad ar1)), some (.ref (ad ar2)), some (.int x3), some (.int y2_3), none, some (.int y13_5)]) (lsub_of (by simp [lsubB])) ?_
              exact j43 (by omega)
            ·
              refine a_aload_n C dX3_turns_24 (i := 0) rfl rfl ?_
              refine a_iload C dX3_turns_25 rfl ?_
              refine a_iload_n C dX3_turns_27 (i := 3) rfl rfl ?_
              refine s_iadd C dX3_turns_28 (by omega) (fun z10 h11 => ?_)
              refine a_iload_n C dX3_turns_29 (i := 2) rfl rfl ?_
              refine s_irem C dX3_turns_30 (by omega) (by omega) (fun z12 h13 => ?_)
              refine s_iald C (i := ar1) hk1 hm1 hn1 (by omega) (by omega) dX3_turns_31 (fun n14 h15 => ?_)
              refine s_val (fun z16 e17 => ?_)
              have g18 := hb1 n14
              rw [e17] at g18
              refine a_aload_n C dX3_turns_32 (i := 1) rfl rfl ?_
              refine a_iload C dX3_turns_33 rfl ?_
              refine s_iald C (i := ar2) hk2 hm2 hn2 (by omega) (by omega) dX3_turns_35 (fun n19 h20 => ?_)
              refine s_val (fun z21 e22 => ?_)
              have g23 := hb2 n19
              rw [e22] at g23
              refine s_ic_ne C dX3_turns_36 (tgt := 43) rfl (fun c24 => ?_) (fun c24 => ?_)
              ·
                refine AW.sub (vs' := [some (.ref (ad ar1)), some (.ref (ad ar2)), some (.int x3), some (.int y2_3), none, some (.int y13_5)]) (lsub_of (by simp [lsubB])) ?_
                exact j43 (by omega)
              ·
                refine s_iconst C dX3_turns_39 (1) (by decide) (fun z25 h26 => ?_)
                refine a_goto C dX3_turns_40 (tgt := 44) rfl ?_
                refine AW.sub (vs' := [some (.ref (ad ar1)), some (.ref (ad ar2)), some (.int x3), some (.int y2_3), none, some (.int y13_5)]) (lsub_of (by simp [lsubB])) ?_
                exact j44 z25 (by omega) (by omega)
      refine a_iload_n C dX3_turns_2 (i := 3) rfl rfl ?_
      refine a_iload_n C dX3_turns_3 (i := 2) rfl rfl ?_
      refine s_ic_ge C dX3_turns_4 (tgt := 65) rfl (fun c27 => ?_) (fun c27 => ?_)
      ·
        refine s_bipush C dX3_turns_65 (-2) (by decide) (fun z28 h29 => ?_)
        exact a_iret Rt dX3_turns_67 rfl (rfl)
      ·
        refine s_iconst C dX3_turns_7 (1) (by decide) (fun z30 h31 => ?_)
        refine a_istore C dX3_turns_8 (by decide) rfl (vs1 := [some (.ref (ad ar1)), some (.ref (ad ar2)), some (.int x3), some (.int y2_3), some (.int z30), none]) rfl ?_
        refine s_iconst C dX3_turns_10 (0) (by decide) (fun z32 h33 => ?_)
        refine a_istore C dX3_turns_11 (by decide) rfl (vs1 := [some (.ref (ad ar1)), some (.ref (ad ar2)), some (.int x3), some (.int y2_3), some (.int z30), some (.int z32)]) rfl ?_
        exact j13 100000 z30 z32 (by omega) (by omega) (by omega) (by omega) (by omega)
  refine s_iconst C dX3_turns_0 (0) (by decide) (fun z34 h35 => ?_)
  refine a_istore_n C dX3_turns_1 (i := 3) rfl (by decide) rfl (vs1 := [some (.ref (ad ar1)), some (.ref (ad ar2)), some (.int x3), some (.int z34), none, none]) rfl ?_
  exact j2 100000 z34 (by omega) (by omega)
theorem dX4_stir_0 : decode cX4_stir 0 = .ok (.iload_n 0, 1) := by decide +kernel
theorem dX4_stir_1 : decode cX4_stir 1 = .ok (.iload_n 1, 1) := by decide +kernel
theorem dX4_stir_2 : decode cX4_stir 2 = .ok (.ixor, 1) := by decide +kernel
theorem dX4_stir_3 : decode cX4_stir 3 = .ok (.ldc 129, 2) := by decide +kernel
theorem dX4_stir_5 : decode cX4_stir 5 = .ok (.imul, 1) := by decide +kernel
theorem dX4_stir_6 : decode cX4_stir 6 = .ok (.sipush 12345, 3) := by decide +kernel
theorem dX4_stir_9 : decode cX4_stir 9 = .ok (.iadd, 1) := by decide +kernel
theorem dX4_stir_10 : decode cX4_stir 10 = .ok (.istore_n 2, 1) := by decide +kernel
theorem dX4_stir_11 : decode cX4_stir 11 = .ok (.iload_n 2, 1) := by decide +kernel
theorem dX4_stir_12 : decode cX4_stir 12 = .ok (.iload_n 2, 1) := by decide +kernel
theorem dX4_stir_13 : decode cX4_stir 13 = .ok (.bipush 15, 2) := by decide +kernel
theorem dX4_stir_15 : decode cX4_stir 15 = .ok (.iushr, 1) := by decide +kernel
theorem dX4_stir_16 : decode cX4_stir 16 = .ok (.ixor, 1) := by decide +kernel
theorem dX4_stir_17 : decode cX4_stir 17 = .ok (.ireturn, 1) := by decide +kernel
set_option maxHeartbeats 4000000 in
set_option maxRecDepth 100000 in
theorem S_X4_stir {l : Launch} {D : va_G} {ids : List Nat} {ad : Nat → Nat} {ca : Nat → ClassId} {σ : HS} {x1 : Int32} {x2 : Int32} (hid : ∀ i, i < 277 → i ∈ ids) (hG : GIc σ) : Ki l D ids ad ca yX4_stir cX4_stir 3 .int 0 0 [.int x1, .int x2] σ (fun r σ1 => (σ1 = σ)) := by
  refine Ki.of (by decide) (Nat.le_of_ble_eq_true rfl) 1 (fun Γ C Rt => ?_)
  show AW ids ad ca Γ 0 [some (.int x1), some (.int x2), none] [] σ
  refine a_iload_n C dX4_stir_0 (i := 0) rfl rfl ?_
  refine a_iload_n C dX4_stir_1 (i := 1) rfl rfl ?_
  refine s_ixorU C dX4_stir_2 (fun z1 => ?_)
  refine s_ldc C dX4_stir_3 ko_RX4_129 (1103515245) (by decide) (fun z3 h4 => ?_)
  refine s_imulU C dX4_stir_5 (fun z5 => ?_)
  refine s_sipush C dX4_stir_6 (12345) (by decide) (fun z7 h8 => ?_)
  refine s_iaddU C dX4_stir_9 (fun z9 => ?_)
  refine a_istore_n C dX4_stir_10 (i := 2) rfl (by decide) rfl (vs1 := [some (.int x1), some (.int x2), some (.int z9)]) rfl ?_
  refine a_iload_n C dX4_stir_11 (i := 2) rfl rfl ?_
  refine a_iload_n C dX4_stir_12 (i := 2) rfl rfl ?_
  refine s_bipush C dX4_stir_13 (15) (by decide) (fun z11 h12 => ?_)
  refine s_iushrU C dX4_stir_15 (fun z13 => ?_)
  refine s_ixorU C dX4_stir_16 (fun z15 => ?_)
  exact a_iret Rt dX4_stir_17 rfl (rfl)
theorem dX4_lot_0 : decode cX4_lot 0 = .ok (.iload_n 1, 1) := by decide +kernel
theorem dX4_lot_1 : decode cX4_lot 1 = .ok (.bipush 125, 2) := by decide +kernel
theorem dX4_lot_3 : decode cX4_lot 3 = .ok (.invokestatic 126, 3) := by decide +kernel
theorem dX4_lot_6 : decode cX4_lot 6 = .ok (.iload_n 2, 1) := by decide +kernel
theorem dX4_lot_7 : decode cX4_lot 7 = .ok (.invokestatic 126, 3) := by decide +kernel
theorem dX4_lot_10 : decode cX4_lot 10 = .ok (.istore_n 3, 1) := by decide +kernel
theorem dX4_lot_11 : decode cX4_lot 11 = .ok (.iload_n 0, 1) := by decide +kernel
theorem dX4_lot_12 : decode cX4_lot 12 = .ok (.iconst 1, 1) := by decide +kernel
theorem dX4_lot_13 : decode cX4_lot 13 = .ok (.if_icmp .ge 7, 3) := by decide +kernel
theorem dX4_lot_16 : decode cX4_lot 16 = .ok (.iconst 0, 1) := by decide +kernel
theorem dX4_lot_17 : decode cX4_lot 17 = .ok (.goto 8, 3) := by decide +kernel
theorem dX4_lot_20 : decode cX4_lot 20 = .ok (.iload_n 3, 1) := by decide +kernel
theorem dX4_lot_21 : decode cX4_lot 21 = .ok (.iconst 1, 1) := by decide +kernel
theorem dX4_lot_22 : decode cX4_lot 22 = .ok (.iushr, 1) := by decide +kernel
theorem dX4_lot_23 : decode cX4_lot 23 = .ok (.iload_n 0, 1) := by decide +kernel
theorem dX4_lot_24 : decode cX4_lot 24 = .ok (.irem, 1) := by decide +kernel
theorem dX4_lot_25 : decode cX4_lot 25 = .ok (.ireturn, 1) := by decide +kernel
set_option maxHeartbeats 4000000 in
set_option maxRecDepth 100000 in
theorem S_X4_lot {l : Launch} {D : va_G} {ids : List Nat} {ad : Nat → Nat} {ca : Nat → ClassId} {σ : HS} {x1 : Int32} {x2 : Int32} {x3 : Int32} (hid : ∀ i, i < 277 → i ∈ ids) (hG : GIc σ) : Ki l D ids ad ca yX4_lot cX4_lot 4 .int 1 22 [.int x1, .int x2, .int x3] σ (fun r σ1 => (σ1 = σ)) := by
  refine Ki.of (by decide) (Nat.le_of_ble_eq_true rfl) 1 (fun Γ C Rt => ?_)
  show AW ids ad ca Γ 0 [some (.int x1), some (.int x2), some (.int x3), none] [] σ
  refine a_iload_n C dX4_lot_0 (i := 1) rfl rfl ?_
  refine s_bipush C dX4_lot_1 (125) (by decide) (fun z1 h2 => ?_)
  refine a_callSi C (S_X4_stir (x1 := x2) (x2 := z1) hid hG) ms_X4_stir ml_RX4_126 rfl rfl (Nat.le_of_ble_eq_true rfl) (Nat.le_of_ble_eq_true rfl) (Nat.le_of_ble_eq_true rfl) dX4_lot_3 (fun z3 σ4 q5 => ?_)
  rw [q5]
  refine a_iload_n C dX4_lot_6 (i := 2) rfl rfl ?_
  refine a_callSi C (S_X4_stir (x1 := z3) (x2 := x3) hid hG) ms_X4_stir ml_RX4_126 rfl rfl (Nat.le_of_ble_eq_true rfl) (Nat.le_of_ble_eq_true rfl) (Nat.le_of_ble_eq_true rfl) dX4_lot_7 (fun z6 σ7 q8 => ?_)
  rw [q8]
  refine a_istore_n C dX4_lot_10 (i := 3) rfl (by decide) rfl (vs1 := [some (.int x1), some (.int x2), some (.int x3), some (.int z6)]) rfl ?_
  refine a_iload_n C dX4_lot_11 (i := 0) rfl rfl ?_
  refine s_iconst C dX4_lot_12 (1) (by decide) (fun z9 h10 => ?_)
  refine s_ic_ge C dX4_lot_13 (tgt := 20) rfl (fun c11 => ?_) (fun c11 => ?_)
  ·
    refine a_iload_n C dX4_lot_20 (i := 3) rfl rfl ?_
    refine s_iconst C dX4_lot_21 (1) (by decide) (fun z12 h13 => ?_)
    refine s_iushrU C dX4_lot_22 (fun z14 => ?_)
    refine a_iload_n C dX4_lot_23 (i := 0) rfl rfl ?_
    refine s_iremU C dX4_lot_24 (by omega) (fun z16 => ?_)
    exact a_iret Rt dX4_lot_25 rfl (rfl)
  ·
    refine s_iconst C dX4_lot_16 (0) (by decide) (fun z18 h19 => ?_)
    refine a_goto C dX4_lot_17 (tgt := 25) rfl ?_
    exact a_iret Rt dX4_lot_25 rfl (rfl)
set_option maxHeartbeats 4000000 in
set_option maxRecDepth 100000 in
theorem S_X5_clear_12 {l : Launch} {D : va_G} {ids : List Nat} {ad : Nat → Nat} {ca : Nat → ClassId} {σ : HS} (hid : ∀ i, i < 277 → i ∈ ids) (hG : GIc σ) : Kv l D ids ad ca yX5_clear cX5_clear 1 0 0 [.ref (ad 12)] σ (fun σ1 => (GIc σ1) ∧ (ony [12] σ σ1)) := by
  refine Kv.of (by decide) (Nat.le_of_ble_eq_true rfl) 0 (fun Γ C Rt => ?_)
  show AW ids ad ca Γ 0 [some (.ref (ad 12))] [] σ
  refine a_aload_n C dX5_clear_0 (i := 0) rfl rfl ?_
  refine s_iconst C dX5_clear_1 (0) (by decide) (fun z1 h2 => ?_)
  refine a_put C fp_RX5_18 (i := 12) kd_12 (hid 12 (by decide)) rfl rfl dX5_clear_2 ?_
  have hG3 := wF_12_2 (v := z1) hG (by omega) (by omega)
  exact a_vret Rt dX5_clear_5 (⟨hG3, (ony.I ony.rf (by decide))⟩)
set_option maxHeartbeats 4000000 in
set_option maxRecDepth 100000 in
theorem S_X5_keep_12_56 {l : Launch} {D : va_G} {ids : List Nat} {ad : Nat → Nat} {ca : Nat → ClassId} {σ : HS} (hid : ∀ i, i < 277 → i ∈ ids) (hG : GIc σ) : Kv l D ids ad ca yX5_keep cX5_keep 2 2 81 [.ref (ad 12), .ref (ad 56)] σ (fun σ1 => (GIc σ1) ∧ (ony ([12] ++ ringN 160) σ σ1)) := by
  refine Kv.of (by decide) (Nat.le_of_ble_eq_true rfl) 0 (fun Γ C Rt => ?_)
  show AW ids ad ca Γ 0 [some (.ref (ad 12)), some (.ref (ad 56))] [] σ
  refine a_aload_n C dX5_keep_0 (i := 0) rfl rfl ?_
  refine a_get C fl_RX5_11 (i := 12) kd_12 (hid 12 (by decide)) (v := .ref (ad 13)) rfl dX5_keep_1 ?_
  refine a_aload_n C dX5_keep_4 (i := 0) rfl rfl ?_
  have g1 := bF_12_1 hG
  refine a_get C fl_RX5_22 (i := 12) kd_12 (hid 12 (by decide)) (v := .int (σ.1 12 1)) rfl dX5_keep_5 ?_
  refine s_aaldR C (hid 13 (by decide)) (by omega) (by omega) dX5_keep_8 (fun n2 h3 h4 => ?_)
  refine a_aload_n C dX5_keep_9 (i := 1) rfl rfl ?_
  refine a_callVv C (i := (76 + 4 * n2)) (n0 := 0) (by rw [show 76 + 4 * n2 = 56 + 4 * (n2 + 5) by omega]; exact (kdA (n2 + 5) (by omega)).1.1) (hid _ (by omega)) ⟨_, _, rfl⟩ (by decide) (S_copy 0 (n2 + 5) rfl (by omega) (by decide) (by omega) hid hG) mi_X0_copy ml_RX5_25 rfl rfl (Nat.le_of_ble_eq_true rfl) (Nat.le_of_ble_eq_true rfl) (Nat.le_of_ble_eq_true rfl) dX5_keep_10 (fun σ5 q6 => ?_)
  obtain ⟨hG7, ho8⟩ := q6
  have ho8 := ony.mono ho8 (ring_mem h4)
  refine a_aload_n C dX5_keep_13 (i := 0) rfl rfl ?_
  refine a_aload_n C dX5_keep_14 (i := 0) rfl rfl ?_
  have g9 := bF_12_1 hG7
  have g10 := bF_12_1 hG
  have g11 : (σ5.1 12 1).toInt = (σ.1 12 1).toInt := congrArg Int32.toInt (congrFun (ho8.1 12 (by decide)).1 1)
  refine a_get C fl_RX5_22 (i := 12) kd_12 (hid 12 (by decide)) (v := .int (σ5.1 12 1)) rfl dX5_keep_15 ?_
  refine s_iconst C dX5_keep_18 (1) (by decide) (fun z12 h13 => ?_)
  refine s_iadd C dX5_keep_19 (by omega) (fun z14 h15 => ?_)
  refine s_bipush C dX5_keep_20 (40) (by decide) (fun z16 h17 => ?_)
  refine s_iremc C dX5_keep_22 (40) (by omega) (by omega) (by decide) (fun z18 h19 => ?_)
  refine a_put C fp_RX5_22 (i := 12) kd_12 (hid 12 (by decide)) rfl rfl dX5_keep_23 ?_
  have hG20 := wF_12_1 (v := z18) hG7 (by omega) (by omega)
  refine a_aload_n C dX5_keep_26 (i := 0) rfl rfl ?_
  refine s_bipush C dX5_keep_27 (40) (by decide) (fun z21 h22 => ?_)
  refine a_aload_n C dX5_keep_29 (i := 0) rfl rfl ?_
  have g23 := bF_12_2 hG7
  have g24 := bF_12_2 hG
  have g25 : (σ5.1 12 2).toInt = (σ.1 12 2).toInt := congrArg Int32.toInt (congrFun (ho8.1 12 (by decide)).1 2)
  refine a_get C fl_RX5_18 (i := 12) kd_12 (hid 12 (by decide)) (v := .int (σ5.1 12 2)) rfl dX5_keep_30 ?_
  refine s_iconst C dX5_keep_33 (1) (by decide) (fun z26 h27 => ?_)
  refine s_iadd C dX5_keep_34 (by omega) (fun z28 h29 => ?_)
  refine s_mmin C dX5_keep_35 mm_RX5_29 mm_min.1 mm_min.2.1 mm_min.2.2 (Nat.le_of_ble_eq_true rfl) (Nat.le_of_ble_eq_true rfl) (fun z30 h31 => ?_)
  refine a_put C fp_RX5_18 (i := 12) kd_12 (hid 12 (by decide)) rfl rfl dX5_keep_38 ?_
  have hG32 := wF_12_2 (v := z30) hG20 (by omega) (by omega)
  exact a_vret Rt dX5_keep_41 (⟨hG32, (ony.I (ony.I (ony.tr ony.rf (ony.mono ho8 mono_r)) (by decide)) (by decide))⟩)
theorem dX5_giveBack_9 : decode cX5_giveBack 9 = .ok (.aload_n 0, 1) := by decide +kernel
theorem dX5_giveBack_10 : decode cX5_giveBack 10 = .ok (.aload_n 0, 1) := by decide +kernel
theorem dX5_giveBack_11 : decode cX5_giveBack 11 = .ok (.getfield 22, 3) := by decide +kernel
theorem dX5_giveBack_14 : decode cX5_giveBack 14 = .ok (.bipush 40, 2) := by decide +kernel
theorem dX5_giveBack_16 : decode cX5_giveBack 16 = .ok (.iadd, 1) := by decide +kernel
theorem dX5_giveBack_17 : decode cX5_giveBack 17 = .ok (.iconst 1, 1) := by decide +kernel
theorem dX5_giveBack_18 : decode cX5_giveBack 18 = .ok (.isub, 1) := by decide +kernel
theorem dX5_giveBack_19 : decode cX5_giveBack 19 = .ok (.bipush 40, 2) := by decide +kernel
theorem dX5_giveBack_21 : decode cX5_giveBack 21 = .ok (.irem, 1) := by decide +kernel
theorem dX5_giveBack_22 : decode cX5_giveBack 22 = .ok (.putfield 22, 3) := by decide +kernel
theorem dX5_giveBack_25 : decode cX5_giveBack 25 = .ok (.aload_n 1, 1) := by decide +kernel
theorem dX5_giveBack_26 : decode cX5_giveBack 26 = .ok (.aload_n 0, 1) := by decide +kernel
theorem dX5_giveBack_27 : decode cX5_giveBack 27 = .ok (.getfield 11, 3) := by decide +kernel
theorem dX5_giveBack_30 : decode cX5_giveBack 30 = .ok (.aload_n 0, 1) := by decide +kernel
theorem dX5_giveBack_31 : decode cX5_giveBack 31 = .ok (.getfield 22, 3) := by decide +kernel
theorem dX5_giveBack_34 : decode cX5_giveBack 34 = .ok (.aaload, 1) := by decide +kernel
theorem dX5_giveBack_35 : decode cX5_giveBack 35 = .ok (.invokevirtual 25, 3) := by decide +kernel
theorem dX5_giveBack_38 : decode cX5_giveBack 38 = .ok (.aload_n 0, 1) := by decide +kernel
theorem dX5_giveBack_39 : decode cX5_giveBack 39 = .ok (.dup, 1) := by decide +kernel
theorem dX5_giveBack_40 : decode cX5_giveBack 40 = .ok (.getfield 18, 3) := by decide +kernel
theorem dX5_giveBack_43 : decode cX5_giveBack 43 = .ok (.iconst 1, 1) := by decide +kernel
theorem dX5_giveBack_44 : decode cX5_giveBack 44 = .ok (.isub, 1) := by decide +kernel
theorem dX5_giveBack_45 : decode cX5_giveBack 45 = .ok (.putfield 18, 3) := by decide +kernel
theorem dX5_giveBack_48 : decode cX5_giveBack 48 = .ok (.iconst 1, 1) := by decide +kernel
theorem dX5_giveBack_49 : decode cX5_giveBack 49 = .ok (.ireturn, 1) := by decide +kernel
set_option maxHeartbeats 4000000 in
set_option maxRecDepth 100000 in
theorem S_X5_giveBack_12_56 {l : Launch} {D : va_G} {ids : List Nat} {ad : Nat → Nat} {ca : Nat → ClassId} {σ : HS} (hid : ∀ i, i < 277 → i ∈ ids) (hG : GIc σ) : Ki l D ids ad ca yX5_giveBack cX5_giveBack 2 .boolean 2 81 [.ref (ad 12), .ref (ad 56)] σ (fun r σ1 => (GIc σ1) ∧ (ony [12, 56, 57, 58, 59] σ σ1) ∧ (0 ≤ r.toInt ∧ r.toInt ≤ 1)) := by
  refine Ki.of (by decide) (Nat.le_of_ble_eq_true rfl) 0 (fun Γ C Rt => ?_)
  show AW ids ad ca Γ 0 [some (.ref (ad 12)), some (.ref (ad 56))] [] σ
  refine a_aload_n C dX5_giveBack_0 (i := 0) rfl rfl ?_
  have g1 := bF_12_2 hG
  refine a_get C fl_RX5_18 (i := 12) kd_12 (hid 12 (by decide)) (v := .int (σ.1 12 2)) rfl dX5_giveBack_1 ?_
  refine s_if_ne C dX5_giveBack_4 (tgt := 9) rfl (fun c2 => ?_) (fun c2 => ?_)
  ·
    refine a_aload_n C dX5_giveBack_9 (i := 0) rfl rfl ?_
    refine a_aload_n C dX5_giveBack_10 (i := 0) rfl rfl ?_
    have g3 := bF_12_1 hG
    refine a_get C fl_RX5_22 (i := 12) kd_12 (hid 12 (by decide)) (v := .int (σ.1 12 1)) rfl dX5_giveBack_11 ?_
    refine s_bipush C dX5_giveBack_14 (40) (by decide) (fun z4 h5 => ?_)
    refine s_iadd C dX5_giveBack_16 (by omega) (fun z6 h7 => ?_)
    refine s_iconst C dX5_giveBack_17 (1) (by decide) (fun z8 h9 => ?_)
    refine s_isub C dX5_giveBack_18 (by omega) (fun z10 h11 => ?_)
    refine s_bipush C dX5_giveBack_19 (40) (by decide) (fun z12 h13 => ?_)
    refine s_iremc C dX5_giveBack_21 (40) (by omega) (by omega) (by decide) (fun z14 h15 => ?_)
    refine a_put C fp_RX5_22 (i := 12) kd_12 (hid 12 (by decide)) rfl rfl dX5_giveBack_22 ?_
    have hG16 := wF_12_1 (v := z14) hG (by omega) (by omega)
    refine a_aload_n C dX5_giveBack_25 (i := 1) rfl rfl ?_
    refine a_aload_n C dX5_giveBack_26 (i := 0) rfl rfl ?_
    refine a_get C fl_RX5_11 (i := 12) kd_12 (hid 12 (by decide)) (v := .ref (ad 13)) rfl dX5_giveBack_27 ?_
    refine a_aload_n C dX5_giveBack_30 (i := 0) rfl rfl ?_
    refine a_get C fl_RX5_22 (i := 12) kd_12 (hid 12 (by decide)) (v := .int z14) rfl dX5_giveBack_31 ?_
    refine s_aaldR C (hid 13 (by decide)) (by omega) (by omega) dX5_giveBack_34 (fun n17 h18 h19 => ?_)
    refine a_callVv C (i := 56) (n0 := 0) kd_56 (hid 56 (by decide)) ⟨_, _, rfl⟩ (by decide) (S_copy (n17 + 5) 0 (by omega) rfl (by omega) (by decide) hid hG16) mi_X0_copy ml_RX5_25 rfl rfl (Nat.le_of_ble_eq_true rfl) (Nat.le_of_ble_eq_true rfl) (Nat.le_of_ble_eq_true rfl) dX5_giveBack_35 (fun σ20 q21 => ?_)
    obtain ⟨hG22, ho23⟩ := q21
    refine a_aload_n C dX5_giveBack_38 (i := 0) rfl rfl ?_
    refine a_dup C dX5_giveBack_39 rfl ?_
    have g24 := bF_12_2 hG22
    have g25 := bF_12_2 hG
    have g26 : (σ20.1 12 2).toInt = (σ.1 12 2).toInt := congrArg Int32.toInt (congrFun (ho23.1 12 (by decide)).1 2)
    refine a_get C fl_RX5_18 (i := 12) kd_12 (hid 12 (by decide)) (v := .int (σ20.1 12 2)) rfl dX5_giveBack_40 ?_
    refine s_iconst C dX5_giveBack_43 (1) (by decide) (fun z27 h28 => ?_)
    refine s_isub C dX5_giveBack_44 (by omega) (fun z29 h30 => ?_)
    refine a_put C fp_RX5_18 (i := 12) kd_12 (hid 12 (by decide)) rfl rfl dX5_giveBack_45 ?_
    have hG31 := wF_12_2 (v := z29) hG22 (by omega) (by omega)
    refine s_iconst C dX5_giveBack_48 (1) (by decide) (fun z32 h33 => ?_)
    exact a_iret Rt dX5_giveBack_49 (nar_z (by omega)).1 (⟨hG31, (ony.I (ony.tr (ony.I ony.rf (by decide)) (ony.mono ho23 (by decide))) (by decide)), (show 0 ≤ z32.toInt ∧ z32.toInt ≤ 1 by intros; omega)⟩)
  ·
    refine s_iconst C dX5_giveBack_7 (0) (by decide) (fun z34 h35 => ?_)
    exact a_iret Rt dX5_giveBack_8 (nar_z (by omega)).1 (⟨hG, ony.rf, (show 0 ≤ z34.toInt ∧ z34.toInt ≤ 1 by intros; omega)⟩)
theorem dX6_refuse_0 : decode cX6_refuse 0 = .ok (.aload_n 0, 1) := by decide +kernel
theorem dX6_refuse_1 : decode cX6_refuse 1 = .ok (.iload_n 1, 1) := by decide +kernel
theorem dX6_refuse_2 : decode cX6_refuse 2 = .ok (.putfield 34, 3) := by decide +kernel
theorem dX6_refuse_5 : decode cX6_refuse 5 = .ok (.aload_n 0, 1) := by decide +kernel
theorem dX6_refuse_6 : decode cX6_refuse 6 = .ok (.aload_n 0, 1) := by decide +kernel
theorem dX6_refuse_7 : decode cX6_refuse 7 = .ok (.getfield 12, 3) := by decide +kernel
theorem dX6_refuse_10 : decode cX6_refuse 10 = .ok (.getfield 70, 3) := by decide +kernel
theorem dX6_refuse_13 : decode cX6_refuse 13 = .ok (.aload_n 0, 1) := by decide +kernel
theorem dX6_refuse_14 : decode cX6_refuse 14 = .ok (.getfield 46, 3) := by decide +kernel
theorem dX6_refuse_17 : decode cX6_refuse 17 = .ok (.iaload, 1) := by decide +kernel
theorem dX6_refuse_18 : decode cX6_refuse 18 = .ok (.putfield 18, 3) := by decide +kernel
theorem dX6_refuse_21 : decode cX6_refuse 21 = .ok (.iconst 0, 1) := by decide +kernel
theorem dX6_refuse_22 : decode cX6_refuse 22 = .ok (.ireturn, 1) := by decide +kernel
set_option maxHeartbeats 4000000 in
set_option maxRecDepth 100000 in
theorem S_X6_refuse_1 {l : Launch} {D : va_G} {ids : List Nat} {ad : Nat → Nat} {ca : Nat → ClassId} {σ : HS} {x1 : Int32} (hid : ∀ i, i < 277 → i ∈ ids) (hG : GIc σ) (hR : RK σ) : Ki l D ids ad ca yX6_refuse cX6_refuse 2 .boolean 0 0 [.ref (ad 1), .int x1] σ (fun r σ1 => (GIc σ1) ∧ (ony [1] σ σ1) ∧ (RK σ1) ∧ (0 ≤ r.toInt ∧ r.toInt ≤ 0)) := by
  refine Ki.of (by decide) (Nat.le_of_ble_eq_true rfl) 0 (fun Γ C Rt => ?_)
  show AW ids ad ca Γ 0 [some (.ref (ad 1)), some (.int x1)] [] σ
  refine a_aload_n C dX6_refuse_0 (i := 0) rfl rfl ?_
  refine a_iload_n C dX6_refuse_1 (i := 1) rfl rfl ?_
  refine a_put C fp_RX6_34 (i := 1) kd_1 (hid 1 (by decide)) rfl rfl dX6_refuse_2 ?_
  have hG1 := wF_1_2 (v := x1) hG
  have hR2 := RK.I (i := 1) (k := 2) (v := x1) hR (by decide) (fun e => ⟨by decide, by decide⟩)
  refine a_aload_n C dX6_refuse_5 (i := 0) rfl rfl ?_
  refine a_aload_n C dX6_refuse_6 (i := 0) rfl rfl ?_
  refine a_get C fl_RX6_12 (i := 1) kd_1 (hid 1 (by decide)) (v := .ref (ad 2)) rfl dX6_refuse_7 ?_
  refine a_get C fl_RX6_70 (i := 2) kd_2 (hid 2 (by decide)) (v := .ref (ad 5)) rfl dX6_refuse_10 ?_
  refine a_aload_n C dX6_refuse_13 (i := 0) rfl rfl ?_
  have g3 := bF_1_5 hG
  refine a_get C fl_RX6_46 (i := 1) kd_1 (hid 1 (by decide)) (v := .int (σ.1 1 5)) rfl dX6_refuse_14 ?_
  refine s_iald C (i := 5) kd_5 (hid 5 (by decide)) al_5 (by omega) (by omega) dX6_refuse_17 (fun n4 h5 => ?_)
  refine s_val (fun z6 e7 => ?_)
  refine a_put C fp_RX6_18 (i := 1) kd_1 (hid 1 (by decide)) rfl rfl dX6_refuse_18 ?_
  have hG8 := wF_1_1 (v := z6) hG1
  have hR9 := RK.I (i := 1) (k := 1) (v := z6) hR2 (by decide) (fun e => ⟨by decide, by decide⟩)
  refine s_iconst C dX6_refuse_21 (0) (by decide) (fun z10 h11 => ?_)
  exact a_iret Rt dX6_refuse_22 (nar_z (by omega)).1 (⟨hG8, (ony.I (ony.I ony.rf (by decide)) (by decide)), hR9, (show 0 ≤ z10.toInt ∧ z10.toInt ≤ 0 by intros; omega)⟩)
theorem dX6_noteLater_0 : decode cX6_noteLater 0 = .ok (.aload_n 0, 1) := by decide +kernel
theorem dX6_noteLater_1 : decode cX6_noteLater 1 = .ok (.getfield 37, 3) := by decide +kernel
theorem dX6_noteLater_4 : decode cX6_noteLater 4 = .ok (.ifCond .ne 24, 3) := by decide +kernel
theorem dX6_noteLater_7 : decode cX6_noteLater 7 = .ok (.aload_n 0, 1) := by decide +kernel
theorem dX6_noteLater_8 : decode cX6_noteLater 8 = .ok (.iload_n 1, 1) := by decide +kernel
theorem dX6_noteLater_9 : decode cX6_noteLater 9 = .ok (.putfield 37, 3) := by decide +kernel
theorem dX6_noteLater_12 : decode cX6_noteLater 12 = .ok (.aload_n 0, 1) := by decide +kernel
theorem dX6_noteLater_13 : decode cX6_noteLater 13 = .ok (.aload_n 0, 1) := by decide +kernel
theorem dX6_noteLater_14 : decode cX6_noteLater 14 = .ok (.getfield 12, 3) := by decide +kernel
theorem dX6_noteLater_17 : decode cX6_noteLater 17 = .ok (.getfield 70, 3) := by decide +kernel
theorem dX6_noteLater_20 : decode cX6_noteLater 20 = .ok (.aload_n 0, 1) := by decide +kernel
theorem dX6_noteLater_21 : decode cX6_noteLater 21 = .ok (.getfield 46, 3) := by decide +kernel
theorem dX6_noteLater_24 : decode cX6_noteLater 24 = .ok (.iaload, 1) := by decide +kernel
theorem dX6_noteLater_25 : decode cX6_noteLater 25 = .ok (.putfield 40, 3) := by decide +kernel
theorem dX6_noteLater_28 : decode cX6_noteLater 28 = .ok (.return_, 1) := by decide +kernel
set_option maxHeartbeats 4000000 in
set_option maxRecDepth 100000 in
theorem S_X6_noteLater_1 {l : Launch} {D : va_G} {ids : List Nat} {ad : Nat → Nat} {ca : Nat → ClassId} {σ : HS} {x1 : Int32} (hid : ∀ i, i < 277 → i ∈ ids) (hG : GIc σ) (hR : RK σ) : Kv l D ids ad ca yX6_noteLater cX6_noteLater 2 0 0 [.ref (ad 1), .int x1] σ (fun σ1 => (GIc σ1) ∧ (ony [1] σ σ1) ∧ (RK σ1)) := by
  refine Kv.of (by decide) (Nat.le_of_ble_eq_true rfl) 0 (fun Γ C Rt => ?_)
  show AW ids ad ca Γ 0 [some (.ref (ad 1)), some (.int x1)] [] σ
  refine a_aload_n C dX6_noteLater_0 (i := 0) rfl rfl ?_
  refine a_get C fl_RX6_37 (i := 1) kd_1 (hid 1 (by decide)) (v := .int (σ.1 1 3)) rfl dX6_noteLater_1 ?_
  refine s_if_ne C dX6_noteLater_4 (tgt := 28) rfl (fun c1 => ?_) (fun c1 => ?_)
  ·
    exact a_vret Rt dX6_noteLater_28 (⟨hG, ony.rf, hR⟩)
  ·
    refine a_aload_n C dX6_noteLater_7 (i := 0) rfl rfl ?_
    refine a_iload_n C dX6_noteLater_8 (i := 1) rfl rfl ?_
    refine a_put C fp_RX6_37 (i := 1) kd_1 (hid 1 (by decide)) rfl rfl dX6_noteLater_9 ?_
    have hG2 := wF_1_3 (v := x1) hG
    have hR3 := RK.I (i := 1) (k := 3) (v := x1) hR (by decide) (fun e => ⟨by decide, by decide⟩)
    refine a_aload_n C dX6_noteLater_12 (i := 0) rfl rfl ?_
    refine a_aload_n C dX6_noteLater_13 (i := 0) rfl rfl ?_
    refine a_get C fl_RX6_12 (i := 1) kd_1 (hid 1 (by decide)) (v := .ref (ad 2)) rfl dX6_noteLater_14 ?_
    refine a_get C fl_RX6_70 (i := 2) kd_2 (hid 2 (by decide)) (v := .ref (ad 5)) rfl dX6_noteLater_17 ?_
    refine a_aload_n C dX6_noteLater_20 (i := 0) rfl rfl ?_
    have g4 := bF_1_5 hG
    refine a_get C fl_RX6_46 (i := 1) kd_1 (hid 1 (by decide)) (v := .int (σ.1 1 5)) rfl dX6_noteLater_21 ?_
    refine s_iald C (i := 5) kd_5 (hid 5 (by decide)) al_5 (by omega) (by omega) dX6_noteLater_24 (fun n5 h6 => ?_)
    refine s_val (fun z7 e8 => ?_)
    refine a_put C fp_RX6_40 (i := 1) kd_1 (hid 1 (by decide)) rfl rfl dX6_noteLater_25 ?_
    have hG9 := wF_1_4 (v := z7) hG2
    have hR10 := RK.I (i := 1) (k := 4) (v := z7) hR3 (by decide) (fun e => ⟨by decide, by decide⟩)
    exact a_vret Rt dX6_noteLater_28 (⟨hG9, (ony.I (ony.I ony.rf (by decide)) (by decide)), hR10⟩)
theorem dX6_take_0 : decode cX6_take 0 = .ok (.aload_n 0, 1) := by decide +kernel
theorem dX6_take_1 : decode cX6_take 1 = .ok (.getfield 53, 3) := by decide +kernel
theorem dX6_take_4 : decode cX6_take 4 = .ok (.iload_n 1, 1) := by decide +kernel
theorem dX6_take_5 : decode cX6_take 5 = .ok (.if_icmp .eq 9, 3) := by decide +kernel
theorem dX6_take_8 : decode cX6_take 8 = .ok (.aload_n 0, 1) := by decide +kernel
theorem dX6_take_9 : decode cX6_take 9 = .ok (.iconst 1, 1) := by decide +kernel
theorem dX6_take_10 : decode cX6_take 10 = .ok (.invokevirtual 60, 3) := by decide +kernel
theorem dX6_take_13 : decode cX6_take 13 = .ok (.ireturn, 1) := by decide +kernel
theorem dX6_take_14 : decode cX6_take 14 = .ok (.aload_n 0, 1) := by decide +kernel
theorem dX6_take_15 : decode cX6_take 15 = .ok (.getfield 46, 3) := by decide +kernel
theorem dX6_take_18 : decode cX6_take 18 = .ok (.ifCond .lt 13, 3) := by decide +kernel
theorem dX6_take_21 : decode cX6_take 21 = .ok (.aload_n 0, 1) := by decide +kernel
theorem dX6_take_22 : decode cX6_take 22 = .ok (.getfield 46, 3) := by decide +kernel
theorem dX6_take_25 : decode cX6_take 25 = .ok (.sipush 400, 3) := by decide +kernel
theorem dX6_take_28 : decode cX6_take 28 = .ok (.if_icmp .lt 9, 3) := by decide +kernel
theorem dX6_take_31 : decode cX6_take 31 = .ok (.aload_n 0, 1) := by decide +kernel
theorem dX6_take_32 : decode cX6_take 32 = .ok (.iconst 2, 1) := by decide +kernel
theorem dX6_take_33 : decode cX6_take 33 = .ok (.invokevirtual 60, 3) := by decide +kernel
theorem dX6_take_36 : decode cX6_take 36 = .ok (.ireturn, 1) := by decide +kernel
theorem dX6_take_37 : decode cX6_take 37 = .ok (.aload_n 0, 1) := by decide +kernel
theorem dX6_take_38 : decode cX6_take 38 = .ok (.aload_n 0, 1) := by decide +kernel
theorem dX6_take_39 : decode cX6_take 39 = .ok (.getfield 12, 3) := by decide +kernel
theorem dX6_take_42 : decode cX6_take 42 = .ok (.getfield 64, 3) := by decide +kernel
theorem dX6_take_45 : decode cX6_take 45 = .ok (.aload_n 0, 1) := by decide +kernel
theorem dX6_take_46 : decode cX6_take 46 = .ok (.getfield 46, 3) := by decide +kernel
theorem dX6_take_49 : decode cX6_take 49 = .ok (.laload, 1) := by decide +kernel
theorem dX6_take_50 : decode cX6_take 50 = .ok (.l2i, 1) := by decide +kernel
theorem dX6_take_51 : decode cX6_take 51 = .ok (.putfield 67, 3) := by decide +kernel
theorem dX6_take_54 : decode cX6_take 54 = .ok (.aload_n 0, 1) := by decide +kernel
theorem dX6_take_55 : decode cX6_take 55 = .ok (.dup, 1) := by decide +kernel
theorem dX6_take_56 : decode cX6_take 56 = .ok (.getfield 46, 3) := by decide +kernel
theorem dX6_take_59 : decode cX6_take 59 = .ok (.iconst 1, 1) := by decide +kernel
theorem dX6_take_60 : decode cX6_take 60 = .ok (.iadd, 1) := by decide +kernel
theorem dX6_take_61 : decode cX6_take 61 = .ok (.putfield 46, 3) := by decide +kernel
theorem dX6_take_64 : decode cX6_take 64 = .ok (.aload_n 0, 1) := by decide +kernel
theorem dX6_take_65 : decode cX6_take 65 = .ok (.aload_n 0, 1) := by decide +kernel
theorem dX6_take_66 : decode cX6_take 66 = .ok (.getfield 12, 3) := by decide +kernel
theorem dX6_take_69 : decode cX6_take 69 = .ok (.getfield 49, 3) := by decide +kernel
theorem dX6_take_72 : decode cX6_take 72 = .ok (.aload_n 0, 1) := by decide +kernel
theorem dX6_take_73 : decode cX6_take 73 = .ok (.getfield 46, 3) := by decide +kernel
theorem dX6_take_76 : decode cX6_take 76 = .ok (.iaload, 1) := by decide +kernel
theorem dX6_take_77 : decode cX6_take 77 = .ok (.putfield 53, 3) := by decide +kernel
theorem dX6_take_80 : decode cX6_take 80 = .ok (.iconst 1, 1) := by decide +kernel
theorem dX6_take_81 : decode cX6_take 81 = .ok (.ireturn, 1) := by decide +kernel
set_option maxHeartbeats 4000000 in
set_option maxRecDepth 100000 in
theorem S_X6_take_1 {l : Launch} {D : va_G} {ids : List Nat} {ad : Nat → Nat} {ca : Nat → ClassId} {σ : HS} {x1 : Int32} (hid : ∀ i, i < 277 → i ∈ ids) (hG : GIc σ) (hR : RK σ) : Ki l D ids ad ca yX6_take cX6_take 2 .boolean 1 21 [.ref (ad 1), .int x1] σ (fun r σ1 => (GIc σ1) ∧ (ony [1] σ σ1) ∧ (RK σ1) ∧ (0 ≤ r.toInt ∧ r.toInt ≤ 1) ∧ (r.toInt = 1 → (σ.1 1 6).toInt = x1.toInt) ∧ (r.toInt = 1 → x1.toInt = 21 → 0 ≤ (σ1.1 1 7).toInt ∧ (σ1.1 1 7).toInt ≤ 9999)) := by
  refine Ki.of (by decide) (Nat.le_of_ble_eq_true rfl) 0 (fun Γ C Rt => ?_)
  show AW ids ad ca Γ 0 [some (.ref (ad 1)), some (.int x1)] [] σ
  refine a_aload_n C dX6_take_0 (i := 0) rfl rfl ?_
  refine a_get C fl_RX6_53 (i := 1) kd_1 (hid 1 (by decide)) (v := .int (σ.1 1 6)) rfl dX6_take_1 ?_
  refine a_iload_n C dX6_take_4 (i := 1) rfl rfl ?_
  refine s_ic_eq C dX6_take_5 (tgt := 14) rfl (fun c1 => ?_) (fun c1 => ?_)
  ·
    refine a_aload_n C dX6_take_14 (i := 0) rfl rfl ?_
    have g2 := bF_1_5 hG
    refine a_get C fl_RX6_46 (i := 1) kd_1 (hid 1 (by decide)) (v := .int (σ.1 1 5)) rfl dX6_take_15 ?_
    refine s_if_lt C dX6_take_18 (tgt := 31) rfl (fun c3 => absurd c3 (by omega)) (fun c3 => ?_)
    refine a_aload_n C dX6_take_21 (i := 0) rfl rfl ?_
    have g4 := bF_1_5 hG
    refine a_get C fl_RX6_46 (i := 1) kd_1 (hid 1 (by decide)) (v := .int (σ.1 1 5)) rfl dX6_take_22 ?_
    refine s_sipush C dX6_take_25 (400) (by decide) (fun z5 h6 => ?_)
    refine s_ic_lt C dX6_take_28 (tgt := 37) rfl (fun c7 => ?_) (fun c7 => ?_)
    ·
      refine a_aload_n C dX6_take_37 (i := 0) rfl rfl ?_
      refine a_aload_n C dX6_take_38 (i := 0) rfl rfl ?_
      refine a_get C fl_RX6_12 (i := 1) kd_1 (hid 1 (by decide)) (v := .ref (ad 2)) rfl dX6_take_39 ?_
      refine a_get C fl_RX6_64 (i := 2) kd_2 (hid 2 (by decide)) (v := .ref (ad 6)) rfl dX6_take_42 ?_
      refine a_aload_n C dX6_take_45 (i := 0) rfl rfl ?_
      have g8 := bF_1_5 hG
      refine a_get C fl_RX6_46 (i := 1) kd_1 (hid 1 (by decide)) (v := .int (σ.1 1 5)) rfl dX6_take_46 ?_
      refine s_lald C (i := 6) kd_6 (hid 6 (by decide)) al_6 (by omega) (by omega) dX6_take_49 (fun n9 h10 => ?_)
      have hkk : σ.1 1 6 = σ.1 4 n9 := by
        have h9 := hR
        unfold RK at h9
        rw [show (σ.1 1 5).toInt.toNat = n9 by omega] at h9
        exact h9
      have hkv : x1.toInt = 21 → 0 ≤ (σ.2.1 6 n9).toInt ∧ (σ.2.1 6 n9).toInt ≤ 9999 := fun e9 => hG.2.2.2 n9 (by omega) (by rw [← hkk]; omega)
      refine s_l2iV C dX6_take_50 (fun z11 h12 => ?_)
      refine a_put C fp_RX6_67 (i := 1) kd_1 (hid 1 (by decide)) rfl rfl dX6_take_51 ?_
      have hG13 := wF_1_7 (v := z11) hG
      have hR14 := RK.I (i := 1) (k := 7) (v := z11) hR (by decide) (fun e => ⟨by decide, by decide⟩)
      refine a_aload_n C dX6_take_54 (i := 0) rfl rfl ?_
      refine a_dup C dX6_take_55 rfl ?_
      have g15 := bF_1_5 hG
      refine a_get C fl_RX6_46 (i := 1) kd_1 (hid 1 (by decide)) (v := .int (σ.1 1 5)) rfl dX6_take_56 ?_
      refine s_iconst C dX6_take_59 (1) (by decide) (fun z16 h17 => ?_)
      refine s_iadd C dX6_take_60 (by omega) (fun z18 h19 => ?_)
      refine a_put C fp_RX6_46 (i := 1) kd_1 (hid 1 (by decide)) rfl rfl dX6_take_61 ?_
      have hG20 := wF_1_5 (v := z18) hG13 (by omega) (by omega)
      refine a_aload_n C dX6_take_64 (i := 0) rfl rfl ?_
      refine a_aload_n C dX6_take_65 (i := 0) rfl rfl ?_
      refine a_get C fl_RX6_12 (i := 1) kd_1 (hid 1 (by decide)) (v := .ref (ad 2)) rfl dX6_take_66 ?_
      refine a_get C fl_RX6_49 (i := 2) kd_2 (hid 2 (by decide)) (v := .ref (ad 4)) rfl dX6_take_69 ?_
      refine a_aload_n C dX6_take_72 (i := 0) rfl rfl ?_
      refine a_get C fl_RX6_46 (i := 1) kd_1 (hid 1 (by decide)) (v := .int z18) rfl dX6_take_73 ?_
      refine s_iald C (i := 4) kd_4 (hid 4 (by decide)) al_4 (by omega) (by omega) dX6_take_76 (fun n21 h22 => ?_)
      refine s_val (fun z23 e24 => ?_)
      refine a_put C fp_RX6_53 (i := 1) kd_1 (hid 1 (by decide)) rfl rfl dX6_take_77 ?_
      have hG25 := wF_1_6 (v := z23) hG20
      have hR26 : RK (hI (hI (hI σ 1 7 z11) 1 5 z18) 1 6 z23) := (show z23 = σ.1 4 z18.toInt.toNat by rw [show z18.toInt.toNat = n21 by omega]; exact e24.symm)
      refine s_iconst C dX6_take_80 (1) (by decide) (fun z27 h28 => ?_)
      exact a_iret Rt dX6_take_81 (nar_z (by omega)).1 (⟨hG25, (ony.I (ony.I (ony.I ony.rf (by decide)) (by decide)) (by decide)), hR26, (show 0 ≤ z27.toInt ∧ z27.toInt ≤ 1 by intros; omega), (show z27.toInt = 1 → (σ.1 1 6).toInt = x1.toInt by intros; omega), (show z27.toInt = 1 → x1.toInt = 21 → 0 ≤ z11.toInt ∧ z11.toInt ≤ 9999 by intros; omega)⟩)
    ·
      refine a_aload_n C dX6_take_31 (i := 0) rfl rfl ?_
      refine s_iconst C dX6_take_32 (2) (by decide) (fun z29 h30 => ?_)
      refine a_callVi C (i := 1) kd_1 (hid 1 (by decide)) ⟨_, _, rfl⟩ (by decide) (S_X6_refuse_1 (x1 := z29) hid hG hR) mi_X6_refuse ml_RX6_60 rfl rfl (Nat.le_of_ble_eq_true rfl) (Nat.le_of_ble_eq_true rfl) (Nat.le_of_ble_eq_true rfl) dX6_take_33 (fun z31 σ32 q33 => ?_)
      obtain ⟨hG34, ho35, hR36, w37⟩ := q33
      exact a_iret Rt dX6_take_36 (nar_z (by omega)).1 (⟨hG34, (ony.tr ony.rf (ony.mono ho35 (by decide))), hR36, (show 0 ≤ z31.toInt ∧ z31.toInt ≤ 1 by intros; omega), (show z31.toInt = 1 → (σ.1 1 6).toInt = x1.toInt by intros; omega), (show z31.toInt = 1 → x1.toInt = 21 → 0 ≤ (σ32.1 1 7).toInt ∧ (σ32.1 1 7).toInt ≤ 9999 by intros; omega)⟩)
  ·
    refine a_aload_n C dX6_take_8 (i := 0) rfl rfl ?_
    refine s_iconst C dX6_take_9 (1) (by decide) (fun z38 h39 => ?_)
    refine a_callVi C (i := 1) kd_1 (hid 1 (by decide)) ⟨_, _, rfl⟩ (by decide) (S_X6_refuse_1 (x1 := z38) hid hG hR) mi_X6_refuse ml_RX6_60 rfl rfl (Nat.le_of_ble_eq_true rfl) (Nat.le_of_ble_eq_true rfl) (Nat.le_of_ble_eq_true rfl) dX6_take_10 (fun z40 σ41 q42 => ?_)
    obtain ⟨hG43, ho44, hR45, w46⟩ := q42
    exact a_iret Rt dX6_take_13 (nar_z (by omega)).1 (⟨hG43, (ony.tr ony.rf (ony.mono ho44 (by decide))), hR45, (show 0 ≤ z40.toInt ∧ z40.toInt ≤ 1 by intros; omega), (show z40.toInt = 1 → (σ.1 1 6).toInt = x1.toInt by intros; omega), (show z40.toInt = 1 → x1.toInt = 21 → 0 ≤ (σ41.1 1 7).toInt ∧ (σ41.1 1 7).toInt ≤ 9999 by intros; omega)⟩)
