theorem dX6_takeNumber_0 : decode cX6_takeNumber 0 = .ok (.aload_n 0, 1) := by decide +kernel
theorem dX6_takeNumber_1 : decode cX6_takeNumber 1 = .ok (.getfield 12, 3) := by decide +kernel
theorem dX6_takeNumber_4 : decode cX6_takeNumber 4 = .ok (.getfield 64, 3) := by decide +kernel
theorem dX6_takeNumber_7 : decode cX6_takeNumber 7 = .ok (.aload_n 0, 1) := by decide +kernel
theorem dX6_takeNumber_8 : decode cX6_takeNumber 8 = .ok (.getfield 46, 3) := by decide +kernel
theorem dX6_takeNumber_11 : decode cX6_takeNumber 11 = .ok (.laload, 1) := by decide +kernel
theorem dX6_takeNumber_12 : decode cX6_takeNumber 12 = .ok (.lstore_n 3, 1) := by decide +kernel
theorem dX6_takeNumber_13 : decode cX6_takeNumber 13 = .ok (.aload_n 0, 1) := by decide +kernel
theorem dX6_takeNumber_14 : decode cX6_takeNumber 14 = .ok (.getfield 53, 3) := by decide +kernel
theorem dX6_takeNumber_17 : decode cX6_takeNumber 17 = .ok (.bipush 21, 2) := by decide +kernel
theorem dX6_takeNumber_19 : decode cX6_takeNumber 19 = .ok (.if_icmp .ne 22, 3) := by decide +kernel
theorem dX6_takeNumber_22 : decode cX6_takeNumber 22 = .ok (.lload_n 3, 1) := by decide +kernel
theorem dX6_takeNumber_23 : decode cX6_takeNumber 23 = .ok (.iload_n 1, 1) := by decide +kernel
theorem dX6_takeNumber_24 : decode cX6_takeNumber 24 = .ok (.i2l, 1) := by decide +kernel
theorem dX6_takeNumber_25 : decode cX6_takeNumber 25 = .ok (.lcmp, 1) := by decide +kernel
theorem dX6_takeNumber_26 : decode cX6_takeNumber 26 = .ok (.ifCond .lt 10, 3) := by decide +kernel
theorem dX6_takeNumber_29 : decode cX6_takeNumber 29 = .ok (.lload_n 3, 1) := by decide +kernel
theorem dX6_takeNumber_30 : decode cX6_takeNumber 30 = .ok (.iload_n 2, 1) := by decide +kernel
theorem dX6_takeNumber_31 : decode cX6_takeNumber 31 = .ok (.i2l, 1) := by decide +kernel
theorem dX6_takeNumber_32 : decode cX6_takeNumber 32 = .ok (.lcmp, 1) := by decide +kernel
theorem dX6_takeNumber_33 : decode cX6_takeNumber 33 = .ok (.ifCond .le 8, 3) := by decide +kernel
theorem dX6_takeNumber_36 : decode cX6_takeNumber 36 = .ok (.aload_n 0, 1) := by decide +kernel
theorem dX6_takeNumber_37 : decode cX6_takeNumber 37 = .ok (.iconst 5, 1) := by decide +kernel
theorem dX6_takeNumber_38 : decode cX6_takeNumber 38 = .ok (.invokevirtual 73, 3) := by decide +kernel
theorem dX6_takeNumber_41 : decode cX6_takeNumber 41 = .ok (.aload_n 0, 1) := by decide +kernel
theorem dX6_takeNumber_42 : decode cX6_takeNumber 42 = .ok (.bipush 21, 2) := by decide +kernel
theorem dX6_takeNumber_44 : decode cX6_takeNumber 44 = .ok (.invokevirtual 77, 3) := by decide +kernel
theorem dX6_takeNumber_47 : decode cX6_takeNumber 47 = .ok (.ireturn, 1) := by decide +kernel
set_option maxHeartbeats 4000000 in
set_option maxRecDepth 100000 in
theorem S_X6_takeNumber_1 {l : Launch} {D : va_G} {ids : List Nat} {ad : Nat → Nat} {ca : Nat → ClassId} {σ : HS} {x1 : Int32} {x2 : Int32} (hid : ∀ i, i < 277 → i ∈ ids) (hG : GIc σ) (hR : RK σ) : Ki l D ids ad ca yX6_takeNumber cX6_takeNumber 5 .boolean 2 42 [.ref (ad 1), .int x1, .int x2] σ (fun r σ1 => (GIc σ1) ∧ (ony [1] σ σ1) ∧ (RK σ1) ∧ (0 ≤ r.toInt ∧ r.toInt ≤ 1) ∧ (r.toInt = 1 → 0 ≤ (σ1.1 1 7).toInt ∧ (σ1.1 1 7).toInt ≤ 9999)) := by
  refine Ki.of (by decide) (Nat.le_of_ble_eq_true rfl) 2 (fun Γ C Rt => ?_)
  show AW ids ad ca Γ 0 [some (.ref (ad 1)), some (.int x1), some (.int x2), none, none] [] σ
  have j41 : ∀ (σq41 : HS), GIc σq41 → ony [1] σ σq41 → RK σq41 → AW ids ad ca Γ 41 [some (.ref (ad 1)), none, none, none, none] [] σq41 := by
    intro σq41 hGq41 hoq41 hRq41
    refine a_aload_n C dX6_takeNumber_41 (i := 0) rfl rfl ?_
    refine s_bipush C dX6_takeNumber_42 (21) (by decide) (fun z1 h2 => ?_)
    refine a_callVi C (i := 1) kd_1 (hid 1 (by decide)) ⟨_, _, rfl⟩ (by decide) (S_X6_take_1 (x1 := z1) hid hGq41 hRq41) mi_X6_take ml_RX6_77 rfl rfl (Nat.le_of_ble_eq_true rfl) (Nat.le_of_ble_eq_true rfl) (Nat.le_of_ble_eq_true rfl) dX6_takeNumber_44 (fun z3 σ4 q5 => ?_)
    obtain ⟨hG6, ho7, hR8, w9, w10, w11⟩ := q5
    exact a_iret Rt dX6_takeNumber_47 (nar_z (by omega)).1 (⟨hG6, (ony.tr hoq41 (ony.mono ho7 (by decide))), hR8, (show 0 ≤ z3.toInt ∧ z3.toInt ≤ 1 by intros; omega), (show z3.toInt = 1 → 0 ≤ (σ4.1 1 7).toInt ∧ (σ4.1 1 7).toInt ≤ 9999 by intros; omega)⟩)
  have j36 : ∀ (σq36 : HS), GIc σq36 → ony [1] σ σq36 → RK σq36 → AW ids ad ca Γ 36 [some (.ref (ad 1)), none, none, none, none] [] σq36 := by
    intro σq36 hGq36 hoq36 hRq36
    refine a_aload_n C dX6_takeNumber_36 (i := 0) rfl rfl ?_
    refine s_iconst C dX6_takeNumber_37 (5) (by decide) (fun z12 h13 => ?_)
    refine a_callVv C (i := 1) kd_1 (hid 1 (by decide)) ⟨_, _, rfl⟩ (by decide) (S_X6_noteLater_1 (x1 := z12) hid hGq36 hRq36) mi_X6_noteLater ml_RX6_73 rfl rfl (Nat.le_of_ble_eq_true rfl) (Nat.le_of_ble_eq_true rfl) (Nat.le_of_ble_eq_true rfl) dX6_takeNumber_38 (fun σ15 q16 => ?_)
    obtain ⟨hG17, ho18, hR19⟩ := q16
    exact j41 _ hG17 (ony.tr hoq36 (ony.mono ho18 (by decide))) hR19
  refine a_aload_n C dX6_takeNumber_0 (i := 0) rfl rfl ?_
  refine a_get C fl_RX6_12 (i := 1) kd_1 (hid 1 (by decide)) (v := .ref (ad 2)) rfl dX6_takeNumber_1 ?_
  refine a_get C fl_RX6_64 (i := 2) kd_2 (hid 2 (by decide)) (v := .ref (ad 6)) rfl dX6_takeNumber_4 ?_
  refine a_aload_n C dX6_takeNumber_7 (i := 0) rfl rfl ?_
  have g20 := bF_1_5 hG
  refine a_get C fl_RX6_46 (i := 1) kd_1 (hid 1 (by decide)) (v := .int (σ.1 1 5)) rfl dX6_takeNumber_8 ?_
  refine s_lald C (i := 6) kd_6 (hid 6 (by decide)) al_6 (by omega) (by omega) dX6_takeNumber_11 (fun n21 h22 => ?_)
  refine a_lstore_n C dX6_takeNumber_12 (i := 3) rfl (by decide) rfl (vs1 := [some (.ref (ad 1)), some (.int x1), some (.int x2), some (.long (σ.2.1 6 n21)), none]) rfl ?_
  refine a_aload_n C dX6_takeNumber_13 (i := 0) rfl rfl ?_
  refine a_get C fl_RX6_53 (i := 1) kd_1 (hid 1 (by decide)) (v := .int (σ.1 1 6)) rfl dX6_takeNumber_14 ?_
  refine s_bipush C dX6_takeNumber_17 (21) (by decide) (fun z23 h24 => ?_)
  refine s_ic_ne C dX6_takeNumber_19 (tgt := 41) rfl (fun c25 => ?_) (fun c25 => ?_)
  ·
    refine AW.sub (vs' := [some (.ref (ad 1)), none, none, none, none]) (lsub_of (by simp [lsubB])) ?_
    exact j41 _ hG ony.rf hR
  ·
    refine a_lload_n C dX6_takeNumber_22 (i := 3) rfl rfl ?_
    refine a_iload_n C dX6_takeNumber_23 (i := 1) rfl rfl ?_
    refine s_i2lU C dX6_takeNumber_24 (fun w26 => ?_)
    refine s_lcmpU C dX6_takeNumber_25 (fun z27 => ?_)
    refine s_if_lt C dX6_takeNumber_26 (tgt := 36) rfl (fun c29 => ?_) (fun c29 => ?_)
    ·
      refine AW.sub (vs' := [some (.ref (ad 1)), none, none, none, none]) (lsub_of (by simp [lsubB])) ?_
      exact j36 _ hG ony.rf hR
    ·
      refine a_lload_n C dX6_takeNumber_29 (i := 3) rfl rfl ?_
      refine a_iload_n C dX6_takeNumber_30 (i := 2) rfl rfl ?_
      refine s_i2lU C dX6_takeNumber_31 (fun w30 => ?_)
      refine s_lcmpU C dX6_takeNumber_32 (fun z31 => ?_)
      refine s_if_le C dX6_takeNumber_33 (tgt := 41) rfl (fun c33 => ?_) (fun c33 => ?_)
      ·
        refine AW.sub (vs' := [some (.ref (ad 1)), none, none, none, none]) (lsub_of (by simp [lsubB])) ?_
        exact j41 _ hG ony.rf hR
      ·
        refine AW.sub (vs' := [some (.ref (ad 1)), none, none, none, none]) (lsub_of (by simp [lsubB])) ?_
        exact j36 _ hG ony.rf hR
theorem dX6_takeName_0 : decode cX6_takeName 0 = .ok (.aload_n 0, 1) := by decide +kernel
theorem dX6_takeName_1 : decode cX6_takeName 1 = .ok (.getfield 12, 3) := by decide +kernel
theorem dX6_takeName_4 : decode cX6_takeName 4 = .ok (.getfield 64, 3) := by decide +kernel
theorem dX6_takeName_7 : decode cX6_takeName 7 = .ok (.aload_n 0, 1) := by decide +kernel
theorem dX6_takeName_8 : decode cX6_takeName 8 = .ok (.getfield 46, 3) := by decide +kernel
theorem dX6_takeName_11 : decode cX6_takeName 11 = .ok (.laload, 1) := by decide +kernel
theorem dX6_takeName_12 : decode cX6_takeName 12 = .ok (.lstore_n 1, 1) := by decide +kernel
theorem dX6_takeName_13 : decode cX6_takeName 13 = .ok (.iconst 0, 1) := by decide +kernel
theorem dX6_takeName_14 : decode cX6_takeName 14 = .ok (.istore_n 3, 1) := by decide +kernel
theorem dX6_takeName_15 : decode cX6_takeName 15 = .ok (.iload_n 3, 1) := by decide +kernel
theorem dX6_takeName_16 : decode cX6_takeName 16 = .ok (.aload_n 0, 1) := by decide +kernel
theorem dX6_takeName_17 : decode cX6_takeName 17 = .ok (.getfield 31, 3) := by decide +kernel
theorem dX6_takeName_20 : decode cX6_takeName 20 = .ok (.if_icmp .ge 34, 3) := by decide +kernel
theorem dX6_takeName_23 : decode cX6_takeName 23 = .ok (.aload_n 0, 1) := by decide +kernel
theorem dX6_takeName_24 : decode cX6_takeName 24 = .ok (.getfield 53, 3) := by decide +kernel
theorem dX6_takeName_27 : decode cX6_takeName 27 = .ok (.bipush 20, 2) := by decide +kernel
theorem dX6_takeName_29 : decode cX6_takeName 29 = .ok (.if_icmp .ne 19, 3) := by decide +kernel
theorem dX6_takeName_32 : decode cX6_takeName 32 = .ok (.aload_n 0, 1) := by decide +kernel
theorem dX6_takeName_33 : decode cX6_takeName 33 = .ok (.getfield 22, 3) := by decide +kernel
theorem dX6_takeName_36 : decode cX6_takeName 36 = .ok (.iload_n 3, 1) := by decide +kernel
theorem dX6_takeName_37 : decode cX6_takeName 37 = .ok (.laload, 1) := by decide +kernel
theorem dX6_takeName_38 : decode cX6_takeName 38 = .ok (.lload_n 1, 1) := by decide +kernel
theorem dX6_takeName_39 : decode cX6_takeName 39 = .ok (.lcmp, 1) := by decide +kernel
theorem dX6_takeName_40 : decode cX6_takeName 40 = .ok (.ifCond .ne 8, 3) := by decide +kernel
theorem dX6_takeName_43 : decode cX6_takeName 43 = .ok (.aload_n 0, 1) := by decide +kernel
theorem dX6_takeName_44 : decode cX6_takeName 44 = .ok (.iconst 3, 1) := by decide +kernel
theorem dX6_takeName_45 : decode cX6_takeName 45 = .ok (.invokevirtual 73, 3) := by decide +kernel
theorem dX6_takeName_48 : decode cX6_takeName 48 = .ok (.iinc 3 1, 3) := by decide +kernel
theorem dX6_takeName_51 : decode cX6_takeName 51 = .ok (.goto (-36), 3) := by decide +kernel
theorem dX6_takeName_54 : decode cX6_takeName 54 = .ok (.aload_n 0, 1) := by decide +kernel
theorem dX6_takeName_55 : decode cX6_takeName 55 = .ok (.getfield 31, 3) := by decide +kernel
theorem dX6_takeName_58 : decode cX6_takeName 58 = .ok (.aload_n 0, 1) := by decide +kernel
theorem dX6_takeName_59 : decode cX6_takeName 59 = .ok (.getfield 22, 3) := by decide +kernel
theorem dX6_takeName_62 : decode cX6_takeName 62 = .ok (.arraylength, 1) := by decide +kernel
theorem dX6_takeName_63 : decode cX6_takeName 63 = .ok (.if_icmp .ge 23, 3) := by decide +kernel
theorem dX6_takeName_66 : decode cX6_takeName 66 = .ok (.aload_n 0, 1) := by decide +kernel
theorem dX6_takeName_67 : decode cX6_takeName 67 = .ok (.getfield 22, 3) := by decide +kernel
theorem dX6_takeName_70 : decode cX6_takeName 70 = .ok (.aload_n 0, 1) := by decide +kernel
theorem dX6_takeName_71 : decode cX6_takeName 71 = .ok (.getfield 31, 3) := by decide +kernel
theorem dX6_takeName_74 : decode cX6_takeName 74 = .ok (.lload_n 1, 1) := by decide +kernel
theorem dX6_takeName_75 : decode cX6_takeName 75 = .ok (.lastore, 1) := by decide +kernel
theorem dX6_takeName_76 : decode cX6_takeName 76 = .ok (.aload_n 0, 1) := by decide +kernel
theorem dX6_takeName_77 : decode cX6_takeName 77 = .ok (.dup, 1) := by decide +kernel
theorem dX6_takeName_78 : decode cX6_takeName 78 = .ok (.getfield 31, 3) := by decide +kernel
theorem dX6_takeName_81 : decode cX6_takeName 81 = .ok (.iconst 1, 1) := by decide +kernel
theorem dX6_takeName_82 : decode cX6_takeName 82 = .ok (.iadd, 1) := by decide +kernel
theorem dX6_takeName_83 : decode cX6_takeName 83 = .ok (.putfield 31, 3) := by decide +kernel
theorem dX6_takeName_86 : decode cX6_takeName 86 = .ok (.aload_n 0, 1) := by decide +kernel
theorem dX6_takeName_87 : decode cX6_takeName 87 = .ok (.bipush 20, 2) := by decide +kernel
theorem dX6_takeName_89 : decode cX6_takeName 89 = .ok (.invokevirtual 77, 3) := by decide +kernel
theorem dX6_takeName_92 : decode cX6_takeName 92 = .ok (.ireturn, 1) := by decide +kernel
set_option maxHeartbeats 4000000 in
set_option maxRecDepth 100000 in
theorem S_X6_takeName_1 {l : Launch} {D : va_G} {ids : List Nat} {ad : Nat → Nat} {ca : Nat → ClassId} {σ : HS} (hid : ∀ i, i < 277 → i ∈ ids) (hG : GIc σ) (hR : RK σ) : Ki l D ids ad ca yX6_takeName cX6_takeName 4 .boolean 2 42 [.ref (ad 1)] σ (fun r σ1 => (GIc σ1) ∧ (ony [1, 7] σ σ1) ∧ (RK σ1) ∧ (0 ≤ r.toInt ∧ r.toInt ≤ 1)) := by
  refine Ki.of (by decide) (Nat.le_of_ble_eq_true rfl) 3 (fun Γ C Rt => ?_)
  show AW ids ad ca Γ 0 [some (.ref (ad 1)), none, none, none] [] σ
  have j86 : ∀ (σq86 : HS), GIc σq86 → ony [1, 7] σ σq86 → RK σq86 → AW ids ad ca Γ 86 [some (.ref (ad 1)), none, none, none] [] σq86 := by
    intro σq86 hGq86 hoq86 hRq86
    refine a_aload_n C dX6_takeName_86 (i := 0) rfl rfl ?_
    refine s_bipush C dX6_takeName_87 (20) (by decide) (fun z1 h2 => ?_)
    refine a_callVi C (i := 1) kd_1 (hid 1 (by decide)) ⟨_, _, rfl⟩ (by decide) (S_X6_take_1 (x1 := z1) hid hGq86 hRq86) mi_X6_take ml_RX6_77 rfl rfl (Nat.le_of_ble_eq_true rfl) (Nat.le_of_ble_eq_true rfl) (Nat.le_of_ble_eq_true rfl) dX6_takeName_89 (fun z3 σ4 q5 => ?_)
    obtain ⟨hG6, ho7, hR8, w9, w10, w11⟩ := q5
    exact a_iret Rt dX6_takeName_92 (nar_z (by omega)).1 (⟨hG6, (ony.tr hoq86 (ony.mono ho7 (by decide))), hR8, (show 0 ≤ z3.toInt ∧ z3.toInt ≤ 1 by intros; omega)⟩)
  have j15 : ∀ (d15 : Nat) (σq15 : HS) (y15_1 : Int64) (y15_3 : Int32), 12 - y15_3.toInt < d15 → GIc σq15 → ony [1, 7] σ σq15 → RK σq15 → 0 ≤ y15_3.toInt ∧ y15_3.toInt ≤ 12 → AW ids ad ca Γ 15 [some (.ref (ad 1)), some (.long y15_1), none, some (.int y15_3)] [] σq15 := by
    intro d15
    induction d15 with
    | zero =>
      intro σq15 y15_1 y15_3 hd15 hGq15 hoq15 hRq15 hx15_0
      exfalso
      omega
    | succ d15 ih15 =>
      intro σq15 y15_1 y15_3 hd15 hGq15 hoq15 hRq15 hx15_0
      have j48 : ∀ (σq48 : HS), GIc σq48 → ony [1, 7] σ σq48 → RK σq48 → 0 ≤ y15_3.toInt ∧ y15_3.toInt ≤ 11 → AW ids ad ca Γ 48 [some (.ref (ad 1)), some (.long y15_1), none, some (.int y15_3)] [] σq48 := by
        intro σq48 hGq48 hoq48 hRq48 hx48_0
        refine s_iinc C dX6_takeName_48 rfl (1) (by decide) (by omega) (by decide) rfl (fun z12 h13 => ?_)
        show AW ids ad ca Γ 51 [some (.ref (ad 1)), some (.long y15_1), none, some (.int z12)] _ _
        refine a_goto C dX6_takeName_51 (tgt := 15) rfl ?_
        exact ih15 _ y15_1 z12 (by omega) hGq48 hoq48 hRq48 (by omega)
      refine a_iload_n C dX6_takeName_15 (i := 3) rfl rfl ?_
      refine a_aload_n C dX6_takeName_16 (i := 0) rfl rfl ?_
      have g14 := bF_1_9 hGq15
      refine a_get C fl_RX6_31 (i := 1) kd_1 (hid 1 (by decide)) (v := .int (σq15.1 1 9)) rfl dX6_takeName_17 ?_
      refine s_ic_ge C dX6_takeName_20 (tgt := 54) rfl (fun c15 => ?_) (fun c15 => ?_)
      ·
        refine a_aload_n C dX6_takeName_54 (i := 0) rfl rfl ?_
        have g16 := bF_1_9 hGq15
        refine a_get C fl_RX6_31 (i := 1) kd_1 (hid 1 (by decide)) (v := .int (σq15.1 1 9)) rfl dX6_takeName_55 ?_
        refine a_aload_n C dX6_takeName_58 (i := 0) rfl rfl ?_
        refine a_get C fl_RX6_22 (i := 1) kd_1 (hid 1 (by decide)) (v := .ref (ad 7)) rfl dX6_takeName_59 ?_
        refine s_alen C (by rw [kd_7]; decide) (hid 7 (by decide)) al_7 (by decide) dX6_takeName_62 (fun z17 h18 => ?_)
        refine s_ic_ge C dX6_takeName_63 (tgt := 86) rfl (fun c19 => ?_) (fun c19 => ?_)
        ·
          refine AW.sub (vs' := [some (.ref (ad 1)), none, none, none]) (lsub_of (by simp [lsubB])) ?_
          exact j86 _ hGq15 hoq15 hRq15
        ·
          refine a_aload_n C dX6_takeName_66 (i := 0) rfl rfl ?_
          refine a_get C fl_RX6_22 (i := 1) kd_1 (hid 1 (by decide)) (v := .ref (ad 7)) rfl dX6_takeName_67 ?_
          refine a_aload_n C dX6_takeName_70 (i := 0) rfl rfl ?_
          have g20 := bF_1_9 hGq15
          refine a_get C fl_RX6_31 (i := 1) kd_1 (hid 1 (by decide)) (v := .int (σq15.1 1 9)) rfl dX6_takeName_71 ?_
          refine a_lload_n C dX6_takeName_74 (i := 1) rfl rfl ?_
          refine s_last C (i := 7) kd_7 (hid 7 (by decide)) al_7 (by omega) (by omega) dX6_takeName_75 (fun n21 h22 => ?_)
          have hG23 := GIc.L (i := 7) (k := n21) (v := y15_1) hGq15 (by decide)
          refine a_aload_n C dX6_takeName_76 (i := 0) rfl rfl ?_
          refine a_dup C dX6_takeName_77 rfl ?_
          have g24 := bF_1_9 hGq15
          refine a_get C fl_RX6_31 (i := 1) kd_1 (hid 1 (by decide)) (v := .int (σq15.1 1 9)) rfl dX6_takeName_78 ?_
          refine s_iconst C dX6_takeName_81 (1) (by decide) (fun z25 h26 => ?_)
          refine s_iadd C dX6_takeName_82 (by omega) (fun z27 h28 => ?_)
          refine a_put C fp_RX6_31 (i := 1) kd_1 (hid 1 (by decide)) rfl rfl dX6_takeName_83 ?_
          have hG29 := wF_1_9 (v := z27) hG23 (by omega) (by omega)
          have hR30 := RK.I (i := 1) (k := 9) (v := z27) hRq15 (by decide) (fun e => ⟨by decide, by decide⟩)
          refine AW.sub (vs' := [some (.ref (ad 1)), none, none, none]) (lsub_of (by simp [lsubB])) ?_
          exact j86 _ hG29 (ony.I (ony.L hoq15 (by decide)) (by decide)) hR30
      ·
        refine a_aload_n C dX6_takeName_23 (i := 0) rfl rfl ?_
        refine a_get C fl_RX6_53 (i := 1) kd_1 (hid 1 (by decide)) (v := .int (σq15.1 1 6)) rfl dX6_takeName_24 ?_
        refine s_bipush C dX6_takeName_27 (20) (by decide) (fun z31 h32 => ?_)
        refine s_ic_ne C dX6_takeName_29 (tgt := 48) rfl (fun c33 => ?_) (fun c33 => ?_)
        ·
          exact j48 _ hGq15 hoq15 hRq15 (by omega)
        ·
          refine a_aload_n C dX6_takeName_32 (i := 0) rfl rfl ?_
          refine a_get C fl_RX6_22 (i := 1) kd_1 (hid 1 (by decide)) (v := .ref (ad 7)) rfl dX6_takeName_33 ?_
          refine a_iload_n C dX6_takeName_36 (i := 3) rfl rfl ?_
          refine s_lald C (i := 7) kd_7 (hid 7 (by decide)) al_7 (by omega) (by omega) dX6_takeName_37 (fun n34 h35 => ?_)
          refine a_lload_n C dX6_takeName_38 (i := 1) rfl rfl ?_
          refine s_lcmpU C dX6_takeName_39 (fun z36 => ?_)
          refine s_if_ne C dX6_takeName_40 (tgt := 48) rfl (fun c38 => ?_) (fun c38 => ?_)
          ·
            exact j48 _ hGq15 hoq15 hRq15 (by omega)
          ·
            refine a_aload_n C dX6_takeName_43 (i := 0) rfl rfl ?_
            refine s_iconst C dX6_takeName_44 (3) (by decide) (fun z39 h40 => ?_)
            refine a_callVv C (i := 1) kd_1 (hid 1 (by decide)) ⟨_, _, rfl⟩ (by decide) (S_X6_noteLater_1 (x1 := z39) hid hGq15 hRq15) mi_X6_noteLater ml_RX6_73 rfl rfl (Nat.le_of_ble_eq_true rfl) (Nat.le_of_ble_eq_true rfl) (Nat.le_of_ble_eq_true rfl) dX6_takeName_45 (fun σ42 q43 => ?_)
            obtain ⟨hG44, ho45, hR46⟩ := q43
            exact j48 _ hG44 (ony.tr hoq15 (ony.mono ho45 (by decide))) hR46 (by omega)
  refine a_aload_n C dX6_takeName_0 (i := 0) rfl rfl ?_
  refine a_get C fl_RX6_12 (i := 1) kd_1 (hid 1 (by decide)) (v := .ref (ad 2)) rfl dX6_takeName_1 ?_
  refine a_get C fl_RX6_64 (i := 2) kd_2 (hid 2 (by decide)) (v := .ref (ad 6)) rfl dX6_takeName_4 ?_
  refine a_aload_n C dX6_takeName_7 (i := 0) rfl rfl ?_
  have g47 := bF_1_5 hG
  refine a_get C fl_RX6_46 (i := 1) kd_1 (hid 1 (by decide)) (v := .int (σ.1 1 5)) rfl dX6_takeName_8 ?_
  refine s_lald C (i := 6) kd_6 (hid 6 (by decide)) al_6 (by omega) (by omega) dX6_takeName_11 (fun n48 h49 => ?_)
  refine a_lstore_n C dX6_takeName_12 (i := 1) rfl (by decide) rfl (vs1 := [some (.ref (ad 1)), some (.long (σ.2.1 6 n48)), none, none]) rfl ?_
  refine s_iconst C dX6_takeName_13 (0) (by decide) (fun z50 h51 => ?_)
  refine a_istore_n C dX6_takeName_14 (i := 3) rfl (by decide) rfl (vs1 := [some (.ref (ad 1)), some (.long (σ.2.1 6 n48)), none, some (.int z50)]) rfl ?_
  exact j15 100000 _ (σ.2.1 6 n48) z50 (by omega) hG ony.rf hR (by omega)
theorem dX6_tellingThing_0 : decode cX6_tellingThing 0 = .ok (.aload_n 1, 1) := by decide +kernel
theorem dX6_tellingThing_1 : decode cX6_tellingThing 1 = .ok (.getfield 100, 3) := by decide +kernel
theorem dX6_tellingThing_4 : decode cX6_tellingThing 4 = .ok (.istore_n 2, 1) := by decide +kernel
theorem dX6_tellingThing_5 : decode cX6_tellingThing 5 = .ok (.iload_n 2, 1) := by decide +kernel
theorem dX6_tellingThing_6 : decode cX6_tellingThing 6 = .ok (.bipush 7, 2) := by decide +kernel
theorem dX6_tellingThing_8 : decode cX6_tellingThing 8 = .ok (.if_icmp .lt 9, 3) := by decide +kernel
theorem dX6_tellingThing_11 : decode cX6_tellingThing 11 = .ok (.aload_n 0, 1) := by decide +kernel
theorem dX6_tellingThing_12 : decode cX6_tellingThing 12 = .ok (.iconst 2, 1) := by decide +kernel
theorem dX6_tellingThing_13 : decode cX6_tellingThing 13 = .ok (.invokevirtual 60, 3) := by decide +kernel
theorem dX6_tellingThing_16 : decode cX6_tellingThing 16 = .ok (.ireturn, 1) := by decide +kernel
theorem dX6_tellingThing_17 : decode cX6_tellingThing 17 = .ok (.aload_n 0, 1) := by decide +kernel
theorem dX6_tellingThing_18 : decode cX6_tellingThing 18 = .ok (.iconst 0, 1) := by decide +kernel
theorem dX6_tellingThing_19 : decode cX6_tellingThing 19 = .ok (.invokevirtual 77, 3) := by decide +kernel
theorem dX6_tellingThing_22 : decode cX6_tellingThing 22 = .ok (.ifCond .eq 20, 3) := by decide +kernel
theorem dX6_tellingThing_25 : decode cX6_tellingThing 25 = .ok (.aload_n 0, 1) := by decide +kernel
theorem dX6_tellingThing_26 : decode cX6_tellingThing 26 = .ok (.invokevirtual 103, 3) := by decide +kernel
theorem dX6_tellingThing_29 : decode cX6_tellingThing 29 = .ok (.ifCond .eq 13, 3) := by decide +kernel
theorem dX6_tellingThing_32 : decode cX6_tellingThing 32 = .ok (.aload_n 0, 1) := by decide +kernel
theorem dX6_tellingThing_33 : decode cX6_tellingThing 33 = .ok (.iconst 1, 1) := by decide +kernel
theorem dX6_tellingThing_34 : decode cX6_tellingThing 34 = .ok (.bipush 9, 2) := by decide +kernel
theorem dX6_tellingThing_36 : decode cX6_tellingThing 36 = .ok (.invokevirtual 90, 3) := by decide +kernel
theorem dX6_tellingThing_39 : decode cX6_tellingThing 39 = .ok (.ifCond .ne 5, 3) := by decide +kernel
theorem dX6_tellingThing_42 : decode cX6_tellingThing 42 = .ok (.iconst 0, 1) := by decide +kernel
theorem dX6_tellingThing_43 : decode cX6_tellingThing 43 = .ok (.ireturn, 1) := by decide +kernel
theorem dX6_tellingThing_44 : decode cX6_tellingThing 44 = .ok (.aload_n 1, 1) := by decide +kernel
theorem dX6_tellingThing_45 : decode cX6_tellingThing 45 = .ok (.getfield 107, 3) := by decide +kernel
theorem dX6_tellingThing_48 : decode cX6_tellingThing 48 = .ok (.iload_n 2, 1) := by decide +kernel
theorem dX6_tellingThing_49 : decode cX6_tellingThing 49 = .ok (.aload_n 0, 1) := by decide +kernel
theorem dX6_tellingThing_50 : decode cX6_tellingThing 50 = .ok (.getfield 67, 3) := by decide +kernel
theorem dX6_tellingThing_53 : decode cX6_tellingThing 53 = .ok (.iastore, 1) := by decide +kernel
theorem dX6_tellingThing_54 : decode cX6_tellingThing 54 = .ok (.aload_n 0, 1) := by decide +kernel
theorem dX6_tellingThing_55 : decode cX6_tellingThing 55 = .ok (.iconst 0, 1) := by decide +kernel
theorem dX6_tellingThing_56 : decode cX6_tellingThing 56 = .ok (.bipush 9, 2) := by decide +kernel
theorem dX6_tellingThing_58 : decode cX6_tellingThing 58 = .ok (.invokevirtual 90, 3) := by decide +kernel
theorem dX6_tellingThing_61 : decode cX6_tellingThing 61 = .ok (.ifCond .ne 5, 3) := by decide +kernel
theorem dX6_tellingThing_64 : decode cX6_tellingThing 64 = .ok (.iconst 0, 1) := by decide +kernel
theorem dX6_tellingThing_65 : decode cX6_tellingThing 65 = .ok (.ireturn, 1) := by decide +kernel
theorem dX6_tellingThing_66 : decode cX6_tellingThing 66 = .ok (.aload_n 1, 1) := by decide +kernel
theorem dX6_tellingThing_67 : decode cX6_tellingThing 67 = .ok (.getfield 110, 3) := by decide +kernel
theorem dX6_tellingThing_70 : decode cX6_tellingThing 70 = .ok (.iload_n 2, 1) := by decide +kernel
theorem dX6_tellingThing_71 : decode cX6_tellingThing 71 = .ok (.aload_n 0, 1) := by decide +kernel
theorem dX6_tellingThing_72 : decode cX6_tellingThing 72 = .ok (.getfield 67, 3) := by decide +kernel
theorem dX6_tellingThing_75 : decode cX6_tellingThing 75 = .ok (.iastore, 1) := by decide +kernel
theorem dX6_tellingThing_76 : decode cX6_tellingThing 76 = .ok (.aload_n 0, 1) := by decide +kernel
theorem dX6_tellingThing_77 : decode cX6_tellingThing 77 = .ok (.iconst 0, 1) := by decide +kernel
theorem dX6_tellingThing_78 : decode cX6_tellingThing 78 = .ok (.bipush 9, 2) := by decide +kernel
theorem dX6_tellingThing_80 : decode cX6_tellingThing 80 = .ok (.invokevirtual 90, 3) := by decide +kernel
theorem dX6_tellingThing_83 : decode cX6_tellingThing 83 = .ok (.ifCond .ne 5, 3) := by decide +kernel
theorem dX6_tellingThing_86 : decode cX6_tellingThing 86 = .ok (.iconst 0, 1) := by decide +kernel
theorem dX6_tellingThing_87 : decode cX6_tellingThing 87 = .ok (.ireturn, 1) := by decide +kernel
theorem dX6_tellingThing_88 : decode cX6_tellingThing 88 = .ok (.aload_n 1, 1) := by decide +kernel
theorem dX6_tellingThing_89 : decode cX6_tellingThing 89 = .ok (.getfield 113, 3) := by decide +kernel
theorem dX6_tellingThing_92 : decode cX6_tellingThing 92 = .ok (.iload_n 2, 1) := by decide +kernel
theorem dX6_tellingThing_93 : decode cX6_tellingThing 93 = .ok (.aload_n 0, 1) := by decide +kernel
theorem dX6_tellingThing_94 : decode cX6_tellingThing 94 = .ok (.getfield 67, 3) := by decide +kernel
theorem dX6_tellingThing_97 : decode cX6_tellingThing 97 = .ok (.iastore, 1) := by decide +kernel
theorem dX6_tellingThing_98 : decode cX6_tellingThing 98 = .ok (.aload_n 1, 1) := by decide +kernel
theorem dX6_tellingThing_99 : decode cX6_tellingThing 99 = .ok (.dup, 1) := by decide +kernel
theorem dX6_tellingThing_100 : decode cX6_tellingThing 100 = .ok (.getfield 100, 3) := by decide +kernel
theorem dX6_tellingThing_103 : decode cX6_tellingThing 103 = .ok (.iconst 1, 1) := by decide +kernel
theorem dX6_tellingThing_104 : decode cX6_tellingThing 104 = .ok (.iadd, 1) := by decide +kernel
theorem dX6_tellingThing_105 : decode cX6_tellingThing 105 = .ok (.putfield 100, 3) := by decide +kernel
theorem dX6_tellingThing_108 : decode cX6_tellingThing 108 = .ok (.aload_n 0, 1) := by decide +kernel
theorem dX6_tellingThing_109 : decode cX6_tellingThing 109 = .ok (.bipush 59, 2) := by decide +kernel
theorem dX6_tellingThing_111 : decode cX6_tellingThing 111 = .ok (.invokevirtual 77, 3) := by decide +kernel
theorem dX6_tellingThing_114 : decode cX6_tellingThing 114 = .ok (.ireturn, 1) := by decide +kernel
set_option maxHeartbeats 4000000 in
set_option maxRecDepth 100000 in
theorem S_X6_tellingThing_1_30 {l : Launch} {D : va_G} {ids : List Nat} {ad : Nat → Nat} {ca : Nat → ClassId} {σ : HS} (hid : ∀ i, i < 277 → i ∈ ids) (hG : GIc σ) (hR : RK σ) : Ki l D ids ad ca yX6_tellingThing cX6_tellingThing 3 .boolean 3 66 [.ref (ad 1), .ref (ad 30)] σ (fun r σ1 => (GIc σ1) ∧ (ony [1, 7, 30, 31, 32, 33] σ σ1) ∧ (RK σ1) ∧ (0 ≤ r.toInt ∧ r.toInt ≤ 1)) := by
  refine Ki.of (by decide) (Nat.le_of_ble_eq_true rfl) 1 (fun Γ C Rt => ?_)
  show AW ids ad ca Γ 0 [some (.ref (ad 1)), some (.ref (ad 30)), none] [] σ
  refine a_aload_n C dX6_tellingThing_0 (i := 1) rfl rfl ?_
  have g1 := bF_30_0 hG
  refine a_get C fl_RX6_100 (i := 30) kd_30 (hid 30 (by decide)) (v := .int (σ.1 30 0)) rfl dX6_tellingThing_1 ?_
  refine a_istore_n C dX6_tellingThing_4 (i := 2) rfl (by decide) rfl (vs1 := [some (.ref (ad 1)), some (.ref (ad 30)), some (.int (σ.1 30 0))]) rfl ?_
  refine a_iload_n C dX6_tellingThing_5 (i := 2) rfl rfl ?_
  refine s_bipush C dX6_tellingThing_6 (7) (by decide) (fun z2 h3 => ?_)
  refine s_ic_lt C dX6_tellingThing_8 (tgt := 17) rfl (fun c4 => ?_) (fun c4 => ?_)
  ·
    refine a_aload_n C dX6_tellingThing_17 (i := 0) rfl rfl ?_
    refine s_iconst C dX6_tellingThing_18 (0) (by decide) (fun z5 h6 => ?_)
    refine a_callVi C (i := 1) kd_1 (hid 1 (by decide)) ⟨_, _, rfl⟩ (by decide) (S_X6_take_1 (x1 := z5) hid hG hR) mi_X6_take ml_RX6_77 rfl rfl (Nat.le_of_ble_eq_true rfl) (Nat.le_of_ble_eq_true rfl) (Nat.le_of_ble_eq_true rfl) dX6_tellingThing_19 (fun z7 σ8 q9 => ?_)
    obtain ⟨hG10, ho11, hR12, w13, w14, w15⟩ := q9
    refine s_if_eq C dX6_tellingThing_22 (tgt := 42) rfl (fun c16 => ?_) (fun c16 => ?_)
    ·
      refine s_iconst C dX6_tellingThing_42 (0) (by decide) (fun z17 h18 => ?_)
      exact a_iret Rt dX6_tellingThing_43 (nar_z (by omega)).1 (⟨hG10, (ony.tr ony.rf (ony.mono ho11 (by decide))), hR12, (show 0 ≤ z17.toInt ∧ z17.toInt ≤ 1 by intros; omega)⟩)
    ·
      refine a_aload_n C dX6_tellingThing_25 (i := 0) rfl rfl ?_
      refine a_callVi C (i := 1) kd_1 (hid 1 (by decide)) ⟨_, _, rfl⟩ (by decide) (S_X6_takeName_1 hid hG10 hR12) mi_X6_takeName ml_RX6_103 rfl rfl (Nat.le_of_ble_eq_true rfl) (Nat.le_of_ble_eq_true rfl) (Nat.le_of_ble_eq_true rfl) dX6_tellingThing_26 (fun z19 σ20 q21 => ?_)
      obtain ⟨hG22, ho23, hR24, w25⟩ := q21
      refine s_if_eq C dX6_tellingThing_29 (tgt := 42) rfl (fun c26 => ?_) (fun c26 => ?_)
      ·
        refine s_iconst C dX6_tellingThing_42 (0) (by decide) (fun z27 h28 => ?_)
        exact a_iret Rt dX6_tellingThing_43 (nar_z (by omega)).1 (⟨hG22, (ony.tr (ony.tr ony.rf (ony.mono ho11 (by decide))) (ony.mono ho23 (by decide))), hR24, (show 0 ≤ z27.toInt ∧ z27.toInt ≤ 1 by intros; omega)⟩)
      ·
        refine a_aload_n C dX6_tellingThing_32 (i := 0) rfl rfl ?_
        refine s_iconst C dX6_tellingThing_33 (1) (by decide) (fun z29 h30 => ?_)
        refine s_bipush C dX6_tellingThing_34 (9) (by decide) (fun z31 h32 => ?_)
        refine a_callVi C (i := 1) kd_1 (hid 1 (by decide)) ⟨_, _, rfl⟩ (by decide) (S_X6_takeNumber_1 (x1 := z29) (x2 := z31) hid hG22 hR24) mi_X6_takeNumber ml_RX6_90 rfl rfl (Nat.le_of_ble_eq_true rfl) (Nat.le_of_ble_eq_true rfl) (Nat.le_of_ble_eq_true rfl) dX6_tellingThing_36 (fun z33 σ34 q35 => ?_)
        obtain ⟨hG36, ho37, hR38, w39, w40⟩ := q35
        refine s_if_ne C dX6_tellingThing_39 (tgt := 44) rfl (fun c41 => ?_) (fun c41 => ?_)
        ·
          refine a_aload_n C dX6_tellingThing_44 (i := 1) rfl rfl ?_
          refine a_get C fl_RX6_107 (i := 30) kd_30 (hid 30 (by decide)) (v := .ref (ad 31)) rfl dX6_tellingThing_45 ?_
          refine a_iload_n C dX6_tellingThing_48 (i := 2) rfl rfl ?_
          refine a_aload_n C dX6_tellingThing_49 (i := 0) rfl rfl ?_
          refine a_get C fl_RX6_67 (i := 1) kd_1 (hid 1 (by decide)) (v := .int (σ34.1 1 7)) rfl dX6_tellingThing_50 ?_
          refine s_iast C (i := 31) kd_31 (hid 31 (by decide)) al_31 (by omega) (by omega) dX6_tellingThing_53 (fun n42 h43 => ?_)
          have hG44 := wA_31 (v := (σ34.1 1 7)) (j := n42) hG36
          have hR45 := RK.I (i := 31) (k := n42) (v := (σ34.1 1 7)) hR38 (by decide) (fun e => absurd e (by decide))
          refine a_aload_n C dX6_tellingThing_54 (i := 0) rfl rfl ?_
          refine s_iconst C dX6_tellingThing_55 (0) (by decide) (fun z46 h47 => ?_)
          refine s_bipush C dX6_tellingThing_56 (9) (by decide) (fun z48 h49 => ?_)
          refine a_callVi C (i := 1) kd_1 (hid 1 (by decide)) ⟨_, _, rfl⟩ (by decide) (S_X6_takeNumber_1 (x1 := z46) (x2 := z48) hid hG44 hR45) mi_X6_takeNumber ml_RX6_90 rfl rfl (Nat.le_of_ble_eq_true rfl) (Nat.le_of_ble_eq_true rfl) (Nat.le_of_ble_eq_true rfl) dX6_tellingThing_58 (fun z50 σ51 q52 => ?_)
          obtain ⟨hG53, ho54, hR55, w56, w57⟩ := q52
          refine s_if_ne C dX6_tellingThing_61 (tgt := 66) rfl (fun c58 => ?_) (fun c58 => ?_)
          ·
            refine a_aload_n C dX6_tellingThing_66 (i := 1) rfl rfl ?_
            refine a_get C fl_RX6_110 (i := 30) kd_30 (hid 30 (by decide)) (v := .ref (ad 32)) rfl dX6_tellingThing_67 ?_
            refine a_iload_n C dX6_tellingThing_70 (i := 2) rfl rfl ?_
            refine a_aload_n C dX6_tellingThing_71 (i := 0) rfl rfl ?_
            refine a_get C fl_RX6_67 (i := 1) kd_1 (hid 1 (by decide)) (v := .int (σ51.1 1 7)) rfl dX6_tellingThing_72 ?_
            refine s_iast C (i := 32) kd_32 (hid 32 (by decide)) al_32 (by omega) (by omega) dX6_tellingThing_75 (fun n59 h60 => ?_)
            have hG61 := wA_32 (v := (σ51.1 1 7)) (j := n59) hG53
            have hR62 := RK.I (i := 32) (k := n59) (v := (σ51.1 1 7)) hR55 (by decide) (fun e => absurd e (by decide))
            refine a_aload_n C dX6_tellingThing_76 (i := 0) rfl rfl ?_
            refine s_iconst C dX6_tellingThing_77 (0) (by decide) (fun z63 h64 => ?_)
            refine s_bipush C dX6_tellingThing_78 (9) (by decide) (fun z65 h66 => ?_)
            refine a_callVi C (i := 1) kd_1 (hid 1 (by decide)) ⟨_, _, rfl⟩ (by decide) (S_X6_takeNumber_1 (x1 := z63) (x2 := z65) hid hG61 hR62) mi_X6_takeNumber ml_RX6_90 rfl rfl (Nat.le_of_ble_eq_true rfl) (Nat.le_of_ble_eq_true rfl) (Nat.le_of_ble_eq_true rfl) dX6_tellingThing_80 (fun z67 σ68 q69 => ?_)
            obtain ⟨hG70, ho71, hR72, w73, w74⟩ := q69
            refine s_if_ne C dX6_tellingThing_83 (tgt := 88) rfl (fun c75 => ?_) (fun c75 => ?_)
            ·
              refine a_aload_n C dX6_tellingThing_88 (i := 1) rfl rfl ?_
              refine a_get C fl_RX6_113 (i := 30) kd_30 (hid 30 (by decide)) (v := .ref (ad 33)) rfl dX6_tellingThing_89 ?_
              refine a_iload_n C dX6_tellingThing_92 (i := 2) rfl rfl ?_
              refine a_aload_n C dX6_tellingThing_93 (i := 0) rfl rfl ?_
              refine a_get C fl_RX6_67 (i := 1) kd_1 (hid 1 (by decide)) (v := .int (σ68.1 1 7)) rfl dX6_tellingThing_94 ?_
              refine s_iast C (i := 33) kd_33 (hid 33 (by decide)) al_33 (by omega) (by omega) dX6_tellingThing_97 (fun n76 h77 => ?_)
              have hG78 := wA_33 (v := (σ68.1 1 7)) (j := n76) hG70
              have hR79 := RK.I (i := 33) (k := n76) (v := (σ68.1 1 7)) hR72 (by decide) (fun e => absurd e (by decide))
              refine a_aload_n C dX6_tellingThing_98 (i := 1) rfl rfl ?_
              refine a_dup C dX6_tellingThing_99 rfl ?_
              have g80 := bF_30_0 hG70
              have g81 := bF_30_0 hG53
              have g82 := bF_30_0 hG36
              have g83 := bF_30_0 hG22
              have g84 := bF_30_0 hG10
              have g85 := bF_30_0 hG
              have g86 : (σ8.1 30 0).toInt = (σ.1 30 0).toInt := congrArg Int32.toInt (congrFun (ho11.1 30 (by decide)).1 0)
              have g87 : (σ20.1 30 0).toInt = (σ8.1 30 0).toInt := congrArg Int32.toInt (congrFun (ho23.1 30 (by decide)).1 0)
              have g88 : (σ34.1 30 0).toInt = (σ20.1 30 0).toInt := congrArg Int32.toInt (congrFun (ho37.1 30 (by decide)).1 0)
              have g89 : (σ51.1 30 0).toInt = (σ34.1 30 0).toInt := congrArg Int32.toInt (congrFun (ho54.1 30 (by decide)).1 0)
              have g90 : (σ68.1 30 0).toInt = (σ51.1 30 0).toInt := congrArg Int32.toInt (congrFun (ho71.1 30 (by decide)).1 0)
              refine a_get C fl_RX6_100 (i := 30) kd_30 (hid 30 (by decide)) (v := .int (σ68.1 30 0)) rfl dX6_tellingThing_100 ?_
              refine s_iconst C dX6_tellingThing_103 (1) (by decide) (fun z91 h92 => ?_)
              refine s_iadd C dX6_tellingThing_104 (by omega) (fun z93 h94 => ?_)
              refine a_put C fp_RX6_100 (i := 30) kd_30 (hid 30 (by decide)) rfl rfl dX6_tellingThing_105 ?_
              have hG95 := wF_30_0 (v := z93) hG78 (by omega) (by omega)
              have hR96 := RK.I (i := 30) (k := 0) (v := z93) hR79 (by decide) (fun e => absurd e (by decide))
              refine a_aload_n C dX6_tellingThing_108 (i := 0) rfl rfl ?_
              refine s_bipush C dX6_tellingThing_109 (59) (by decide) (fun z97 h98 => ?_)
              refine a_callVi C (i := 1) kd_1 (hid 1 (by decide)) ⟨_, _, rfl⟩ (by decide) (S_X6_take_1 (x1 := z97) hid hG95 hR96) mi_X6_take ml_RX6_77 rfl rfl (Nat.le_of_ble_eq_true rfl) (Nat.le_of_ble_eq_true rfl) (Nat.le_of_ble_eq_true rfl) dX6_tellingThing_111 (fun z99 σ100 q101 => ?_)
              obtain ⟨hG102, ho103, hR104, w105, w106, w107⟩ := q101
              exact a_iret Rt dX6_tellingThing_114 (nar_z (by omega)).1 (⟨hG102, (ony.tr (ony.I (ony.I (ony.tr (ony.I (ony.tr (ony.I (ony.tr (ony.tr (ony.tr ony.rf (ony.mono ho11 (by decide))) (ony.mono ho23 (by decide))) (ony.mono ho37 (by decide))) (by decide)) (ony.mono ho54 (by decide))) (by decide)) (ony.mono ho71 (by decide))) (by decide)) (by decide)) (ony.mono ho103 (by decide))), hR104, (show 0 ≤ z99.toInt ∧ z99.toInt ≤ 1 by intros; omega)⟩)
            ·
              refine s_iconst C dX6_tellingThing_86 (0) (by decide) (fun z108 h109 => ?_)
              exact a_iret Rt dX6_tellingThing_87 (nar_z (by omega)).1 (⟨hG70, (ony.tr (ony.I (ony.tr (ony.I (ony.tr (ony.tr (ony.tr ony.rf (ony.mono ho11 (by decide))) (ony.mono ho23 (by decide))) (ony.mono ho37 (by decide))) (by decide)) (ony.mono ho54 (by decide))) (by decide)) (ony.mono ho71 (by decide))), hR72, (show 0 ≤ z108.toInt ∧ z108.toInt ≤ 1 by intros; omega)⟩)
          ·
            refine s_iconst C dX6_tellingThing_64 (0) (by decide) (fun z110 h111 => ?_)
            exact a_iret Rt dX6_tellingThing_65 (nar_z (by omega)).1 (⟨hG53, (ony.tr (ony.I (ony.tr (ony.tr (ony.tr ony.rf (ony.mono ho11 (by decide))) (ony.mono ho23 (by decide))) (ony.mono ho37 (by decide))) (by decide)) (ony.mono ho54 (by decide))), hR55, (show 0 ≤ z110.toInt ∧ z110.toInt ≤ 1 by intros; omega)⟩)
        ·
          refine s_iconst C dX6_tellingThing_42 (0) (by decide) (fun z112 h113 => ?_)
          exact a_iret Rt dX6_tellingThing_43 (nar_z (by omega)).1 (⟨hG36, (ony.tr (ony.tr (ony.tr ony.rf (ony.mono ho11 (by decide))) (ony.mono ho23 (by decide))) (ony.mono ho37 (by decide))), hR38, (show 0 ≤ z112.toInt ∧ z112.toInt ≤ 1 by intros; omega)⟩)
  ·
    refine a_aload_n C dX6_tellingThing_11 (i := 0) rfl rfl ?_
    refine s_iconst C dX6_tellingThing_12 (2) (by decide) (fun z114 h115 => ?_)
    refine a_callVi C (i := 1) kd_1 (hid 1 (by decide)) ⟨_, _, rfl⟩ (by decide) (S_X6_refuse_1 (x1 := z114) hid hG hR) mi_X6_refuse ml_RX6_60 rfl rfl (Nat.le_of_ble_eq_true rfl) (Nat.le_of_ble_eq_true rfl) (Nat.le_of_ble_eq_true rfl) dX6_tellingThing_13 (fun z116 σ117 q118 => ?_)
    obtain ⟨hG119, ho120, hR121, w122⟩ := q118
    exact a_iret Rt dX6_tellingThing_16 (nar_z (by omega)).1 (⟨hG119, (ony.tr ony.rf (ony.mono ho120 (by decide))), hR121, (show 0 ≤ z116.toInt ∧ z116.toInt ≤ 1 by intros; omega)⟩)
theorem dX6_tellingPattern_0 : decode cX6_tellingPattern 0 = .ok (.aload_n 1, 1) := by decide +kernel
theorem dX6_tellingPattern_1 : decode cX6_tellingPattern 1 = .ok (.getfield 116, 3) := by decide +kernel
theorem dX6_tellingPattern_4 : decode cX6_tellingPattern 4 = .ok (.istore_n 2, 1) := by decide +kernel
theorem dX6_tellingPattern_5 : decode cX6_tellingPattern 5 = .ok (.iload_n 2, 1) := by decide +kernel
theorem dX6_tellingPattern_6 : decode cX6_tellingPattern 6 = .ok (.iconst 5, 1) := by decide +kernel
theorem dX6_tellingPattern_7 : decode cX6_tellingPattern 7 = .ok (.if_icmp .lt 9, 3) := by decide +kernel
theorem dX6_tellingPattern_10 : decode cX6_tellingPattern 10 = .ok (.aload_n 0, 1) := by decide +kernel
theorem dX6_tellingPattern_11 : decode cX6_tellingPattern 11 = .ok (.iconst 2, 1) := by decide +kernel
theorem dX6_tellingPattern_12 : decode cX6_tellingPattern 12 = .ok (.invokevirtual 60, 3) := by decide +kernel
theorem dX6_tellingPattern_15 : decode cX6_tellingPattern 15 = .ok (.ireturn, 1) := by decide +kernel
theorem dX6_tellingPattern_16 : decode cX6_tellingPattern 16 = .ok (.aload_n 0, 1) := by decide +kernel
theorem dX6_tellingPattern_17 : decode cX6_tellingPattern 17 = .ok (.iconst 1, 1) := by decide +kernel
theorem dX6_tellingPattern_18 : decode cX6_tellingPattern 18 = .ok (.invokevirtual 77, 3) := by decide +kernel
theorem dX6_tellingPattern_21 : decode cX6_tellingPattern 21 = .ok (.ifCond .eq 20, 3) := by decide +kernel
theorem dX6_tellingPattern_24 : decode cX6_tellingPattern 24 = .ok (.aload_n 0, 1) := by decide +kernel
theorem dX6_tellingPattern_25 : decode cX6_tellingPattern 25 = .ok (.invokevirtual 103, 3) := by decide +kernel
theorem dX6_tellingPattern_28 : decode cX6_tellingPattern 28 = .ok (.ifCond .eq 13, 3) := by decide +kernel
theorem dX6_tellingPattern_31 : decode cX6_tellingPattern 31 = .ok (.aload_n 0, 1) := by decide +kernel
theorem dX6_tellingPattern_32 : decode cX6_tellingPattern 32 = .ok (.iconst 0, 1) := by decide +kernel
theorem dX6_tellingPattern_33 : decode cX6_tellingPattern 33 = .ok (.bipush 9, 2) := by decide +kernel
theorem dX6_tellingPattern_35 : decode cX6_tellingPattern 35 = .ok (.invokevirtual 90, 3) := by decide +kernel
theorem dX6_tellingPattern_38 : decode cX6_tellingPattern 38 = .ok (.ifCond .ne 5, 3) := by decide +kernel
theorem dX6_tellingPattern_41 : decode cX6_tellingPattern 41 = .ok (.iconst 0, 1) := by decide +kernel
theorem dX6_tellingPattern_42 : decode cX6_tellingPattern 42 = .ok (.ireturn, 1) := by decide +kernel
theorem dX6_tellingPattern_43 : decode cX6_tellingPattern 43 = .ok (.aload_n 1, 1) := by decide +kernel
theorem dX6_tellingPattern_44 : decode cX6_tellingPattern 44 = .ok (.getfield 119, 3) := by decide +kernel
theorem dX6_tellingPattern_47 : decode cX6_tellingPattern 47 = .ok (.iload_n 2, 1) := by decide +kernel
theorem dX6_tellingPattern_48 : decode cX6_tellingPattern 48 = .ok (.aaload, 1) := by decide +kernel
theorem dX6_tellingPattern_49 : decode cX6_tellingPattern 49 = .ok (.iconst 0, 1) := by decide +kernel
theorem dX6_tellingPattern_50 : decode cX6_tellingPattern 50 = .ok (.aload_n 0, 1) := by decide +kernel
theorem dX6_tellingPattern_51 : decode cX6_tellingPattern 51 = .ok (.getfield 67, 3) := by decide +kernel
theorem dX6_tellingPattern_54 : decode cX6_tellingPattern 54 = .ok (.iastore, 1) := by decide +kernel
theorem dX6_tellingPattern_55 : decode cX6_tellingPattern 55 = .ok (.iconst 1, 1) := by decide +kernel
theorem dX6_tellingPattern_56 : decode cX6_tellingPattern 56 = .ok (.istore_n 3, 1) := by decide +kernel
theorem dX6_tellingPattern_57 : decode cX6_tellingPattern 57 = .ok (.aload_n 0, 1) := by decide +kernel
theorem dX6_tellingPattern_58 : decode cX6_tellingPattern 58 = .ok (.getfield 53, 3) := by decide +kernel
theorem dX6_tellingPattern_61 : decode cX6_tellingPattern 61 = .ok (.bipush 21, 2) := by decide +kernel
theorem dX6_tellingPattern_63 : decode cX6_tellingPattern 63 = .ok (.if_icmp .ne 39, 3) := by decide +kernel
theorem dX6_tellingPattern_66 : decode cX6_tellingPattern 66 = .ok (.iload_n 3, 1) := by decide +kernel
theorem dX6_tellingPattern_67 : decode cX6_tellingPattern 67 = .ok (.bipush 8, 2) := by decide +kernel
theorem dX6_tellingPattern_69 : decode cX6_tellingPattern 69 = .ok (.if_icmp .ge 33, 3) := by decide +kernel
theorem dX6_tellingPattern_72 : decode cX6_tellingPattern 72 = .ok (.aload_n 0, 1) := by decide +kernel
theorem dX6_tellingPattern_73 : decode cX6_tellingPattern 73 = .ok (.iconst 0, 1) := by decide +kernel
theorem dX6_tellingPattern_74 : decode cX6_tellingPattern 74 = .ok (.bipush 9, 2) := by decide +kernel
theorem dX6_tellingPattern_76 : decode cX6_tellingPattern 76 = .ok (.invokevirtual 90, 3) := by decide +kernel
theorem dX6_tellingPattern_79 : decode cX6_tellingPattern 79 = .ok (.ifCond .ne 5, 3) := by decide +kernel
theorem dX6_tellingPattern_82 : decode cX6_tellingPattern 82 = .ok (.iconst 0, 1) := by decide +kernel
theorem dX6_tellingPattern_83 : decode cX6_tellingPattern 83 = .ok (.ireturn, 1) := by decide +kernel
theorem dX6_tellingPattern_84 : decode cX6_tellingPattern 84 = .ok (.aload_n 1, 1) := by decide +kernel
theorem dX6_tellingPattern_85 : decode cX6_tellingPattern 85 = .ok (.getfield 119, 3) := by decide +kernel
theorem dX6_tellingPattern_88 : decode cX6_tellingPattern 88 = .ok (.iload_n 2, 1) := by decide +kernel
theorem dX6_tellingPattern_89 : decode cX6_tellingPattern 89 = .ok (.aaload, 1) := by decide +kernel
theorem dX6_tellingPattern_90 : decode cX6_tellingPattern 90 = .ok (.iload_n 3, 1) := by decide +kernel
theorem dX6_tellingPattern_91 : decode cX6_tellingPattern 91 = .ok (.aload_n 0, 1) := by decide +kernel
theorem dX6_tellingPattern_92 : decode cX6_tellingPattern 92 = .ok (.getfield 67, 3) := by decide +kernel
theorem dX6_tellingPattern_95 : decode cX6_tellingPattern 95 = .ok (.iastore, 1) := by decide +kernel
theorem dX6_tellingPattern_96 : decode cX6_tellingPattern 96 = .ok (.iinc 3 1, 3) := by decide +kernel
theorem dX6_tellingPattern_99 : decode cX6_tellingPattern 99 = .ok (.goto (-42), 3) := by decide +kernel
theorem dX6_tellingPattern_102 : decode cX6_tellingPattern 102 = .ok (.aload_n 0, 1) := by decide +kernel
theorem dX6_tellingPattern_103 : decode cX6_tellingPattern 103 = .ok (.getfield 53, 3) := by decide +kernel
theorem dX6_tellingPattern_106 : decode cX6_tellingPattern 106 = .ok (.bipush 21, 2) := by decide +kernel
theorem dX6_tellingPattern_108 : decode cX6_tellingPattern 108 = .ok (.if_icmp .ne 9, 3) := by decide +kernel
theorem dX6_tellingPattern_111 : decode cX6_tellingPattern 111 = .ok (.aload_n 0, 1) := by decide +kernel
theorem dX6_tellingPattern_112 : decode cX6_tellingPattern 112 = .ok (.iconst 2, 1) := by decide +kernel
theorem dX6_tellingPattern_113 : decode cX6_tellingPattern 113 = .ok (.invokevirtual 60, 3) := by decide +kernel
theorem dX6_tellingPattern_116 : decode cX6_tellingPattern 116 = .ok (.ireturn, 1) := by decide +kernel
theorem dX6_tellingPattern_117 : decode cX6_tellingPattern 117 = .ok (.aload_n 1, 1) := by decide +kernel
theorem dX6_tellingPattern_118 : decode cX6_tellingPattern 118 = .ok (.getfield 123, 3) := by decide +kernel
theorem dX6_tellingPattern_121 : decode cX6_tellingPattern 121 = .ok (.iload_n 2, 1) := by decide +kernel
theorem dX6_tellingPattern_122 : decode cX6_tellingPattern 122 = .ok (.iload_n 3, 1) := by decide +kernel
theorem dX6_tellingPattern_123 : decode cX6_tellingPattern 123 = .ok (.iastore, 1) := by decide +kernel
theorem dX6_tellingPattern_124 : decode cX6_tellingPattern 124 = .ok (.aload_n 1, 1) := by decide +kernel
theorem dX6_tellingPattern_125 : decode cX6_tellingPattern 125 = .ok (.dup, 1) := by decide +kernel
theorem dX6_tellingPattern_126 : decode cX6_tellingPattern 126 = .ok (.getfield 116, 3) := by decide +kernel
theorem dX6_tellingPattern_129 : decode cX6_tellingPattern 129 = .ok (.iconst 1, 1) := by decide +kernel
theorem dX6_tellingPattern_130 : decode cX6_tellingPattern 130 = .ok (.iadd, 1) := by decide +kernel
theorem dX6_tellingPattern_131 : decode cX6_tellingPattern 131 = .ok (.putfield 116, 3) := by decide +kernel
theorem dX6_tellingPattern_134 : decode cX6_tellingPattern 134 = .ok (.aload_n 0, 1) := by decide +kernel
theorem dX6_tellingPattern_135 : decode cX6_tellingPattern 135 = .ok (.bipush 59, 2) := by decide +kernel
theorem dX6_tellingPattern_137 : decode cX6_tellingPattern 137 = .ok (.invokevirtual 77, 3) := by decide +kernel
theorem dX6_tellingPattern_140 : decode cX6_tellingPattern 140 = .ok (.ireturn, 1) := by decide +kernel
set_option maxHeartbeats 4000000 in
set_option maxRecDepth 100000 in
theorem S_X6_tellingPattern_1_30 {l : Launch} {D : va_G} {ids : List Nat} {ad : Nat → Nat} {ca : Nat → ClassId} {σ : HS} (hid : ∀ i, i < 277 → i ∈ ids) (hG : GIc σ) (hR : RK σ) : Ki l D ids ad ca yX6_tellingPattern cX6_tellingPattern 4 .boolean 3 66 [.ref (ad 1), .ref (ad 30)] σ (fun r σ1 => (GIc σ1) ∧ (ony [1, 7, 30, 35, 36, 37, 38, 39, 40] σ σ1) ∧ (RK σ1) ∧ (0 ≤ r.toInt ∧ r.toInt ≤ 1)) := by
  refine Ki.of (by decide) (Nat.le_of_ble_eq_true rfl) 2 (fun Γ C Rt => ?_)
  show AW ids ad ca Γ 0 [some (.ref (ad 1)), some (.ref (ad 30)), none, none] [] σ
  have j102 : ∀ (σq102 : HS) (y102_2 : Int32) (y102_3 : Int32), GIc σq102 → ony [1, 7, 30, 35, 36, 37, 38, 39, 40] σ σq102 → RK σq102 → 0 ≤ y102_2.toInt ∧ y102_2.toInt ≤ 4 → 1 ≤ y102_3.toInt ∧ y102_3.toInt ≤ 8 → (σq102.1 30 4).toInt = y102_2.toInt → AW ids ad ca Γ 102 [some (.ref (ad 1)), some (.ref (ad 30)), some (.int y102_2), some (.int y102_3)] [] σq102 := by
    intro σq102 y102_2 y102_3 hGq102 hoq102 hRq102 hx102_0 hx102_1 hx102_2
    refine a_aload_n C dX6_tellingPattern_102 (i := 0) rfl rfl ?_
    refine a_get C fl_RX6_53 (i := 1) kd_1 (hid 1 (by decide)) (v := .int (σq102.1 1 6)) rfl dX6_tellingPattern_103 ?_
    refine s_bipush C dX6_tellingPattern_106 (21) (by decide) (fun z1 h2 => ?_)
    refine s_ic_ne C dX6_tellingPattern_108 (tgt := 117) rfl (fun c3 => ?_) (fun c3 => ?_)
    ·
      refine a_aload_n C dX6_tellingPattern_117 (i := 1) rfl rfl ?_
      refine a_get C fl_RX6_123 (i := 30) kd_30 (hid 30 (by decide)) (v := .ref (ad 40)) rfl dX6_tellingPattern_118 ?_
      refine a_iload_n C dX6_tellingPattern_121 (i := 2) rfl rfl ?_
      refine a_iload_n C dX6_tellingPattern_122 (i := 3) rfl rfl ?_
      refine s_iast C (i := 40) kd_40 (hid 40 (by decide)) al_40 (by omega) (by omega) dX6_tellingPattern_123 (fun n4 h5 => ?_)
      have hG6 := wA_40 (v := y102_3) (j := n4) hGq102 (by omega) (by omega)
      have hR7 := RK.I (i := 40) (k := n4) (v := y102_3) hRq102 (by decide) (fun e => absurd e (by decide))
      refine a_aload_n C dX6_tellingPattern_124 (i := 1) rfl rfl ?_
      refine a_dup C dX6_tellingPattern_125 rfl ?_
      have g8 := bF_30_4 hGq102
      refine a_get C fl_RX6_116 (i := 30) kd_30 (hid 30 (by decide)) (v := .int (σq102.1 30 4)) rfl dX6_tellingPattern_126 ?_
      refine s_iconst C dX6_tellingPattern_129 (1) (by decide) (fun z9 h10 => ?_)
      refine s_iadd C dX6_tellingPattern_130 (by omega) (fun z11 h12 => ?_)
      refine a_put C fp_RX6_116 (i := 30) kd_30 (hid 30 (by decide)) rfl rfl dX6_tellingPattern_131 ?_
      have hG13 := wF_30_4 (v := z11) hG6 (by omega) (by omega)
      have hR14 := RK.I (i := 30) (k := 4) (v := z11) hR7 (by decide) (fun e => absurd e (by decide))
      refine a_aload_n C dX6_tellingPattern_134 (i := 0) rfl rfl ?_
      refine s_bipush C dX6_tellingPattern_135 (59) (by decide) (fun z15 h16 => ?_)
      refine a_callVi C (i := 1) kd_1 (hid 1 (by decide)) ⟨_, _, rfl⟩ (by decide) (S_X6_take_1 (x1 := z15) hid hG13 hR14) mi_X6_take ml_RX6_77 rfl rfl (Nat.le_of_ble_eq_true rfl) (Nat.le_of_ble_eq_true rfl) (Nat.le_of_ble_eq_true rfl) dX6_tellingPattern_137 (fun z17 σ18 q19 => ?_)
      obtain ⟨hG20, ho21, hR22, w23, w24, w25⟩ := q19
      exact a_iret Rt dX6_tellingPattern_140 (nar_z (by omega)).1 (⟨hG20, (ony.tr (ony.I (ony.I hoq102 (by decide)) (by decide)) (ony.mono ho21 (by decide))), hR22, (show 0 ≤ z17.toInt ∧ z17.toInt ≤ 1 by intros; omega)⟩)
    ·
      refine a_aload_n C dX6_tellingPattern_111 (i := 0) rfl rfl ?_
      refine s_iconst C dX6_tellingPattern_112 (2) (by decide) (fun z26 h27 => ?_)
      refine a_callVi C (i := 1) kd_1 (hid 1 (by decide)) ⟨_, _, rfl⟩ (by decide) (S_X6_refuse_1 (x1 := z26) hid hGq102 hRq102) mi_X6_refuse ml_RX6_60 rfl rfl (Nat.le_of_ble_eq_true rfl) (Nat.le_of_ble_eq_true rfl) (Nat.le_of_ble_eq_true rfl) dX6_tellingPattern_113 (fun z28 σ29 q30 => ?_)
      obtain ⟨hG31, ho32, hR33, w34⟩ := q30
      exact a_iret Rt dX6_tellingPattern_116 (nar_z (by omega)).1 (⟨hG31, (ony.tr hoq102 (ony.mono ho32 (by decide))), hR33, (show 0 ≤ z28.toInt ∧ z28.toInt ≤ 1 by intros; omega)⟩)
  have j57 : ∀ (d57 : Nat) (σq57 : HS) (y57_2 : Int32) (y57_3 : Int32), 8 - y57_3.toInt < d57 → GIc σq57 → ony [1, 7, 30, 35, 36, 37, 38, 39, 40] σ σq57 → RK σq57 → 0 ≤ y57_2.toInt ∧ y57_2.toInt ≤ 4 → 1 ≤ y57_3.toInt ∧ y57_3.toInt ≤ 8 → (σq57.1 30 4).toInt = y57_2.toInt → AW ids ad ca Γ 57 [some (.ref (ad 1)), some (.ref (ad 30)), some (.int y57_2), some (.int y57_3)] [] σq57 := by
    intro d57
    induction d57 with
    | zero =>
      intro σq57 y57_2 y57_3 hd57 hGq57 hoq57 hRq57 hx57_0 hx57_1 hx57_2
      exfalso
      omega
    | succ d57 ih57 =>
      intro σq57 y57_2 y57_3 hd57 hGq57 hoq57 hRq57 hx57_0 hx57_1 hx57_2
      refine a_aload_n C dX6_tellingPattern_57 (i := 0) rfl rfl ?_
      refine a_get C fl_RX6_53 (i := 1) kd_1 (hid 1 (by decide)) (v := .int (σq57.1 1 6)) rfl dX6_tellingPattern_58 ?_
      refine s_bipush C dX6_tellingPattern_61 (21) (by decide) (fun z35 h36 => ?_)
      refine s_ic_ne C dX6_tellingPattern_63 (tgt := 102) rfl (fun c37 => ?_) (fun c37 => ?_)
      ·
        have g38 := bF_30_4 hGq57
        exact j102 _ y57_2 y57_3 hGq57 hoq57 hRq57 (by omega) (by omega) (show (σq57.1 30 4).toInt = y57_2.toInt by omega)
      ·
        refine a_iload_n C dX6_tellingPattern_66 (i := 3) rfl rfl ?_
        refine s_bipush C dX6_tellingPattern_67 (8) (by decide) (fun z39 h40 => ?_)
        refine s_ic_ge C dX6_tellingPattern_69 (tgt := 102) rfl (fun c41 => ?_) (fun c41 => ?_)
        ·
          have g42 := bF_30_4 hGq57
          exact j102 _ y57_2 y57_3 hGq57 hoq57 hRq57 (by omega) (by omega) (show (σq57.1 30 4).toInt = y57_2.toInt by omega)
        ·
          refine a_aload_n C dX6_tellingPattern_72 (i := 0) rfl rfl ?_
          refine s_iconst C dX6_tellingPattern_73 (0) (by decide) (fun z43 h44 => ?_)
          refine s_bipush C dX6_tellingPattern_74 (9) (by decide) (fun z45 h46 => ?_)
          refine a_callVi C (i := 1) kd_1 (hid 1 (by decide)) ⟨_, _, rfl⟩ (by decide) (S_X6_takeNumber_1 (x1 := z43) (x2 := z45) hid hGq57 hRq57) mi_X6_takeNumber ml_RX6_90 rfl rfl (Nat.le_of_ble_eq_true rfl) (Nat.le_of_ble_eq_true rfl) (Nat.le_of_ble_eq_true rfl) dX6_tellingPattern_76 (fun z47 σ48 q49 => ?_)
          obtain ⟨hG50, ho51, hR52, w53, w54⟩ := q49
          refine s_if_ne C dX6_tellingPattern_79 (tgt := 84) rfl (fun c55 => ?_) (fun c55 => ?_)
          ·
            refine a_aload_n C dX6_tellingPattern_84 (i := 1) rfl rfl ?_
            refine a_get C fl_RX6_119 (i := 30) kd_30 (hid 30 (by decide)) (v := .ref (ad 34)) rfl dX6_tellingPattern_85 ?_
            refine a_iload_n C dX6_tellingPattern_88 (i := 2) rfl rfl ?_
            refine s_aaldH C (i := 34) kd_34 (hid 34 (by decide)) al_34 (by omega) (by omega) dX6_tellingPattern_89 (fun n56 h57 h58 => ?_)
            refine a_iload_n C dX6_tellingPattern_90 (i := 3) rfl rfl ?_
            refine a_aload_n C dX6_tellingPattern_91 (i := 0) rfl rfl ?_
            refine a_get C fl_RX6_67 (i := 1) kd_1 (hid 1 (by decide)) (v := .int (σ48.1 1 7)) rfl dX6_tellingPattern_92 ?_
            refine s_iast C (i := (34 + 1 + n56)) (kdH_34 n56 h58).1 (hid _ (kdH_34 n56 h58).2.2) (kdH_34 n56 h58).2.1 (by omega) (by omega) dX6_tellingPattern_95 (fun n62 h63 => ?_)
            refine s_gen2 (wH_34 (n := n56) (j := n62) hG50 h58 (by omega) (by omega)) (fun σ59 hG60 ho61 => ?_)
            have hR64 := RK.ony hR52 ho61 (by decide) (by decide)
            refine s_iinc C dX6_tellingPattern_96 rfl (1) (by decide) (by omega) (by decide) rfl (fun z65 h66 => ?_)
            show AW ids ad ca Γ 99 [some (.ref (ad 1)), some (.ref (ad 30)), some (.int y57_2), some (.int z65)] _ _
            refine a_goto C dX6_tellingPattern_99 (tgt := 57) rfl ?_
            have g67 := bF_30_4 hG60
            have g68 := bF_30_4 hG50
            have g69 := bF_30_4 hGq57
            have g70 : (σ48.1 30 4).toInt = (σq57.1 30 4).toInt := congrArg Int32.toInt (congrFun (ho51.1 30 (by decide)).1 4)
            have g71 : (σ59.1 30 4).toInt = (σ48.1 30 4).toInt := congrArg Int32.toInt (congrFun (ho61.1 30 (by decide)).1 4)
            exact ih57 _ y57_2 z65 (by omega) hG60 (ony.tr (ony.tr hoq57 (ony.mono ho51 (by decide))) (ony.mono ho61 (by decide))) hR64 (by omega) (by omega) (show (σ59.1 30 4).toInt = y57_2.toInt by omega)
          ·
            refine s_iconst C dX6_tellingPattern_82 (0) (by decide) (fun z72 h73 => ?_)
            exact a_iret Rt dX6_tellingPattern_83 (nar_z (by omega)).1 (⟨hG50, (ony.tr hoq57 (ony.mono ho51 (by decide))), hR52, (show 0 ≤ z72.toInt ∧ z72.toInt ≤ 1 by intros; omega)⟩)
  refine a_aload_n C dX6_tellingPattern_0 (i := 1) rfl rfl ?_
  have g74 := bF_30_4 hG
  refine a_get C fl_RX6_116 (i := 30) kd_30 (hid 30 (by decide)) (v := .int (σ.1 30 4)) rfl dX6_tellingPattern_1 ?_
  refine a_istore_n C dX6_tellingPattern_4 (i := 2) rfl (by decide) rfl (vs1 := [some (.ref (ad 1)), some (.ref (ad 30)), some (.int (σ.1 30 4)), none]) rfl ?_
  refine a_iload_n C dX6_tellingPattern_5 (i := 2) rfl rfl ?_
  refine s_iconst C dX6_tellingPattern_6 (5) (by decide) (fun z75 h76 => ?_)
  refine s_ic_lt C dX6_tellingPattern_7 (tgt := 16) rfl (fun c77 => ?_) (fun c77 => ?_)
  ·
    refine a_aload_n C dX6_tellingPattern_16 (i := 0) rfl rfl ?_
    refine s_iconst C dX6_tellingPattern_17 (1) (by decide) (fun z78 h79 => ?_)
    refine a_callVi C (i := 1) kd_1 (hid 1 (by decide)) ⟨_, _, rfl⟩ (by decide) (S_X6_take_1 (x1 := z78) hid hG hR) mi_X6_take ml_RX6_77 rfl rfl (Nat.le_of_ble_eq_true rfl) (Nat.le_of_ble_eq_true rfl) (Nat.le_of_ble_eq_true rfl) dX6_tellingPattern_18 (fun z80 σ81 q82 => ?_)
    obtain ⟨hG83, ho84, hR85, w86, w87, w88⟩ := q82
    refine s_if_eq C dX6_tellingPattern_21 (tgt := 41) rfl (fun c89 => ?_) (fun c89 => ?_)
    ·
      refine s_iconst C dX6_tellingPattern_41 (0) (by decide) (fun z90 h91 => ?_)
      exact a_iret Rt dX6_tellingPattern_42 (nar_z (by omega)).1 (⟨hG83, (ony.tr ony.rf (ony.mono ho84 (by decide))), hR85, (show 0 ≤ z90.toInt ∧ z90.toInt ≤ 1 by intros; omega)⟩)
    ·
      refine a_aload_n C dX6_tellingPattern_24 (i := 0) rfl rfl ?_
      refine a_callVi C (i := 1) kd_1 (hid 1 (by decide)) ⟨_, _, rfl⟩ (by decide) (S_X6_takeName_1 hid hG83 hR85) mi_X6_takeName ml_RX6_103 rfl rfl (Nat.le_of_ble_eq_true rfl) (Nat.le_of_ble_eq_true rfl) (Nat.le_of_ble_eq_true rfl) dX6_tellingPattern_25 (fun z92 σ93 q94 => ?_)
      obtain ⟨hG95, ho96, hR97, w98⟩ := q94
      refine s_if_eq C dX6_tellingPattern_28 (tgt := 41) rfl (fun c99 => ?_) (fun c99 => ?_)
      ·
        refine s_iconst C dX6_tellingPattern_41 (0) (by decide) (fun z100 h101 => ?_)
        exact a_iret Rt dX6_tellingPattern_42 (nar_z (by omega)).1 (⟨hG95, (ony.tr (ony.tr ony.rf (ony.mono ho84 (by decide))) (ony.mono ho96 (by decide))), hR97, (show 0 ≤ z100.toInt ∧ z100.toInt ≤ 1 by intros; omega)⟩)
      ·
        refine a_aload_n C dX6_tellingPattern_31 (i := 0) rfl rfl ?_
        refine s_iconst C dX6_tellingPattern_32 (0) (by decide) (fun z102 h103 => ?_)
        refine s_bipush C dX6_tellingPattern_33 (9) (by decide) (fun z104 h105 => ?_)
        refine a_callVi C (i := 1) kd_1 (hid 1 (by decide)) ⟨_, _, rfl⟩ (by decide) (S_X6_takeNumber_1 (x1 := z102) (x2 := z104) hid hG95 hR97) mi_X6_takeNumber ml_RX6_90 rfl rfl (Nat.le_of_ble_eq_true rfl) (Nat.le_of_ble_eq_true rfl) (Nat.le_of_ble_eq_true rfl) dX6_tellingPattern_35 (fun z106 σ107 q108 => ?_)
        obtain ⟨hG109, ho110, hR111, w112, w113⟩ := q108
        refine s_if_ne C dX6_tellingPattern_38 (tgt := 43) rfl (fun c114 => ?_) (fun c114 => ?_)
        ·
          refine a_aload_n C dX6_tellingPattern_43 (i := 1) rfl rfl ?_
          refine a_get C fl_RX6_119 (i := 30) kd_30 (hid 30 (by decide)) (v := .ref (ad 34)) rfl dX6_tellingPattern_44 ?_
          refine a_iload_n C dX6_tellingPattern_47 (i := 2) rfl rfl ?_
          refine s_aaldH C (i := 34) kd_34 (hid 34 (by decide)) al_34 (by omega) (by omega) dX6_tellingPattern_48 (fun n115 h116 h117 => ?_)
          refine s_iconst C dX6_tellingPattern_49 (0) (by decide) (fun z118 h119 => ?_)
          refine a_aload_n C dX6_tellingPattern_50 (i := 0) rfl rfl ?_
          refine a_get C fl_RX6_67 (i := 1) kd_1 (hid 1 (by decide)) (v := .int (σ107.1 1 7)) rfl dX6_tellingPattern_51 ?_
          refine s_iast C (i := (34 + 1 + n115)) (kdH_34 n115 h117).1 (hid _ (kdH_34 n115 h117).2.2) (kdH_34 n115 h117).2.1 (by omega) (by omega) dX6_tellingPattern_54 (fun n123 h124 => ?_)
          refine s_gen2 (wH_34 (n := n115) (j := n123) hG109 h117 (by omega) (by omega)) (fun σ120 hG121 ho122 => ?_)
          have hR125 := RK.ony hR111 ho122 (by decide) (by decide)
          refine s_iconst C dX6_tellingPattern_55 (1) (by decide) (fun z126 h127 => ?_)
          refine a_istore_n C dX6_tellingPattern_56 (i := 3) rfl (by decide) rfl (vs1 := [some (.ref (ad 1)), some (.ref (ad 30)), some (.int (σ.1 30 4)), some (.int z126)]) rfl ?_
          have g128 := bF_30_4 hG121
          have g129 := bF_30_4 hG109
          have g130 := bF_30_4 hG95
          have g131 := bF_30_4 hG83
          have g132 := bF_30_4 hG
          have g133 : (σ81.1 30 4).toInt = (σ.1 30 4).toInt := congrArg Int32.toInt (congrFun (ho84.1 30 (by decide)).1 4)
          have g134 : (σ93.1 30 4).toInt = (σ81.1 30 4).toInt := congrArg Int32.toInt (congrFun (ho96.1 30 (by decide)).1 4)
          have g135 : (σ107.1 30 4).toInt = (σ93.1 30 4).toInt := congrArg Int32.toInt (congrFun (ho110.1 30 (by decide)).1 4)
          have g136 : (σ120.1 30 4).toInt = (σ107.1 30 4).toInt := congrArg Int32.toInt (congrFun (ho122.1 30 (by decide)).1 4)
          exact j57 100000 _ (σ.1 30 4) z126 (by omega) hG121 (ony.tr (ony.tr (ony.tr (ony.tr ony.rf (ony.mono ho84 (by decide))) (ony.mono ho96 (by decide))) (ony.mono ho110 (by decide))) (ony.mono ho122 (by decide))) hR125 (by omega) (by omega) (show (σ120.1 30 4).toInt = (σ.1 30 4).toInt by omega)
        ·
          refine s_iconst C dX6_tellingPattern_41 (0) (by decide) (fun z137 h138 => ?_)
          exact a_iret Rt dX6_tellingPattern_42 (nar_z (by omega)).1 (⟨hG109, (ony.tr (ony.tr (ony.tr ony.rf (ony.mono ho84 (by decide))) (ony.mono ho96 (by decide))) (ony.mono ho110 (by decide))), hR111, (show 0 ≤ z137.toInt ∧ z137.toInt ≤ 1 by intros; omega)⟩)
  ·
    refine a_aload_n C dX6_tellingPattern_10 (i := 0) rfl rfl ?_
    refine s_iconst C dX6_tellingPattern_11 (2) (by decide) (fun z139 h140 => ?_)
    refine a_callVi C (i := 1) kd_1 (hid 1 (by decide)) ⟨_, _, rfl⟩ (by decide) (S_X6_refuse_1 (x1 := z139) hid hG hR) mi_X6_refuse ml_RX6_60 rfl rfl (Nat.le_of_ble_eq_true rfl) (Nat.le_of_ble_eq_true rfl) (Nat.le_of_ble_eq_true rfl) dX6_tellingPattern_12 (fun z141 σ142 q143 => ?_)
    obtain ⟨hG144, ho145, hR146, w147⟩ := q143
    exact a_iret Rt dX6_tellingPattern_15 (nar_z (by omega)).1 (⟨hG144, (ony.tr ony.rf (ony.mono ho145 (by decide))), hR146, (show 0 ≤ z141.toInt ∧ z141.toInt ≤ 1 by intros; omega)⟩)
theorem dX6_unit_0 : decode cX6_unit 0 = .ok (.aload_n 0, 1) := by decide +kernel
theorem dX6_unit_1 : decode cX6_unit 1 = .ok (.getfield 53, 3) := by decide +kernel
theorem dX6_unit_4 : decode cX6_unit 4 = .ok (.bipush 21, 2) := by decide +kernel
theorem dX6_unit_6 : decode cX6_unit 6 = .ok (.if_icmp .ne 20, 3) := by decide +kernel
theorem dX6_unit_9 : decode cX6_unit 9 = .ok (.aload_n 0, 1) := by decide +kernel
theorem dX6_unit_10 : decode cX6_unit 10 = .ok (.bipush 21, 2) := by decide +kernel
theorem dX6_unit_12 : decode cX6_unit 12 = .ok (.invokevirtual 77, 3) := by decide +kernel
theorem dX6_unit_15 : decode cX6_unit 15 = .ok (.istore_n 3, 1) := by decide +kernel
theorem dX6_unit_16 : decode cX6_unit 16 = .ok (.aload_n 1, 1) := by decide +kernel
theorem dX6_unit_17 : decode cX6_unit 17 = .ok (.aload_n 0, 1) := by decide +kernel
theorem dX6_unit_18 : decode cX6_unit 18 = .ok (.getfield 67, 3) := by decide +kernel
theorem dX6_unit_21 : decode cX6_unit 21 = .ok (.invokevirtual 138, 3) := by decide +kernel
theorem dX6_unit_24 : decode cX6_unit 24 = .ok (.iload_n 3, 1) := by decide +kernel
theorem dX6_unit_25 : decode cX6_unit 25 = .ok (.ireturn, 1) := by decide +kernel
theorem dX6_unit_26 : decode cX6_unit 26 = .ok (.aload_n 0, 1) := by decide +kernel
theorem dX6_unit_27 : decode cX6_unit 27 = .ok (.getfield 53, 3) := by decide +kernel
theorem dX6_unit_30 : decode cX6_unit 30 = .ok (.bipush 11, 2) := by decide +kernel
theorem dX6_unit_32 : decode cX6_unit 32 = .ok (.if_icmp .lt 35, 3) := by decide +kernel
theorem dX6_unit_35 : decode cX6_unit 35 = .ok (.aload_n 0, 1) := by decide +kernel
theorem dX6_unit_36 : decode cX6_unit 36 = .ok (.getfield 53, 3) := by decide +kernel
theorem dX6_unit_39 : decode cX6_unit 39 = .ok (.bipush 19, 2) := by decide +kernel
theorem dX6_unit_41 : decode cX6_unit 41 = .ok (.if_icmp .gt 26, 3) := by decide +kernel
theorem dX6_unit_44 : decode cX6_unit 44 = .ok (.aload_n 1, 1) := by decide +kernel
theorem dX6_unit_45 : decode cX6_unit 45 = .ok (.bipush (-10), 2) := by decide +kernel
theorem dX6_unit_47 : decode cX6_unit 47 = .ok (.aload_n 0, 1) := by decide +kernel
theorem dX6_unit_48 : decode cX6_unit 48 = .ok (.getfield 53, 3) := by decide +kernel
theorem dX6_unit_51 : decode cX6_unit 51 = .ok (.bipush 11, 2) := by decide +kernel
theorem dX6_unit_53 : decode cX6_unit 53 = .ok (.isub, 1) := by decide +kernel
theorem dX6_unit_54 : decode cX6_unit 54 = .ok (.isub, 1) := by decide +kernel
theorem dX6_unit_55 : decode cX6_unit 55 = .ok (.invokevirtual 138, 3) := by decide +kernel
theorem dX6_unit_58 : decode cX6_unit 58 = .ok (.aload_n 0, 1) := by decide +kernel
theorem dX6_unit_59 : decode cX6_unit 59 = .ok (.aload_n 0, 1) := by decide +kernel
theorem dX6_unit_60 : decode cX6_unit 60 = .ok (.getfield 53, 3) := by decide +kernel
theorem dX6_unit_63 : decode cX6_unit 63 = .ok (.invokevirtual 77, 3) := by decide +kernel
theorem dX6_unit_66 : decode cX6_unit 66 = .ok (.ireturn, 1) := by decide +kernel
theorem dX6_unit_67 : decode cX6_unit 67 = .ok (.aload_n 0, 1) := by decide +kernel
theorem dX6_unit_68 : decode cX6_unit 68 = .ok (.getfield 53, 3) := by decide +kernel
theorem dX6_unit_71 : decode cX6_unit 71 = .ok (.bipush 40, 2) := by decide +kernel
theorem dX6_unit_73 : decode cX6_unit 73 = .ok (.if_icmp .ne 15, 3) := by decide +kernel
theorem dX6_unit_76 : decode cX6_unit 76 = .ok (.iload_n 2, 1) := by decide +kernel
theorem dX6_unit_77 : decode cX6_unit 77 = .ok (.bipush 6, 2) := by decide +kernel
theorem dX6_unit_79 : decode cX6_unit 79 = .ok (.if_icmp .lt 9, 3) := by decide +kernel
theorem dX6_unit_82 : decode cX6_unit 82 = .ok (.aload_n 0, 1) := by decide +kernel
theorem dX6_unit_83 : decode cX6_unit 83 = .ok (.iconst 2, 1) := by decide +kernel
theorem dX6_unit_84 : decode cX6_unit 84 = .ok (.invokevirtual 60, 3) := by decide +kernel
theorem dX6_unit_87 : decode cX6_unit 87 = .ok (.ireturn, 1) := by decide +kernel
theorem dX6_unit_88 : decode cX6_unit 88 = .ok (.aload_n 0, 1) := by decide +kernel
theorem dX6_unit_89 : decode cX6_unit 89 = .ok (.bipush 40, 2) := by decide +kernel
theorem dX6_unit_91 : decode cX6_unit 91 = .ok (.invokevirtual 77, 3) := by decide +kernel
theorem dX6_unit_94 : decode cX6_unit 94 = .ok (.ifCond .eq 27, 3) := by decide +kernel
theorem dX6_unit_97 : decode cX6_unit 97 = .ok (.aload_n 0, 1) := by decide +kernel
theorem dX6_unit_98 : decode cX6_unit 98 = .ok (.aload_n 1, 1) := by decide +kernel
theorem dX6_unit_99 : decode cX6_unit 99 = .ok (.iload_n 2, 1) := by decide +kernel
theorem dX6_unit_100 : decode cX6_unit 100 = .ok (.iconst 1, 1) := by decide +kernel
theorem dX6_unit_101 : decode cX6_unit 101 = .ok (.iadd, 1) := by decide +kernel
theorem dX6_unit_102 : decode cX6_unit 102 = .ok (.invokevirtual 135, 3) := by decide +kernel
theorem dX6_unit_121 : decode cX6_unit 121 = .ok (.iconst 0, 1) := by decide +kernel
theorem dX6_unit_122 : decode cX6_unit 122 = .ok (.ireturn, 1) := by decide +kernel
set_option maxHeartbeats 4000000 in
set_option maxRecDepth 100000 in
theorem S_X6_unit_1_30_w6 {l : Launch} {D : va_G} {ids : List Nat} {ad : Nat → Nat} {ca : Nat → ClassId} {σ : HS} {x2 : Int32} (hid : ∀ i, i < 277 → i ∈ ids) (hG : GIc σ) (hR : RK σ) (hx2 : 6 ≤ x2.toInt ∧ x2.toInt ≤ 6) : Ki l D ids ad ca yX6_unit cX6_unit 4 .boolean 2 42 [.ref (ad 1), .ref (ad 30), .int x2] σ (fun r σ1 => (GIc σ1) ∧ (ony [1, 30, 41] σ σ1) ∧ (RK σ1) ∧ (0 ≤ r.toInt ∧ r.toInt ≤ 1)) := by
  refine Ki.of (by decide) (Nat.le_of_ble_eq_true rfl) 1 (fun Γ C Rt => ?_)
  show AW ids ad ca Γ 0 [some (.ref (ad 1)), some (.ref (ad 30)), some (.int x2), none] [] σ
  have j67 : ∀ (σq67 : HS), GIc σq67 → ony [1, 30, 41] σ σq67 → RK σq67 → AW ids ad ca Γ 67 [some (.ref (ad 1)), some (.ref (ad 30)), some (.int x2), none] [] σq67 := by
    intro σq67 hGq67 hoq67 hRq67
    refine a_aload_n C dX6_unit_67 (i := 0) rfl rfl ?_
    refine a_get C fl_RX6_53 (i := 1) kd_1 (hid 1 (by decide)) (v := .int (σq67.1 1 6)) rfl dX6_unit_68 ?_
    refine s_bipush C dX6_unit_71 (40) (by decide) (fun z1 h2 => ?_)
    refine s_ic_ne C dX6_unit_73 (tgt := 88) rfl (fun c3 => ?_) (fun c3 => ?_)
    ·
      refine a_aload_n C dX6_unit_88 (i := 0) rfl rfl ?_
      refine s_bipush C dX6_unit_89 (40) (by decide) (fun z4 h5 => ?_)
      refine a_callVi C (i := 1) kd_1 (hid 1 (by decide)) ⟨_, _, rfl⟩ (by decide) (S_X6_take_1 (x1 := z4) hid hGq67 hRq67) mi_X6_take ml_RX6_77 rfl rfl (Nat.le_of_ble_eq_true rfl) (Nat.le_of_ble_eq_true rfl) (Nat.le_of_ble_eq_true rfl) dX6_unit_91 (fun z6 σ7 q8 => ?_)
      obtain ⟨hG9, ho10, hR11, w12, w13, w14⟩ := q8
      refine s_if_eq C dX6_unit_94 (tgt := 121) rfl (fun c15 => ?_) (fun c15 => ?_)
      ·
        refine s_iconst C dX6_unit_121 (0) (by decide) (fun z16 h17 => ?_)
        exact a_iret Rt dX6_unit_122 (nar_z (by omega)).1 (⟨hG9, (ony.tr hoq67 (ony.mono ho10 (by decide))), hR11, (show 0 ≤ z16.toInt ∧ z16.toInt ≤ 1 by intros; omega)⟩)
      ·
        refine a_aload_n C dX6_unit_97 (i := 0) rfl rfl ?_
        refine a_aload_n C dX6_unit_98 (i := 1) rfl rfl ?_
        refine a_iload_n C dX6_unit_99 (i := 2) rfl rfl ?_
        refine s_iconst C dX6_unit_100 (1) (by decide) (fun z18 h19 => ?_)
        refine s_iadd C dX6_unit_101 (by omega) (fun z20 h21 => ?_)
        exfalso
        omega
    ·
      refine a_iload_n C dX6_unit_76 (i := 2) rfl rfl ?_
      refine s_bipush C dX6_unit_77 (6) (by decide) (fun z22 h23 => ?_)
      refine s_ic_lt C dX6_unit_79 (tgt := 88) rfl (fun c24 => absurd c24 (by omega)) (fun c24 => ?_)
      refine a_aload_n C dX6_unit_82 (i := 0) rfl rfl ?_
      refine s_iconst C dX6_unit_83 (2) (by decide) (fun z25 h26 => ?_)
      refine a_callVi C (i := 1) kd_1 (hid 1 (by decide)) ⟨_, _, rfl⟩ (by decide) (S_X6_refuse_1 (x1 := z25) hid hGq67 hRq67) mi_X6_refuse ml_RX6_60 rfl rfl (Nat.le_of_ble_eq_true rfl) (Nat.le_of_ble_eq_true rfl) (Nat.le_of_ble_eq_true rfl) dX6_unit_84 (fun z27 σ28 q29 => ?_)
      obtain ⟨hG30, ho31, hR32, w33⟩ := q29
      exact a_iret Rt dX6_unit_87 (nar_z (by omega)).1 (⟨hG30, (ony.tr hoq67 (ony.mono ho31 (by decide))), hR32, (show 0 ≤ z27.toInt ∧ z27.toInt ≤ 1 by intros; omega)⟩)
  refine a_aload_n C dX6_unit_0 (i := 0) rfl rfl ?_
  refine a_get C fl_RX6_53 (i := 1) kd_1 (hid 1 (by decide)) (v := .int (σ.1 1 6)) rfl dX6_unit_1 ?_
  refine s_bipush C dX6_unit_4 (21) (by decide) (fun z34 h35 => ?_)
  refine s_ic_ne C dX6_unit_6 (tgt := 26) rfl (fun c36 => ?_) (fun c36 => ?_)
  ·
    refine a_aload_n C dX6_unit_26 (i := 0) rfl rfl ?_
    refine a_get C fl_RX6_53 (i := 1) kd_1 (hid 1 (by decide)) (v := .int (σ.1 1 6)) rfl dX6_unit_27 ?_
    refine s_bipush C dX6_unit_30 (11) (by decide) (fun z37 h38 => ?_)
    refine s_ic_lt C dX6_unit_32 (tgt := 67) rfl (fun c39 => ?_) (fun c39 => ?_)
    ·
      exact j67 _ hG ony.rf hR
    ·
      refine a_aload_n C dX6_unit_35 (i := 0) rfl rfl ?_
      refine a_get C fl_RX6_53 (i := 1) kd_1 (hid 1 (by decide)) (v := .int (σ.1 1 6)) rfl dX6_unit_36 ?_
      refine s_bipush C dX6_unit_39 (19) (by decide) (fun z40 h41 => ?_)
      refine s_ic_gt C dX6_unit_41 (tgt := 67) rfl (fun c42 => ?_) (fun c42 => ?_)
      ·
        exact j67 _ hG ony.rf hR
      ·
        refine a_aload_n C dX6_unit_44 (i := 1) rfl rfl ?_
        refine s_bipush C dX6_unit_45 (-10) (by decide) (fun z43 h44 => ?_)
        refine a_aload_n C dX6_unit_47 (i := 0) rfl rfl ?_
        refine a_get C fl_RX6_53 (i := 1) kd_1 (hid 1 (by decide)) (v := .int (σ.1 1 6)) rfl dX6_unit_48 ?_
        refine s_bipush C dX6_unit_51 (11) (by decide) (fun z45 h46 => ?_)
        refine s_isubU C dX6_unit_53 (fun z47 => ?_)
        refine s_isubU C dX6_unit_54 (fun z49 => ?_)
        refine a_callVv C (i := 30) kd_30 (hid 30 (by decide)) ⟨_, _, rfl⟩ (by decide) (S_X10_emit_30 (x1 := z49) hid hG) mi_X10_emit ml_RX6_138 rfl rfl (Nat.le_of_ble_eq_true rfl) (Nat.le_of_ble_eq_true rfl) (Nat.le_of_ble_eq_true rfl) dX6_unit_55 (fun σ52 q53 => ?_)
        obtain ⟨hG54, ho55⟩ := q53
        have hR56 := RK.ony hR ho55 (by decide) (by decide)
        refine a_aload_n C dX6_unit_58 (i := 0) rfl rfl ?_
        refine a_aload_n C dX6_unit_59 (i := 0) rfl rfl ?_
        refine a_get C fl_RX6_53 (i := 1) kd_1 (hid 1 (by decide)) (v := .int (σ52.1 1 6)) rfl dX6_unit_60 ?_
        refine a_callVi C (i := 1) kd_1 (hid 1 (by decide)) ⟨_, _, rfl⟩ (by decide) (S_X6_take_1 (x1 := (σ52.1 1 6)) hid hG54 hR56) mi_X6_take ml_RX6_77 rfl rfl (Nat.le_of_ble_eq_true rfl) (Nat.le_of_ble_eq_true rfl) (Nat.le_of_ble_eq_true rfl) dX6_unit_63 (fun z57 σ58 q59 => ?_)
        obtain ⟨hG60, ho61, hR62, w63, w64, w65⟩ := q59
        exact a_iret Rt dX6_unit_66 (nar_z (by omega)).1 (⟨hG60, (ony.tr (ony.tr ony.rf (ony.mono ho55 (by decide))) (ony.mono ho61 (by decide))), hR62, (show 0 ≤ z57.toInt ∧ z57.toInt ≤ 1 by intros; omega)⟩)
  ·
    refine a_aload_n C dX6_unit_9 (i := 0) rfl rfl ?_
    refine s_bipush C dX6_unit_10 (21) (by decide) (fun z66 h67 => ?_)
    refine a_callVi C (i := 1) kd_1 (hid 1 (by decide)) ⟨_, _, rfl⟩ (by decide) (S_X6_take_1 (x1 := z66) hid hG hR) mi_X6_take ml_RX6_77 rfl rfl (Nat.le_of_ble_eq_true rfl) (Nat.le_of_ble_eq_true rfl) (Nat.le_of_ble_eq_true rfl) dX6_unit_12 (fun z68 σ69 q70 => ?_)
    obtain ⟨hG71, ho72, hR73, w74, w75, w76⟩ := q70
    refine a_istore_n C dX6_unit_15 (i := 3) rfl (by decide) rfl (vs1 := [some (.ref (ad 1)), some (.ref (ad 30)), some (.int x2), some (.int z68)]) rfl ?_
    refine a_aload_n C dX6_unit_16 (i := 1) rfl rfl ?_
    refine a_aload_n C dX6_unit_17 (i := 0) rfl rfl ?_
    refine a_get C fl_RX6_67 (i := 1) kd_1 (hid 1 (by decide)) (v := .int (σ69.1 1 7)) rfl dX6_unit_18 ?_
    refine a_callVv C (i := 30) kd_30 (hid 30 (by decide)) ⟨_, _, rfl⟩ (by decide) (S_X10_emit_30 (x1 := (σ69.1 1 7)) hid hG71) mi_X10_emit ml_RX6_138 rfl rfl (Nat.le_of_ble_eq_true rfl) (Nat.le_of_ble_eq_true rfl) (Nat.le_of_ble_eq_true rfl) dX6_unit_21 (fun σ78 q79 => ?_)
    obtain ⟨hG80, ho81⟩ := q79
    have hR82 := RK.ony hR73 ho81 (by decide) (by decide)
    refine a_iload_n C dX6_unit_24 (i := 3) rfl rfl ?_
    exact a_iret Rt dX6_unit_25 (nar_z (by omega)).1 (⟨hG80, (ony.tr (ony.tr ony.rf (ony.mono ho72 (by decide))) (ony.mono ho81 (by decide))), hR82, (show 0 ≤ z68.toInt ∧ z68.toInt ≤ 1 by intros; omega)⟩)
theorem dX6_product_0 : decode cX6_product 0 = .ok (.aload_n 0, 1) := by decide +kernel
theorem dX6_product_1 : decode cX6_product 1 = .ok (.aload_n 1, 1) := by decide +kernel
theorem dX6_product_2 : decode cX6_product 2 = .ok (.iload_n 2, 1) := by decide +kernel
theorem dX6_product_3 : decode cX6_product 3 = .ok (.invokevirtual 147, 3) := by decide +kernel
theorem dX6_product_6 : decode cX6_product 6 = .ok (.istore_n 3, 1) := by decide +kernel
theorem dX6_product_7 : decode cX6_product 7 = .ok (.iconst 0, 1) := by decide +kernel
theorem dX6_product_8 : decode cX6_product 8 = .ok (.istore 4, 2) := by decide +kernel
theorem dX6_product_10 : decode cX6_product 10 = .ok (.iload_n 3, 1) := by decide +kernel
theorem dX6_product_11 : decode cX6_product 11 = .ok (.ifCond .eq 83, 3) := by decide +kernel
theorem dX6_product_14 : decode cX6_product 14 = .ok (.aload_n 0, 1) := by decide +kernel
theorem dX6_product_15 : decode cX6_product 15 = .ok (.getfield 53, 3) := by decide +kernel
theorem dX6_product_18 : decode cX6_product 18 = .ok (.bipush 42, 2) := by decide +kernel
theorem dX6_product_20 : decode cX6_product 20 = .ok (.if_icmp .eq 12, 3) := by decide +kernel
theorem dX6_product_23 : decode cX6_product 23 = .ok (.aload_n 0, 1) := by decide +kernel
theorem dX6_product_24 : decode cX6_product 24 = .ok (.getfield 53, 3) := by decide +kernel
theorem dX6_product_27 : decode cX6_product 27 = .ok (.bipush 47, 2) := by decide +kernel
theorem dX6_product_29 : decode cX6_product 29 = .ok (.if_icmp .ne 65, 3) := by decide +kernel
theorem dX6_product_32 : decode cX6_product 32 = .ok (.iload 4, 2) := by decide +kernel
theorem dX6_product_34 : decode cX6_product 34 = .ok (.sipush 400, 3) := by decide +kernel
theorem dX6_product_37 : decode cX6_product 37 = .ok (.if_icmp .ge 57, 3) := by decide +kernel
theorem dX6_product_40 : decode cX6_product 40 = .ok (.aload_n 0, 1) := by decide +kernel
theorem dX6_product_41 : decode cX6_product 41 = .ok (.getfield 53, 3) := by decide +kernel
theorem dX6_product_44 : decode cX6_product 44 = .ok (.istore 5, 2) := by decide +kernel
theorem dX6_product_46 : decode cX6_product 46 = .ok (.aload_n 0, 1) := by decide +kernel
theorem dX6_product_47 : decode cX6_product 47 = .ok (.iload 5, 2) := by decide +kernel
theorem dX6_product_49 : decode cX6_product 49 = .ok (.invokevirtual 77, 3) := by decide +kernel
theorem dX6_product_52 : decode cX6_product 52 = .ok (.ifCond .eq 16, 3) := by decide +kernel
theorem dX6_product_55 : decode cX6_product 55 = .ok (.aload_n 0, 1) := by decide +kernel
theorem dX6_product_56 : decode cX6_product 56 = .ok (.aload_n 1, 1) := by decide +kernel
theorem dX6_product_57 : decode cX6_product 57 = .ok (.iload_n 2, 1) := by decide +kernel
theorem dX6_product_58 : decode cX6_product 58 = .ok (.invokevirtual 147, 3) := by decide +kernel
theorem dX6_product_61 : decode cX6_product 61 = .ok (.ifCond .eq 7, 3) := by decide +kernel
theorem dX6_product_64 : decode cX6_product 64 = .ok (.iconst 1, 1) := by decide +kernel
theorem dX6_product_65 : decode cX6_product 65 = .ok (.goto 4, 3) := by decide +kernel
theorem dX6_product_68 : decode cX6_product 68 = .ok (.iconst 0, 1) := by decide +kernel
theorem dX6_product_69 : decode cX6_product 69 = .ok (.istore_n 3, 1) := by decide +kernel
theorem dX6_product_70 : decode cX6_product 70 = .ok (.aload_n 1, 1) := by decide +kernel
theorem dX6_product_71 : decode cX6_product 71 = .ok (.iload 5, 2) := by decide +kernel
theorem dX6_product_73 : decode cX6_product 73 = .ok (.bipush 42, 2) := by decide +kernel
theorem dX6_product_75 : decode cX6_product 75 = .ok (.if_icmp .ne 8, 3) := by decide +kernel
theorem dX6_product_78 : decode cX6_product 78 = .ok (.bipush (-3), 2) := by decide +kernel
theorem dX6_product_80 : decode cX6_product 80 = .ok (.goto 5, 3) := by decide +kernel
theorem dX6_product_83 : decode cX6_product 83 = .ok (.bipush (-4), 2) := by decide +kernel
theorem dX6_product_85 : decode cX6_product 85 = .ok (.invokevirtual 138, 3) := by decide +kernel
theorem dX6_product_88 : decode cX6_product 88 = .ok (.iinc 4 1, 3) := by decide +kernel
theorem dX6_product_91 : decode cX6_product 91 = .ok (.goto (-81), 3) := by decide +kernel
theorem dX6_product_94 : decode cX6_product 94 = .ok (.iload_n 3, 1) := by decide +kernel
theorem dX6_product_95 : decode cX6_product 95 = .ok (.ireturn, 1) := by decide +kernel
set_option maxHeartbeats 4000000 in
set_option maxRecDepth 100000 in
theorem S_X6_product_1_30_w6 {l : Launch} {D : va_G} {ids : List Nat} {ad : Nat → Nat} {ca : Nat → ClassId} {σ : HS} {x2 : Int32} (hid : ∀ i, i < 277 → i ∈ ids) (hG : GIc σ) (hR : RK σ) (hx2 : 6 ≤ x2.toInt ∧ x2.toInt ≤ 6) : Ki l D ids ad ca yX6_product cX6_product 6 .boolean 3 65 [.ref (ad 1), .ref (ad 30), .int x2] σ (fun r σ1 => (GIc σ1) ∧ (ony [1, 30, 41] σ σ1) ∧ (RK σ1) ∧ (0 ≤ r.toInt ∧ r.toInt ≤ 1)) := by
  refine Ki.of (by decide) (Nat.le_of_ble_eq_true rfl) 3 (fun Γ C Rt => ?_)
  show AW ids ad ca Γ 0 [some (.ref (ad 1)), some (.ref (ad 30)), some (.int x2), none, none, none] [] σ
  have j10 : ∀ (d10 : Nat) (σq10 : HS) (y10_3 : Int32) (y10_4 : Int32), 400 - y10_4.toInt < d10 → GIc σq10 → ony [1, 30, 41] σ σq10 → RK σq10 → 0 ≤ y10_3.toInt ∧ y10_3.toInt ≤ 1 → 0 ≤ y10_4.toInt ∧ y10_4.toInt ≤ 400 → AW ids ad ca Γ 10 [some (.ref (ad 1)), some (.ref (ad 30)), some (.int x2), some (.int y10_3), some (.int y10_4), none] [] σq10 := by
    intro d10
    induction d10 with
    | zero =>
      intro σq10 y10_3 y10_4 hd10 hGq10 hoq10 hRq10 hx10_0 hx10_1
      exfalso
      omega
    | succ d10 ih10 =>
      intro σq10 y10_3 y10_4 hd10 hGq10 hoq10 hRq10 hx10_0 hx10_1
      have j85 : ∀ (σq85 : HS) (y85_3 : Int32) (u85_0 : Int32), GIc σq85 → ony [1, 30, 41] σ σq85 → RK σq85 → 0 ≤ y85_3.toInt ∧ y85_3.toInt ≤ 1 → -4 ≤ u85_0.toInt ∧ u85_0.toInt ≤ -3 → 0 ≤ y10_4.toInt ∧ y10_4.toInt ≤ 399 → AW ids ad ca Γ 85 [some (.ref (ad 1)), some (.ref (ad 30)), some (.int x2), some (.int y85_3), some (.int y10_4), none] [.int u85_0, .ref (ad 30)] σq85 := by
        intro σq85 y85_3 u85_0 hGq85 hoq85 hRq85 hx85_0 hx85_1 hx85_2
        refine a_callVv C (i := 30) kd_30 (hid 30 (by decide)) ⟨_, _, rfl⟩ (by decide) (S_X10_emit_30 (x1 := u85_0) hid hGq85) mi_X10_emit ml_RX6_138 rfl rfl (Nat.le_of_ble_eq_true rfl) (Nat.le_of_ble_eq_true rfl) (Nat.le_of_ble_eq_true rfl) dX6_product_85 (fun σ2 q3 => ?_)
        obtain ⟨hG4, ho5⟩ := q3
        have hR6 := RK.ony hRq85 ho5 (by decide) (by decide)
        refine s_iinc C dX6_product_88 rfl (1) (by decide) (by omega) (by decide) rfl (fun z7 h8 => ?_)
        show AW ids ad ca Γ 91 [some (.ref (ad 1)), some (.ref (ad 30)), some (.int x2), some (.int y85_3), some (.int z7), none] _ _
        refine a_goto C dX6_product_91 (tgt := 10) rfl ?_
        exact ih10 _ y85_3 z7 (by omega) hG4 (ony.tr hoq85 (ony.mono ho5 (by decide))) hR6 (by omega) (by omega)
      have j69 : ∀ (σq69 : HS) (y69_5 : Int32) (u69_0 : Int32), GIc σq69 → ony [1, 30, 41] σ σq69 → RK σq69 → 0 ≤ u69_0.toInt ∧ u69_0.toInt ≤ 1 → 0 ≤ y10_4.toInt ∧ y10_4.toInt ≤ 399 → AW ids ad ca Γ 69 [some (.ref (ad 1)), some (.ref (ad 30)), some (.int x2), none, some (.int y10_4), some (.int y69_5)] [.int u69_0] σq69 := by
        intro σq69 y69_5 u69_0 hGq69 hoq69 hRq69 hx69_0 hx69_1
        refine a_istore_n C dX6_product_69 (i := 3) rfl (by decide) rfl (vs1 := [some (.ref (ad 1)), some (.ref (ad 30)), some (.int x2), some (.int u69_0), some (.int y10_4), some (.int y69_5)]) rfl ?_
        refine a_aload_n C dX6_product_70 (i := 1) rfl rfl ?_
        refine a_iload C dX6_product_71 rfl ?_
        refine s_bipush C dX6_product_73 (42) (by decide) (fun z9 h10 => ?_)
        refine s_ic_ne C dX6_product_75 (tgt := 83) rfl (fun c11 => ?_) (fun c11 => ?_)
        ·
          refine s_bipush C dX6_product_83 (-4) (by decide) (fun z12 h13 => ?_)
          refine AW.sub (vs' := [some (.ref (ad 1)), some (.ref (ad 30)), some (.int x2), some (.int u69_0), some (.int y10_4), none]) (lsub_of (by simp [lsubB])) ?_
          exact j85 _ u69_0 z12 hGq69 hoq69 hRq69 (by omega) (by omega) (by omega)
        ·
          refine s_bipush C dX6_product_78 (-3) (by decide) (fun z14 h15 => ?_)
          refine a_goto C dX6_product_80 (tgt := 85) rfl ?_
          refine AW.sub (vs' := [some (.ref (ad 1)), some (.ref (ad 30)), some (.int x2), some (.int u69_0), some (.int y10_4), none]) (lsub_of (by simp [lsubB])) ?_
          exact j85 _ u69_0 z14 hGq69 hoq69 hRq69 (by omega) (by omega) (by omega)
      have j68 : ∀ (σq68 : HS) (y68_5 : Int32), GIc σq68 → ony [1, 30, 41] σ σq68 → RK σq68 → 0 ≤ y10_4.toInt ∧ y10_4.toInt ≤ 399 → AW ids ad ca Γ 68 [some (.ref (ad 1)), some (.ref (ad 30)), some (.int x2), none, some (.int y10_4), some (.int y68_5)] [] σq68 := by
        intro σq68 y68_5 hGq68 hoq68 hRq68 hx68_0
        refine s_iconst C dX6_product_68 (0) (by decide) (fun z16 h17 => ?_)
        exact j69 _ y68_5 z16 hGq68 hoq68 hRq68 (by omega) (by omega)
      have j32 : ∀ (σq32 : HS), GIc σq32 → ony [1, 30, 41] σ σq32 → RK σq32 → 1 ≤ y10_3.toInt ∧ y10_3.toInt ≤ 1 → AW ids ad ca Γ 32 [some (.ref (ad 1)), some (.ref (ad 30)), some (.int x2), some (.int y10_3), some (.int y10_4), none] [] σq32 := by
        intro σq32 hGq32 hoq32 hRq32 hx32_0
        refine a_iload C dX6_product_32 rfl ?_
        refine s_sipush C dX6_product_34 (400) (by decide) (fun z18 h19 => ?_)
        refine s_ic_ge C dX6_product_37 (tgt := 94) rfl (fun c20 => ?_) (fun c20 => ?_)
        ·
          refine a_iload_n C dX6_product_94 (i := 3) rfl rfl ?_
          exact a_iret Rt dX6_product_95 (nar_z (by omega)).1 (⟨hGq32, hoq32, hRq32, (show 0 ≤ y10_3.toInt ∧ y10_3.toInt ≤ 1 by intros; omega)⟩)
        ·
          refine a_aload_n C dX6_product_40 (i := 0) rfl rfl ?_
          refine a_get C fl_RX6_53 (i := 1) kd_1 (hid 1 (by decide)) (v := .int (σq32.1 1 6)) rfl dX6_product_41 ?_
          refine a_istore C dX6_product_44 (by decide) rfl (vs1 := [some (.ref (ad 1)), some (.ref (ad 30)), some (.int x2), some (.int y10_3), some (.int y10_4), some (.int (σq32.1 1 6))]) rfl ?_
          refine a_aload_n C dX6_product_46 (i := 0) rfl rfl ?_
          refine a_iload C dX6_product_47 rfl ?_
          refine a_callVi C (i := 1) kd_1 (hid 1 (by decide)) ⟨_, _, rfl⟩ (by decide) (S_X6_take_1 (x1 := (σq32.1 1 6)) hid hGq32 hRq32) mi_X6_take ml_RX6_77 rfl rfl (Nat.le_of_ble_eq_true rfl) (Nat.le_of_ble_eq_true rfl) (Nat.le_of_ble_eq_true rfl) dX6_product_49 (fun z21 σ22 q23 => ?_)
          obtain ⟨hG24, ho25, hR26, w27, w28, w29⟩ := q23
          refine s_if_eq C dX6_product_52 (tgt := 68) rfl (fun c30 => ?_) (fun c30 => ?_)
          ·
            refine AW.sub (vs' := [some (.ref (ad 1)), some (.ref (ad 30)), some (.int x2), none, some (.int y10_4), some (.int (σq32.1 1 6))]) (lsub_of (by simp [lsubB])) ?_
            exact j68 _ (σq32.1 1 6) hG24 (ony.tr hoq32 (ony.mono ho25 (by decide))) hR26 (by omega)
          ·
            refine a_aload_n C dX6_product_55 (i := 0) rfl rfl ?_
            refine a_aload_n C dX6_product_56 (i := 1) rfl rfl ?_
            refine a_iload_n C dX6_product_57 (i := 2) rfl rfl ?_
            refine a_callVi C (i := 1) kd_1 (hid 1 (by decide)) ⟨_, _, rfl⟩ (by decide) (S_X6_unit_1_30_w6 (x2 := x2) hid hG24 hR26 (by omega)) mi_X6_unit ml_RX6_147 rfl rfl (Nat.le_of_ble_eq_true rfl) (Nat.le_of_ble_eq_true rfl) (Nat.le_of_ble_eq_true rfl) dX6_product_58 (fun z31 σ32 q33 => ?_)
            obtain ⟨hG34, ho35, hR36, w37⟩ := q33
            refine s_if_eq C dX6_product_61 (tgt := 68) rfl (fun c38 => ?_) (fun c38 => ?_)
            ·
              refine AW.sub (vs' := [some (.ref (ad 1)), some (.ref (ad 30)), some (.int x2), none, some (.int y10_4), some (.int (σq32.1 1 6))]) (lsub_of (by simp [lsubB])) ?_
              exact j68 _ (σq32.1 1 6) hG34 (ony.tr (ony.tr hoq32 (ony.mono ho25 (by decide))) (ony.mono ho35 (by decide))) hR36 (by omega)
            ·
              refine s_iconst C dX6_product_64 (1) (by decide) (fun z39 h40 => ?_)
              refine a_goto C dX6_product_65 (tgt := 69) rfl ?_
              refine AW.sub (vs' := [some (.ref (ad 1)), some (.ref (ad 30)), some (.int x2), none, some (.int y10_4), some (.int (σq32.1 1 6))]) (lsub_of (by simp [lsubB])) ?_
              exact j69 _ (σq32.1 1 6) z39 hG34 (ony.tr (ony.tr hoq32 (ony.mono ho25 (by decide))) (ony.mono ho35 (by decide))) hR36 (by omega) (by omega)
      refine a_iload_n C dX6_product_10 (i := 3) rfl rfl ?_
      refine s_if_eq C dX6_product_11 (tgt := 94) rfl (fun c41 => ?_) (fun c41 => ?_)
      ·
        refine a_iload_n C dX6_product_94 (i := 3) rfl rfl ?_
        exact a_iret Rt dX6_product_95 (nar_z (by omega)).1 (⟨hGq10, hoq10, hRq10, (show 0 ≤ y10_3.toInt ∧ y10_3.toInt ≤ 1 by intros; omega)⟩)
      ·
        refine a_aload_n C dX6_product_14 (i := 0) rfl rfl ?_
        refine a_get C fl_RX6_53 (i := 1) kd_1 (hid 1 (by decide)) (v := .int (σq10.1 1 6)) rfl dX6_product_15 ?_
        refine s_bipush C dX6_product_18 (42) (by decide) (fun z42 h43 => ?_)
        refine s_ic_eq C dX6_product_20 (tgt := 32) rfl (fun c44 => ?_) (fun c44 => ?_)
        ·
          exact j32 _ hGq10 hoq10 hRq10 (by omega)
        ·
          refine a_aload_n C dX6_product_23 (i := 0) rfl rfl ?_
          refine a_get C fl_RX6_53 (i := 1) kd_1 (hid 1 (by decide)) (v := .int (σq10.1 1 6)) rfl dX6_product_24 ?_
          refine s_bipush C dX6_product_27 (47) (by decide) (fun z45 h46 => ?_)
          refine s_ic_ne C dX6_product_29 (tgt := 94) rfl (fun c47 => ?_) (fun c47 => ?_)
          ·
            refine a_iload_n C dX6_product_94 (i := 3) rfl rfl ?_
            exact a_iret Rt dX6_product_95 (nar_z (by omega)).1 (⟨hGq10, hoq10, hRq10, (show 0 ≤ y10_3.toInt ∧ y10_3.toInt ≤ 1 by intros; omega)⟩)
          ·
            exact j32 _ hGq10 hoq10 hRq10 (by omega)
  refine a_aload_n C dX6_product_0 (i := 0) rfl rfl ?_
  refine a_aload_n C dX6_product_1 (i := 1) rfl rfl ?_
  refine a_iload_n C dX6_product_2 (i := 2) rfl rfl ?_
  refine a_callVi C (i := 1) kd_1 (hid 1 (by decide)) ⟨_, _, rfl⟩ (by decide) (S_X6_unit_1_30_w6 (x2 := x2) hid hG hR (by omega)) mi_X6_unit ml_RX6_147 rfl rfl (Nat.le_of_ble_eq_true rfl) (Nat.le_of_ble_eq_true rfl) (Nat.le_of_ble_eq_true rfl) dX6_product_3 (fun z48 σ49 q50 => ?_)
  obtain ⟨hG51, ho52, hR53, w54⟩ := q50
  refine a_istore_n C dX6_product_6 (i := 3) rfl (by decide) rfl (vs1 := [some (.ref (ad 1)), some (.ref (ad 30)), some (.int x2), some (.int z48), none, none]) rfl ?_
  refine s_iconst C dX6_product_7 (0) (by decide) (fun z55 h56 => ?_)
  refine a_istore C dX6_product_8 (by decide) rfl (vs1 := [some (.ref (ad 1)), some (.ref (ad 30)), some (.int x2), some (.int z48), some (.int z55), none]) rfl ?_
  exact j10 100000 _ z48 z55 (by omega) hG51 (ony.tr ony.rf (ony.mono ho52 (by decide))) hR53 (by omega) (by omega)
