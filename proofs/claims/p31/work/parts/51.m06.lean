theorem dX12_glitterBits_45 : decode cX12_glitterBits 45 = .ok (.iconst 0, 1) := by decide +kernel
theorem dX12_glitterBits_46 : decode cX12_glitterBits 46 = .ok (.istore 4, 2) := by decide +kernel
theorem dX12_glitterBits_48 : decode cX12_glitterBits 48 = .ok (.iload 4, 2) := by decide +kernel
theorem dX12_glitterBits_50 : decode cX12_glitterBits 50 = .ok (.bipush 7, 2) := by decide +kernel
theorem dX12_glitterBits_52 : decode cX12_glitterBits 52 = .ok (.if_icmp .ge 48, 3) := by decide +kernel
theorem dX12_glitterBits_55 : decode cX12_glitterBits 55 = .ok (.aload_n 0, 1) := by decide +kernel
theorem dX12_glitterBits_56 : decode cX12_glitterBits 56 = .ok (.getfield 131, 3) := by decide +kernel
theorem dX12_glitterBits_59 : decode cX12_glitterBits 59 = .ok (.aload_n 0, 1) := by decide +kernel
theorem dX12_glitterBits_60 : decode cX12_glitterBits 60 = .ok (.getfield 125, 3) := by decide +kernel
theorem dX12_glitterBits_63 : decode cX12_glitterBits 63 = .ok (.iload_n 3, 1) := by decide +kernel
theorem dX12_glitterBits_64 : decode cX12_glitterBits 64 = .ok (.iaload, 1) := by decide +kernel
theorem dX12_glitterBits_65 : decode cX12_glitterBits 65 = .ok (.iaload, 1) := by decide +kernel
theorem dX12_glitterBits_66 : decode cX12_glitterBits 66 = .ok (.iload 4, 2) := by decide +kernel
theorem dX12_glitterBits_68 : decode cX12_glitterBits 68 = .ok (.if_icmp .ne 7, 3) := by decide +kernel
theorem dX12_glitterBits_71 : decode cX12_glitterBits 71 = .ok (.iconst 1, 1) := by decide +kernel
theorem dX12_glitterBits_72 : decode cX12_glitterBits 72 = .ok (.goto 4, 3) := by decide +kernel
theorem dX12_glitterBits_75 : decode cX12_glitterBits 75 = .ok (.iconst 0, 1) := by decide +kernel
theorem dX12_glitterBits_76 : decode cX12_glitterBits 76 = .ok (.aload_n 0, 1) := by decide +kernel
theorem dX12_glitterBits_77 : decode cX12_glitterBits 77 = .ok (.getfield 128, 3) := by decide +kernel
theorem dX12_glitterBits_80 : decode cX12_glitterBits 80 = .ok (.iload_n 3, 1) := by decide +kernel
theorem dX12_glitterBits_81 : decode cX12_glitterBits 81 = .ok (.baload, 1) := by decide +kernel
theorem dX12_glitterBits_82 : decode cX12_glitterBits 82 = .ok (.if_icmp .eq 12, 3) := by decide +kernel
theorem dX12_glitterBits_85 : decode cX12_glitterBits 85 = .ok (.iload_n 2, 1) := by decide +kernel
theorem dX12_glitterBits_86 : decode cX12_glitterBits 86 = .ok (.iconst 1, 1) := by decide +kernel
theorem dX12_glitterBits_87 : decode cX12_glitterBits 87 = .ok (.iload 4, 2) := by decide +kernel
theorem dX12_glitterBits_89 : decode cX12_glitterBits 89 = .ok (.ishl, 1) := by decide +kernel
theorem dX12_glitterBits_90 : decode cX12_glitterBits 90 = .ok (.iconst (-1), 1) := by decide +kernel
theorem dX12_glitterBits_91 : decode cX12_glitterBits 91 = .ok (.ixor, 1) := by decide +kernel
theorem dX12_glitterBits_92 : decode cX12_glitterBits 92 = .ok (.iand, 1) := by decide +kernel
theorem dX12_glitterBits_93 : decode cX12_glitterBits 93 = .ok (.istore_n 2, 1) := by decide +kernel
theorem dX12_glitterBits_94 : decode cX12_glitterBits 94 = .ok (.iinc 4 1, 3) := by decide +kernel
theorem dX12_glitterBits_97 : decode cX12_glitterBits 97 = .ok (.goto (-49), 3) := by decide +kernel
theorem dX12_glitterBits_100 : decode cX12_glitterBits 100 = .ok (.iinc 3 1, 3) := by decide +kernel
theorem dX12_glitterBits_103 : decode cX12_glitterBits 103 = .ok (.goto (-63), 3) := by decide +kernel
set_option maxHeartbeats 4000000 in
set_option maxRecDepth 100000 in
theorem S_X12_glitterBits_236 {l : Launch} {D : va_G} {ids : List Nat} {ad : Nat → Nat} {ca : Nat → ClassId} {σ : HS} {x1 : Int32} (hid : ∀ i, i < 277 → i ∈ ids) (hG : GIm σ) {b : Int} (hR : RKm b σ) (hx1 : 0 ≤ x1.toInt ∧ x1.toInt ≤ 20) : Ki l D ids ad ca yX12_glitterBits cX12_glitterBits 5 .int 5 122 [.ref (ad 236), .int x1] σ (fun r σ1 => (GIm σ1) ∧ (onm [264, 265, 267, 274, 1046, 1049, 1050, 1051, 1052, 1053, 2021, 2026, 2027] σ σ1) ∧ (RKm b σ1)) := by
  refine Ki.of (by decide) (Nat.le_of_ble_eq_true rfl) 3 (fun Γ C Rt => ?_)
  show AW ids ad ca Γ 0 [some (.ref (ad 236)), some (.int x1), none, none, none] [] σ
  have j40 : ∀ (d40 : Nat) (σq40 : HS) (y40_2 : Int32) (y40_3 : Int32), 20 - y40_3.toInt < d40 → GIm σq40 → onm [264, 265, 267, 274, 1046, 1049, 1050, 1051, 1052, 1053, 2021, 2026, 2027] σ σq40 → RKm b σq40 → 0 ≤ y40_3.toInt ∧ y40_3.toInt ≤ 20 → AW ids ad ca Γ 40 [some (.ref (ad 236)), some (.int x1), some (.int y40_2), some (.int y40_3), none] [] σq40 := by
    intro d40
    induction d40 with
    | zero =>
      intro σq40 y40_2 y40_3 hd40 hGq40 hoq40 hRq40 hx40_0
      exfalso
      omega
    | succ d40 ih40 =>
      intro σq40 y40_2 y40_3 hd40 hGq40 hoq40 hRq40 hx40_0
      have j48 : ∀ (d48 : Nat) (σq48 : HS) (y48_2 : Int32) (y48_4 : Int32), 7 - y48_4.toInt < d48 → GIm σq48 → onm [264, 265, 267, 274, 1046, 1049, 1050, 1051, 1052, 1053, 2021, 2026, 2027] σ σq48 → RKm b σq48 → 0 ≤ y48_4.toInt ∧ y48_4.toInt ≤ 7 → 1 ≤ x1.toInt ∧ x1.toInt ≤ 20 → 0 ≤ y40_3.toInt ∧ y40_3.toInt ≤ 19 → AW ids ad ca Γ 48 [some (.ref (ad 236)), some (.int x1), some (.int y48_2), some (.int y40_3), some (.int y48_4)] [] σq48 := by
        intro d48
        induction d48 with
        | zero =>
          intro σq48 y48_2 y48_4 hd48 hGq48 hoq48 hRq48 hx48_0 hx48_1 hx48_2
          exfalso
          omega
        | succ d48 ih48 =>
          intro σq48 y48_2 y48_4 hd48 hGq48 hoq48 hRq48 hx48_0 hx48_1 hx48_2
          have j94 : ∀ (σq94 : HS) (y94_2 : Int32), GIm σq94 → onm [264, 265, 267, 274, 1046, 1049, 1050, 1051, 1052, 1053, 2021, 2026, 2027] σ σq94 → RKm b σq94 → 0 ≤ y48_4.toInt ∧ y48_4.toInt ≤ 6 → AW ids ad ca Γ 94 [some (.ref (ad 236)), some (.int x1), some (.int y94_2), some (.int y40_3), some (.int y48_4)] [] σq94 := by
            intro σq94 y94_2 hGq94 hoq94 hRq94 hx94_0
            refine s_iinc C dX12_glitterBits_94 rfl (1) (by decide) (by omega) (by decide) rfl (fun z1 h2 => ?_)
            show AW ids ad ca Γ 97 [some (.ref (ad 236)), some (.int x1), some (.int y94_2), some (.int y40_3), some (.int z1)] _ _
            refine a_goto C dX12_glitterBits_97 (tgt := 48) rfl ?_
            exact ih48 _ y94_2 z1 (by omega) hGq94 hoq94 hRq94 (by omega) (by omega) (by omega)
          have j76 : ∀ (σq76 : HS) (u76_0 : Int32), GIm σq76 → onm [264, 265, 267, 274, 1046, 1049, 1050, 1051, 1052, 1053, 2021, 2026, 2027] σ σq76 → RKm b σq76 → 0 ≤ u76_0.toInt ∧ u76_0.toInt ≤ 1 → 0 ≤ y48_4.toInt ∧ y48_4.toInt ≤ 6 → AW ids ad ca Γ 76 [some (.ref (ad 236)), some (.int x1), some (.int y48_2), some (.int y40_3), some (.int y48_4)] [.int u76_0] σq76 := by
            intro σq76 u76_0 hGq76 hoq76 hRq76 hx76_0 hx76_1
            refine a_aload_n C dX12_glitterBits_76 (i := 0) rfl rfl ?_
            refine a_get C fl_RX12_128 (i := 236) kd_236 (hid 236 (by decide)) (v := .ref (ad 273)) rfl dX12_glitterBits_77 ?_
            refine a_iload_n C dX12_glitterBits_80 (i := 3) rfl rfl ?_
            refine s_zald C (i := 273) kd_273 (hid 273 (by decide)) al_273 (by omega) (by omega) dX12_glitterBits_81 (fun n3 h4 => ?_)
            refine s_val (fun z5 e6 => ?_)
            refine s_ic_eq C dX12_glitterBits_82 (tgt := 94) rfl (fun c7 => ?_) (fun c7 => ?_)
            ·
              exact j94 _ y48_2 hGq76 hoq76 hRq76 (by omega)
            ·
              refine a_iload_n C dX12_glitterBits_85 (i := 2) rfl rfl ?_
              refine s_iconst C dX12_glitterBits_86 (1) (by decide) (fun z8 h9 => ?_)
              refine a_iload C dX12_glitterBits_87 rfl ?_
              refine s_ishl1 C dX12_glitterBits_89 (by omega) (by omega) (fun z10 h11 => ?_)
              refine s_iconst C dX12_glitterBits_90 (-1) (by decide) (fun z12 h13 => ?_)
              refine s_ixorU C dX12_glitterBits_91 (fun z14 => ?_)
              refine s_iandU C dX12_glitterBits_92 (fun z16 => ?_)
              refine a_istore_n C dX12_glitterBits_93 (i := 2) rfl (by decide) rfl (vs1 := [some (.ref (ad 236)), some (.int x1), some (.int z16), some (.int y40_3), some (.int y48_4)]) rfl ?_
              exact j94 _ z16 hGq76 hoq76 hRq76 (by omega)
          refine a_iload C dX12_glitterBits_48 rfl ?_
          refine s_bipush C dX12_glitterBits_50 (7) (by decide) (fun z18 h19 => ?_)
          refine s_ic_ge C dX12_glitterBits_52 (tgt := 100) rfl (fun c20 => ?_) (fun c20 => ?_)
          ·
            refine s_iinc C dX12_glitterBits_100 rfl (1) (by decide) (by omega) (by decide) rfl (fun z21 h22 => ?_)
            show AW ids ad ca Γ 103 [some (.ref (ad 236)), some (.int x1), some (.int y48_2), some (.int z21), some (.int y48_4)] _ _
            refine a_goto C dX12_glitterBits_103 (tgt := 40) rfl ?_
            refine AW.sub (vs' := [some (.ref (ad 236)), some (.int x1), some (.int y48_2), some (.int z21), none]) (lsub_of (by simp [lsubB])) ?_
            exact ih40 _ y48_2 z21 (by omega) hGq48 hoq48 hRq48 (by omega)
          ·
            refine a_aload_n C dX12_glitterBits_55 (i := 0) rfl rfl ?_
            refine a_get C fl_RX12_131 (i := 236) kd_236 (hid 236 (by decide)) (v := .ref (ad 274)) rfl dX12_glitterBits_56 ?_
            refine a_aload_n C dX12_glitterBits_59 (i := 0) rfl rfl ?_
            refine a_get C fl_RX12_125 (i := 236) kd_236 (hid 236 (by decide)) (v := .ref (ad 272)) rfl dX12_glitterBits_60 ?_
            refine a_iload_n C dX12_glitterBits_63 (i := 3) rfl rfl ?_
            refine s_iald C (i := 272) kd_272 (hid 272 (by decide)) al_272 (by omega) (by omega) dX12_glitterBits_64 (fun n23 h24 => ?_)
            refine s_val (fun z25 e26 => ?_)
            have g27 := bA_272 hGq48 n23
            rw [e26] at g27
            refine s_iald C (i := 274) kd_274 (hid 274 (by decide)) al_274 (by omega) (by omega) dX12_glitterBits_65 (fun n28 h29 => ?_)
            refine s_val (fun z30 e31 => ?_)
            have g32 := bA_274 hGq48 n28
            rw [e31] at g32
            refine a_iload C dX12_glitterBits_66 rfl ?_
            refine s_ic_ne C dX12_glitterBits_68 (tgt := 75) rfl (fun c33 => ?_) (fun c33 => ?_)
            ·
              refine s_iconst C dX12_glitterBits_75 (0) (by decide) (fun z34 h35 => ?_)
              exact j76 _ z34 hGq48 hoq48 hRq48 (by omega) (by omega)
            ·
              refine s_iconst C dX12_glitterBits_71 (1) (by decide) (fun z36 h37 => ?_)
              refine a_goto C dX12_glitterBits_72 (tgt := 76) rfl ?_
              exact j76 _ z36 hGq48 hoq48 hRq48 (by omega) (by omega)
      refine a_iload_n C dX12_glitterBits_40 (i := 3) rfl rfl ?_
      refine a_iload_n C dX12_glitterBits_41 (i := 1) rfl rfl ?_
      refine s_ic_ge C dX12_glitterBits_42 (tgt := 106) rfl (fun c38 => ?_) (fun c38 => ?_)
      ·
        refine a_iload_n C dX12_glitterBits_106 (i := 2) rfl rfl ?_
        exact a_iret Rt dX12_glitterBits_107 rfl (⟨hGq40, hoq40, hRq40⟩)
      ·
        refine s_iconst C dX12_glitterBits_45 (0) (by decide) (fun z39 h40 => ?_)
        refine a_istore C dX12_glitterBits_46 (by decide) rfl (vs1 := [some (.ref (ad 236)), some (.int x1), some (.int y40_2), some (.int y40_3), some (.int z39)]) rfl ?_
        exact j48 100000 _ y40_2 z39 (by omega) hGq40 hoq40 hRq40 (by omega) (by omega) (by omega)
  have j12 : ∀ (d12 : Nat) (σq12 : HS) (y12_2 : Int32) (y12_3 : Int32), 41 - y12_3.toInt < d12 → GIm σq12 → onm [264, 265, 267, 274, 1046, 1049, 1050, 1051, 1052, 1053, 2021, 2026, 2027] σ σq12 → RKm b σq12 → 0 ≤ y12_3.toInt ∧ y12_3.toInt ≤ 41 → ((σq12.1 267 21).toInt ≤ b + y12_3.toInt) → AW ids ad ca Γ 12 [some (.ref (ad 236)), some (.int x1), some (.int y12_2), some (.int y12_3), none] [] σq12 := by
    intro d12
    induction d12 with
    | zero =>
      intro σq12 y12_2 y12_3 hd12 hGq12 hoq12 hRq12 hx12_0 hx12_1
      exfalso
      omega
    | succ d12 ih12 =>
      intro σq12 y12_2 y12_3 hd12 hGq12 hoq12 hRq12 hx12_0 hx12_1
      refine a_iload_n C dX12_glitterBits_12 (i := 3) rfl rfl ?_
      refine s_bipush C dX12_glitterBits_13 (40) (by decide) (fun z41 h42 => ?_)
      refine s_ic_gt C dX12_glitterBits_15 (tgt := 38) rfl (fun c43 => ?_) (fun c43 => ?_)
      ·
        refine s_iconst C dX12_glitterBits_38 (0) (by decide) (fun z44 h45 => ?_)
        refine a_istore_n C dX12_glitterBits_39 (i := 3) rfl (by decide) rfl (vs1 := [some (.ref (ad 236)), some (.int x1), some (.int y12_2), some (.int z44), none]) rfl ?_
        exact j40 100000 _ y12_2 z44 (by omega) hGq12 hoq12 hRq12 (by omega)
      ·
        refine a_aload_n C dX12_glitterBits_18 (i := 0) rfl rfl ?_
        refine a_callVv C (i := 236) kd_236 (hid 236 (by decide)) ⟨_, _, rfl⟩ (by decide) (S_X12_beatGoes_236 hid hGq12 hRq12 (by omega)) mi_X12_beatGoes ml_RX12_387 rfl rfl (Nat.le_of_ble_eq_true rfl) (Nat.le_of_ble_eq_true rfl) (Nat.le_of_ble_eq_true rfl) dX12_glitterBits_19 (fun σ47 q48 => ?_)
        obtain ⟨hG49, ho50, hR51, w52⟩ := q48
        refine a_aload_n C dX12_glitterBits_22 (i := 0) rfl rfl ?_
        refine a_get C fl_RX12_131 (i := 236) kd_236 (hid 236 (by decide)) (v := .ref (ad 274)) rfl dX12_glitterBits_23 ?_
        refine a_iload_n C dX12_glitterBits_26 (i := 3) rfl rfl ?_
        refine a_aload_n C dX12_glitterBits_27 (i := 0) rfl rfl ?_
        have g53 := bF_236_51 hG49
        refine a_get C fl_RX12_341 (i := 236) kd_236 (hid 236 (by decide)) (v := .int (σ47.1 236 51)) rfl dX12_glitterBits_28 ?_
        refine s_iast C (i := 274) kd_274 (hid 274 (by decide)) al_274 (by omega) (by omega) dX12_glitterBits_31 (fun n54 h55 => ?_)
        have hG56 := wA_274 (v := (σ47.1 236 51)) (j := n54) hG49 (by omega) (by omega)
        have hR57 := RKm.ony (σ1 := hI _ 274 n54 (σ47.1 236 51)) hR51 (onm.I (L := [274]) onm.rf (by decide)) (by decide)
        refine s_iinc C dX12_glitterBits_32 rfl (1) (by decide) (by omega) (by decide) rfl (fun z58 h59 => ?_)
        show AW ids ad ca Γ 35 [some (.ref (ad 236)), some (.int x1), some (.int y12_2), some (.int z58), none] _ _
        refine a_goto C dX12_glitterBits_35 (tgt := 12) rfl ?_
        exact ih12 _ y12_2 z58 (by omega) hG56 (onm.I (onm.tr hoq12 (onm.mono ho50 (by decide))) (by decide)) hR57 (by omega) (show (σ47.1 267 21).toInt ≤ b + z58.toInt by omega)
  refine a_aload_n C dX12_glitterBits_0 (i := 0) rfl rfl ?_
  refine a_callVv C (i := 236) kd_236 (hid 236 (by decide)) ⟨_, _, rfl⟩ (by decide) (S_X12_copiesStill_236 hid hG hR) mi_X12_copiesStill ml_RX12_429 rfl rfl (Nat.le_of_ble_eq_true rfl) (Nat.le_of_ble_eq_true rfl) (Nat.le_of_ble_eq_true rfl) dX12_glitterBits_1 (fun σ61 q62 => ?_)
  obtain ⟨hG63, ho64, hR65, w66⟩ := q62
  refine a_aload_n C dX12_glitterBits_4 (i := 0) rfl rfl ?_
  refine s_iconst C dX12_glitterBits_5 (0) (by decide) (fun z67 h68 => ?_)
  refine a_callVi C (i := 236) kd_236 (hid 236 (by decide)) ⟨_, _, rfl⟩ (by decide) (S_X12_thingsSo_236 (x1 := z67) hid hG63) mi_X12_thingsSo ml_RX12_350 rfl rfl (Nat.le_of_ble_eq_true rfl) (Nat.le_of_ble_eq_true rfl) (Nat.le_of_ble_eq_true rfl) dX12_glitterBits_6 (fun z69 σ70 q71 => ?_)
  rw [q71]
  refine a_istore_n C dX12_glitterBits_9 (i := 2) rfl (by decide) rfl (vs1 := [some (.ref (ad 236)), some (.int x1), some (.int z69), none, none]) rfl ?_
  refine s_iconst C dX12_glitterBits_10 (0) (by decide) (fun z72 h73 => ?_)
  refine a_istore_n C dX12_glitterBits_11 (i := 3) rfl (by decide) rfl (vs1 := [some (.ref (ad 236)), some (.int x1), some (.int z69), some (.int z72), none]) rfl ?_
  exact j12 100000 _ z69 z72 (by omega) hG63 (onm.tr onm.rf (onm.mono ho64 (by decide))) hR65 (by omega) (show (σ61.1 267 21).toInt ≤ b + z72.toInt by omega)
set_option maxHeartbeats 4000000 in
set_option maxRecDepth 100000 in
theorem S_X12_glitters_236 {l : Launch} {D : va_G} {ids : List Nat} {ad : Nat → Nat} {ca : Nat → ClassId} {σ : HS} {x1 : Int32} {x2 : Int32} (hid : ∀ i, i < 277 → i ∈ ids) (hG : GIm σ) {b : Int} (hR : RKm b σ) : Ki l D ids ad ca yX12_glitters cX12_glitters 4 .int 6 146 [.ref (ad 236), .int x1, .int x2] σ (fun r σ1 => (GIm σ1) ∧ (onm [264, 265, 267, 274, 1046, 1049, 1050, 1051, 1052, 1053, 2021, 2026, 2027] σ σ1) ∧ (RKm b σ1)) := by
  refine Ki.of (by decide) (Nat.le_of_ble_eq_true rfl) 1 (fun Γ C Rt => ?_)
  show AW ids ad ca Γ 0 [some (.ref (ad 236)), some (.int x1), some (.int x2), none] [] σ
  refine a_iload_n C dX12_glitters_0 (i := 1) rfl rfl ?_
  refine s_iconst C dX12_glitters_1 (0) (by decide) (fun z1 h2 => ?_)
  refine a_aload_n C dX12_glitters_2 (i := 0) rfl rfl ?_
  have g3 := bF_236_60 hG
  refine a_get C fl_RX12_242 (i := 236) kd_236 (hid 236 (by decide)) (v := .int (σ.1 236 60)) rfl dX12_glitters_3 ?_
  refine a_callSi C (S_X12_in (x1 := x1) (x2 := z1) (x3 := (σ.1 236 60)) hid hG) ms_X12_in ml_RX12_301 rfl rfl (Nat.le_of_ble_eq_true rfl) (Nat.le_of_ble_eq_true rfl) (Nat.le_of_ble_eq_true rfl) dX12_glitters_6 (fun z4 σ5 q6 => ?_)
  obtain ⟨w7, w8, w9⟩ := q6
  rw [w7]
  refine s_if_eq C dX12_glitters_9 (tgt := 21) rfl (fun c10 => ?_) (fun c10 => ?_)
  ·
    refine s_iconst C dX12_glitters_21 (-1) (by decide) (fun z11 h12 => ?_)
    exact a_iret Rt dX12_glitters_22 rfl (⟨hG, onm.rf, hR⟩)
  ·
    refine a_iload_n C dX12_glitters_12 (i := 2) rfl rfl ?_
    refine s_iconst C dX12_glitters_13 (0) (by decide) (fun z13 h14 => ?_)
    refine s_iconst C dX12_glitters_14 (1) (by decide) (fun z15 h16 => ?_)
    refine a_callSi C (S_X12_in (x1 := x2) (x2 := z13) (x3 := z15) hid hG) ms_X12_in ml_RX12_301 rfl rfl (Nat.le_of_ble_eq_true rfl) (Nat.le_of_ble_eq_true rfl) (Nat.le_of_ble_eq_true rfl) dX12_glitters_15 (fun z17 σ18 q19 => ?_)
    obtain ⟨w20, w21, w22⟩ := q19
    rw [w20]
    refine s_if_ne C dX12_glitters_18 (tgt := 23) rfl (fun c23 => ?_) (fun c23 => ?_)
    ·
      refine a_aload_n C dX12_glitters_23 (i := 0) rfl rfl ?_
      refine a_iload_n C dX12_glitters_24 (i := 1) rfl rfl ?_
      refine a_callVi C (i := 236) kd_236 (hid 236 (by decide)) ⟨_, _, rfl⟩ (by decide) (S_X12_glitterBits_236 (x1 := x1) hid hG hR (by omega)) mi_X12_glitterBits ml_RX12_458 rfl rfl (Nat.le_of_ble_eq_true rfl) (Nat.le_of_ble_eq_true rfl) (Nat.le_of_ble_eq_true rfl) dX12_glitters_25 (fun z24 σ25 q26 => ?_)
      obtain ⟨hG27, ho28, hR29⟩ := q26
      refine a_istore_n C dX12_glitters_28 (i := 3) rfl (by decide) rfl (vs1 := [some (.ref (ad 236)), some (.int x1), some (.int x2), some (.int z24)]) rfl ?_
      refine a_iload_n C dX12_glitters_29 (i := 2) rfl rfl ?_
      refine s_if_ne C dX12_glitters_30 (tgt := 40) rfl (fun c30 => ?_) (fun c30 => ?_)
      ·
        refine a_iload_n C dX12_glitters_40 (i := 3) rfl rfl ?_
        exact a_iret Rt dX12_glitters_41 rfl (⟨hG27, (onm.tr onm.rf (onm.mono ho28 (by decide))), hR29⟩)
      ·
        refine a_iload_n C dX12_glitters_33 (i := 3) rfl rfl ?_
        refine a_callSi C (S_X12_bits (x1 := z24) hid hG27) ms_X12_bits ml_RX12_353 rfl rfl (Nat.le_of_ble_eq_true rfl) (Nat.le_of_ble_eq_true rfl) (Nat.le_of_ble_eq_true rfl) dX12_glitters_34 (fun z31 σ32 q33 => ?_)
        rw [q33]
        refine a_goto C dX12_glitters_37 (tgt := 41) rfl ?_
        exact a_iret Rt dX12_glitters_41 rfl (⟨hG27, (onm.tr onm.rf (onm.mono ho28 (by decide))), hR29⟩)
    ·
      refine s_iconst C dX12_glitters_21 (-1) (by decide) (fun z34 h35 => ?_)
      exact a_iret Rt dX12_glitters_22 rfl (⟨hG, onm.rf, hR⟩)
theorem dX12_watch_46 : decode cX12_watch 46 = .ok (.aload_n 0, 1) := by decide +kernel
theorem dX12_watch_47 : decode cX12_watch 47 = .ok (.getfield 131, 3) := by decide +kernel
theorem dX12_watch_50 : decode cX12_watch 50 = .ok (.iload 6, 2) := by decide +kernel
theorem dX12_watch_52 : decode cX12_watch 52 = .ok (.iaload, 1) := by decide +kernel
theorem dX12_watch_53 : decode cX12_watch 53 = .ok (.ifCond .lt 22, 3) := by decide +kernel
theorem dX12_watch_56 : decode cX12_watch 56 = .ok (.iload_n 2, 1) := by decide +kernel
theorem dX12_watch_57 : decode cX12_watch 57 = .ok (.aload_n 0, 1) := by decide +kernel
theorem dX12_watch_58 : decode cX12_watch 58 = .ok (.getfield 131, 3) := by decide +kernel
theorem dX12_watch_61 : decode cX12_watch 61 = .ok (.iload 6, 2) := by decide +kernel
theorem dX12_watch_63 : decode cX12_watch 63 = .ok (.iaload, 1) := by decide +kernel
theorem dX12_watch_64 : decode cX12_watch 64 = .ok (.ishr, 1) := by decide +kernel
theorem dX12_watch_65 : decode cX12_watch 65 = .ok (.iconst 1, 1) := by decide +kernel
theorem dX12_watch_66 : decode cX12_watch 66 = .ok (.iand, 1) := by decide +kernel
theorem dX12_watch_67 : decode cX12_watch 67 = .ok (.iconst 1, 1) := by decide +kernel
theorem dX12_watch_68 : decode cX12_watch 68 = .ok (.if_icmp .ne 7, 3) := by decide +kernel
theorem dX12_watch_71 : decode cX12_watch 71 = .ok (.iconst 1, 1) := by decide +kernel
theorem dX12_watch_72 : decode cX12_watch 72 = .ok (.goto 4, 3) := by decide +kernel
theorem dX12_watch_75 : decode cX12_watch 75 = .ok (.iconst 0, 1) := by decide +kernel
theorem dX12_watch_76 : decode cX12_watch 76 = .ok (.istore 7, 2) := by decide +kernel
theorem dX12_watch_78 : decode cX12_watch 78 = .ok (.iload 7, 2) := by decide +kernel
theorem dX12_watch_80 : decode cX12_watch 80 = .ok (.iload_n 3, 1) := by decide +kernel
theorem dX12_watch_81 : decode cX12_watch 81 = .ok (.iload 7, 2) := by decide +kernel
theorem dX12_watch_83 : decode cX12_watch 83 = .ok (.isub, 1) := by decide +kernel
theorem dX12_watch_84 : decode cX12_watch 84 = .ok (.if_icmp .le 8, 3) := by decide +kernel
theorem dX12_watch_87 : decode cX12_watch 87 = .ok (.iload 7, 2) := by decide +kernel
theorem dX12_watch_89 : decode cX12_watch 89 = .ok (.goto 7, 3) := by decide +kernel
theorem dX12_watch_92 : decode cX12_watch 92 = .ok (.iload_n 3, 1) := by decide +kernel
theorem dX12_watch_93 : decode cX12_watch 93 = .ok (.iload 7, 2) := by decide +kernel
theorem dX12_watch_95 : decode cX12_watch 95 = .ok (.isub, 1) := by decide +kernel
theorem dX12_watch_96 : decode cX12_watch 96 = .ok (.istore 8, 2) := by decide +kernel
theorem dX12_watch_98 : decode cX12_watch 98 = .ok (.iload 4, 2) := by decide +kernel
theorem dX12_watch_100 : decode cX12_watch 100 = .ok (.ifCond .lt 13, 3) := by decide +kernel
theorem dX12_watch_103 : decode cX12_watch 103 = .ok (.iload 8, 2) := by decide +kernel
theorem dX12_watch_105 : decode cX12_watch 105 = .ok (.iload 5, 2) := by decide +kernel
theorem dX12_watch_107 : decode cX12_watch 107 = .ok (.if_icmp .lt 6, 3) := by decide +kernel
theorem dX12_watch_110 : decode cX12_watch 110 = .ok (.goto 11, 3) := by decide +kernel
theorem dX12_watch_113 : decode cX12_watch 113 = .ok (.iload 6, 2) := by decide +kernel
theorem dX12_watch_115 : decode cX12_watch 115 = .ok (.istore 4, 2) := by decide +kernel
theorem dX12_watch_117 : decode cX12_watch 117 = .ok (.iload 8, 2) := by decide +kernel
theorem dX12_watch_119 : decode cX12_watch 119 = .ok (.istore 5, 2) := by decide +kernel
theorem dX12_watch_121 : decode cX12_watch 121 = .ok (.iinc 6 1, 3) := by decide +kernel
theorem dX12_watch_124 : decode cX12_watch 124 = .ok (.goto (-89), 3) := by decide +kernel
set_option maxHeartbeats 4000000 in
set_option maxRecDepth 100000 in
theorem S_X12_watch_236 {l : Launch} {D : va_G} {ids : List Nat} {ad : Nat → Nat} {ca : Nat → ClassId} {σ : HS} {x1 : Int32} (hid : ∀ i, i < 277 → i ∈ ids) (hG : GIm σ) {b : Int} (hR : RKm b σ) : Ki l D ids ad ca yX12_watch cX12_watch 9 .int 6 146 [.ref (ad 236), .int x1] σ (fun r σ1 => (GIm σ1) ∧ (onm [264, 265, 267, 274, 1046, 1049, 1050, 1051, 1052, 1053, 2021, 2026, 2027] σ σ1) ∧ (RKm b σ1)) := by
  refine Ki.of (by decide) (Nat.le_of_ble_eq_true rfl) 7 (fun Γ C Rt => ?_)
  show AW ids ad ca Γ 0 [some (.ref (ad 236)), some (.int x1), none, none, none, none, none, none, none] [] σ
  have j35 : ∀ (d35 : Nat) (σq35 : HS) (y35_2 : Int32) (y35_3 : Int32) (y35_4 : Int32) (y35_5 : Int32) (y35_6 : Int32), 41 - y35_6.toInt < d35 → GIm σq35 → onm [264, 265, 267, 274, 1046, 1049, 1050, 1051, 1052, 1053, 2021, 2026, 2027] σ σq35 → RKm b σq35 → -2 ≤ y35_4.toInt ∧ y35_4.toInt ≤ 40 → 0 ≤ y35_5.toInt → 0 ≤ y35_6.toInt ∧ y35_6.toInt ≤ 41 → AW ids ad ca Γ 35 [some (.ref (ad 236)), none, some (.int y35_2), some (.int y35_3), some (.int y35_4), some (.int y35_5), some (.int y35_6), none, none] [] σq35 := by
    intro d35
    induction d35 with
    | zero =>
      intro σq35 y35_2 y35_3 y35_4 y35_5 y35_6 hd35 hGq35 hoq35 hRq35 hx35_0 hx35_1 hx35_2
      exfalso
      omega
    | succ d35 ih35 =>
      intro σq35 y35_2 y35_3 y35_4 y35_5 y35_6 hd35 hGq35 hoq35 hRq35 hx35_0 hx35_1 hx35_2
      have j121 : ∀ (σq121 : HS) (y121_4 : Int32) (y121_5 : Int32), GIm σq121 → onm [264, 265, 267, 274, 1046, 1049, 1050, 1051, 1052, 1053, 2021, 2026, 2027] σ σq121 → RKm b σq121 → 0 ≤ y121_4.toInt ∧ y121_4.toInt ≤ 40 → 0 ≤ y121_5.toInt → 1 ≤ y35_3.toInt → 0 ≤ y35_6.toInt ∧ y35_6.toInt ≤ 40 → AW ids ad ca Γ 121 [some (.ref (ad 236)), none, some (.int y35_2), some (.int y35_3), some (.int y121_4), some (.int y121_5), some (.int y35_6), none, none] [] σq121 := by
        intro σq121 y121_4 y121_5 hGq121 hoq121 hRq121 hx121_0 hx121_1 hx121_2 hx121_3
        refine s_iinc C dX12_watch_121 rfl (1) (by decide) (by omega) (by decide) rfl (fun z1 h2 => ?_)
        show AW ids ad ca Γ 124 [some (.ref (ad 236)), none, some (.int y35_2), some (.int y35_3), some (.int y121_4), some (.int y121_5), some (.int z1), none, none] _ _
        refine a_goto C dX12_watch_124 (tgt := 35) rfl ?_
        exact ih35 _ y35_2 y35_3 y121_4 y121_5 z1 (by omega) hGq121 hoq121 hRq121 (by omega) (by omega) (by omega)
      have j113 : ∀ (σq113 : HS) (y113_8 : Int32), GIm σq113 → onm [264, 265, 267, 274, 1046, 1049, 1050, 1051, 1052, 1053, 2021, 2026, 2027] σ σq113 → RKm b σq113 → 0 ≤ y113_8.toInt → 1 ≤ y35_3.toInt → 0 ≤ y35_6.toInt ∧ y35_6.toInt ≤ 40 → AW ids ad ca Γ 113 [some (.ref (ad 236)), none, some (.int y35_2), some (.int y35_3), none, none, some (.int y35_6), none, some (.int y113_8)] [] σq113 := by
        intro σq113 y113_8 hGq113 hoq113 hRq113 hx113_0 hx113_1 hx113_2
        refine a_iload C dX12_watch_113 rfl ?_
        refine a_istore C dX12_watch_115 (by decide) rfl (vs1 := [some (.ref (ad 236)), none, some (.int y35_2), some (.int y35_3), some (.int y35_6), none, some (.int y35_6), none, some (.int y113_8)]) rfl ?_
        refine a_iload C dX12_watch_117 rfl ?_
        refine a_istore C dX12_watch_119 (by decide) rfl (vs1 := [some (.ref (ad 236)), none, some (.int y35_2), some (.int y35_3), some (.int y35_6), some (.int y113_8), some (.int y35_6), none, some (.int y113_8)]) rfl ?_
        refine AW.sub (vs' := [some (.ref (ad 236)), none, some (.int y35_2), some (.int y35_3), some (.int y35_6), some (.int y113_8), some (.int y35_6), none, none]) (lsub_of (by simp [lsubB])) ?_
        exact j121 _ y35_6 y113_8 hGq113 hoq113 hRq113 (by omega) (by omega) (by omega) (by omega)
      have j96 : ∀ (σq96 : HS) (u96_0 : Int32), GIm σq96 → onm [264, 265, 267, 274, 1046, 1049, 1050, 1051, 1052, 1053, 2021, 2026, 2027] σ σq96 → RKm b σq96 → 0 ≤ u96_0.toInt → 1 ≤ y35_3.toInt → 0 ≤ y35_6.toInt ∧ y35_6.toInt ≤ 40 → AW ids ad ca Γ 96 [some (.ref (ad 236)), none, some (.int y35_2), some (.int y35_3), some (.int y35_4), some (.int y35_5), some (.int y35_6), none, none] [.int u96_0] σq96 := by
        intro σq96 u96_0 hGq96 hoq96 hRq96 hx96_0 hx96_1 hx96_2
        refine a_istore C dX12_watch_96 (by decide) rfl (vs1 := [some (.ref (ad 236)), none, some (.int y35_2), some (.int y35_3), some (.int y35_4), some (.int y35_5), some (.int y35_6), none, some (.int u96_0)]) rfl ?_
        refine a_iload C dX12_watch_98 rfl ?_
        refine s_if_lt C dX12_watch_100 (tgt := 113) rfl (fun c3 => ?_) (fun c3 => ?_)
        ·
          refine AW.sub (vs' := [some (.ref (ad 236)), none, some (.int y35_2), some (.int y35_3), none, none, some (.int y35_6), none, some (.int u96_0)]) (lsub_of (by simp [lsubB])) ?_
          exact j113 _ u96_0 hGq96 hoq96 hRq96 (by omega) (by omega) (by omega)
        ·
          refine a_iload C dX12_watch_103 rfl ?_
          refine a_iload C dX12_watch_105 rfl ?_
          refine s_ic_lt C dX12_watch_107 (tgt := 113) rfl (fun c4 => ?_) (fun c4 => ?_)
          ·
            refine AW.sub (vs' := [some (.ref (ad 236)), none, some (.int y35_2), some (.int y35_3), none, none, some (.int y35_6), none, some (.int u96_0)]) (lsub_of (by simp [lsubB])) ?_
            exact j113 _ u96_0 hGq96 hoq96 hRq96 (by omega) (by omega) (by omega)
          ·
            refine a_goto C dX12_watch_110 (tgt := 121) rfl ?_
            refine AW.sub (vs' := [some (.ref (ad 236)), none, some (.int y35_2), some (.int y35_3), some (.int y35_4), some (.int y35_5), some (.int y35_6), none, none]) (lsub_of (by simp [lsubB])) ?_
            exact j121 _ y35_4 y35_5 hGq96 hoq96 hRq96 (by omega) (by omega) (by omega) (by omega)
      have j76 : ∀ (σq76 : HS) (u76_0 : Int32), GIm σq76 → onm [264, 265, 267, 274, 1046, 1049, 1050, 1051, 1052, 1053, 2021, 2026, 2027] σ σq76 → RKm b σq76 → 0 ≤ u76_0.toInt ∧ u76_0.toInt ≤ 1 → 1 ≤ y35_3.toInt → 0 ≤ y35_6.toInt ∧ y35_6.toInt ≤ 40 → AW ids ad ca Γ 76 [some (.ref (ad 236)), none, some (.int y35_2), some (.int y35_3), some (.int y35_4), some (.int y35_5), some (.int y35_6), none, none] [.int u76_0] σq76 := by
        intro σq76 u76_0 hGq76 hoq76 hRq76 hx76_0 hx76_1 hx76_2
        refine a_istore C dX12_watch_76 (by decide) rfl (vs1 := [some (.ref (ad 236)), none, some (.int y35_2), some (.int y35_3), some (.int y35_4), some (.int y35_5), some (.int y35_6), some (.int u76_0), none]) rfl ?_
        refine a_iload C dX12_watch_78 rfl ?_
        refine a_iload_n C dX12_watch_80 (i := 3) rfl rfl ?_
        refine a_iload C dX12_watch_81 rfl ?_
        have g5 := Int32.toInt_lt y35_3
        have g6 := Int32.le_toInt y35_3
        refine s_isub C dX12_watch_83 (by omega) (fun z7 h8 => ?_)
        refine s_ic_le C dX12_watch_84 (tgt := 92) rfl (fun c9 => ?_) (fun c9 => ?_)
        ·
          refine a_iload_n C dX12_watch_92 (i := 3) rfl rfl ?_
          refine a_iload C dX12_watch_93 rfl ?_
          have g10 := Int32.toInt_lt y35_3
          have g11 := Int32.le_toInt y35_3
          refine s_isub C dX12_watch_95 (by omega) (fun z12 h13 => ?_)
          refine AW.sub (vs' := [some (.ref (ad 236)), none, some (.int y35_2), some (.int y35_3), some (.int y35_4), some (.int y35_5), some (.int y35_6), none, none]) (lsub_of (by simp [lsubB])) ?_
          exact j96 _ z12 hGq76 hoq76 hRq76 (by omega) (by omega) (by omega)
        ·
          refine a_iload C dX12_watch_87 rfl ?_
          refine a_goto C dX12_watch_89 (tgt := 96) rfl ?_
          refine AW.sub (vs' := [some (.ref (ad 236)), none, some (.int y35_2), some (.int y35_3), some (.int y35_4), some (.int y35_5), some (.int y35_6), none, none]) (lsub_of (by simp [lsubB])) ?_
          exact j96 _ u76_0 hGq76 hoq76 hRq76 (by omega) (by omega) (by omega)
      have j75 : ∀ (σq75 : HS), GIm σq75 → onm [264, 265, 267, 274, 1046, 1049, 1050, 1051, 1052, 1053, 2021, 2026, 2027] σ σq75 → RKm b σq75 → 1 ≤ y35_3.toInt → 0 ≤ y35_6.toInt ∧ y35_6.toInt ≤ 40 → AW ids ad ca Γ 75 [some (.ref (ad 236)), none, some (.int y35_2), some (.int y35_3), some (.int y35_4), some (.int y35_5), some (.int y35_6), none, none] [] σq75 := by
        intro σq75 hGq75 hoq75 hRq75 hx75_0 hx75_1
        refine s_iconst C dX12_watch_75 (0) (by decide) (fun z14 h15 => ?_)
        exact j76 _ z14 hGq75 hoq75 hRq75 (by omega) (by omega) (by omega)
      refine a_iload C dX12_watch_35 rfl ?_
      refine s_bipush C dX12_watch_37 (40) (by decide) (fun z16 h17 => ?_)
      refine s_ic_gt C dX12_watch_39 (tgt := 127) rfl (fun c18 => ?_) (fun c18 => ?_)
      ·
        refine a_iload C dX12_watch_127 rfl ?_
        exact a_iret Rt dX12_watch_129 rfl (⟨hGq35, hoq35, hRq35⟩)
      ·
        refine a_iload_n C dX12_watch_42 (i := 3) rfl rfl ?_
        refine s_if_le C dX12_watch_43 (tgt := 127) rfl (fun c19 => ?_) (fun c19 => ?_)
        ·
          refine a_iload C dX12_watch_127 rfl ?_
          exact a_iret Rt dX12_watch_129 rfl (⟨hGq35, hoq35, hRq35⟩)
        ·
          refine a_aload_n C dX12_watch_46 (i := 0) rfl rfl ?_
          refine a_get C fl_RX12_131 (i := 236) kd_236 (hid 236 (by decide)) (v := .ref (ad 274)) rfl dX12_watch_47 ?_
          refine a_iload C dX12_watch_50 rfl ?_
          refine s_iald C (i := 274) kd_274 (hid 274 (by decide)) al_274 (by omega) (by omega) dX12_watch_52 (fun n20 h21 => ?_)
          refine s_val (fun z22 e23 => ?_)
          have g24 := bA_274 hGq35 n20
          rw [e23] at g24
          refine s_if_lt C dX12_watch_53 (tgt := 75) rfl (fun c25 => ?_) (fun c25 => ?_)
          ·
            exact j75 _ hGq35 hoq35 hRq35 (by omega) (by omega)
          ·
            refine a_iload_n C dX12_watch_56 (i := 2) rfl rfl ?_
            refine a_aload_n C dX12_watch_57 (i := 0) rfl rfl ?_
            refine a_get C fl_RX12_131 (i := 236) kd_236 (hid 236 (by decide)) (v := .ref (ad 274)) rfl dX12_watch_58 ?_
            refine a_iload C dX12_watch_61 rfl ?_
            refine s_iald C (i := 274) kd_274 (hid 274 (by decide)) al_274 (by omega) (by omega) dX12_watch_63 (fun n26 h27 => ?_)
            refine s_val (fun z28 e29 => ?_)
            have g30 : z28.toInt = z22.toInt := congrArg Int32.toInt (e29.symm.trans ((congrArg (σq35.1 274) (show n26 = n20 by omega)).trans e23))
            have g31 := bA_274 hGq35 n26
            rw [e29] at g31
            refine s_ishrU C dX12_watch_64 (fun z32 => ?_)
            refine s_iconst C dX12_watch_65 (1) (by decide) (fun z34 h35 => ?_)
            refine s_iand C dX12_watch_66 (by omega) (fun z36 h37 => ?_)
            refine s_iconst C dX12_watch_67 (1) (by decide) (fun z38 h39 => ?_)
            refine s_ic_ne C dX12_watch_68 (tgt := 75) rfl (fun c40 => ?_) (fun c40 => ?_)
            ·
              exact j75 _ hGq35 hoq35 hRq35 (by omega) (by omega)
            ·
              refine s_iconst C dX12_watch_71 (1) (by decide) (fun z41 h42 => ?_)
              refine a_goto C dX12_watch_72 (tgt := 76) rfl ?_
              exact j76 _ z41 hGq35 hoq35 hRq35 (by omega) (by omega) (by omega)
  refine a_iload_n C dX12_watch_0 (i := 1) rfl rfl ?_
  refine s_iconst C dX12_watch_1 (0) (by decide) (fun z43 h44 => ?_)
  refine a_aload_n C dX12_watch_2 (i := 0) rfl rfl ?_
  have g45 := bF_236_60 hG
  refine a_get C fl_RX12_242 (i := 236) kd_236 (hid 236 (by decide)) (v := .int (σ.1 236 60)) rfl dX12_watch_3 ?_
  refine a_callSi C (S_X12_in (x1 := x1) (x2 := z43) (x3 := (σ.1 236 60)) hid hG) ms_X12_in ml_RX12_301 rfl rfl (Nat.le_of_ble_eq_true rfl) (Nat.le_of_ble_eq_true rfl) (Nat.le_of_ble_eq_true rfl) dX12_watch_6 (fun z46 σ47 q48 => ?_)
  obtain ⟨w49, w50, w51⟩ := q48
  rw [w49]
  refine s_if_ne C dX12_watch_9 (tgt := 14) rfl (fun c52 => ?_) (fun c52 => ?_)
  ·
    refine a_aload_n C dX12_watch_14 (i := 0) rfl rfl ?_
    refine a_iload_n C dX12_watch_15 (i := 1) rfl rfl ?_
    refine a_callVi C (i := 236) kd_236 (hid 236 (by decide)) ⟨_, _, rfl⟩ (by decide) (S_X12_glitterBits_236 (x1 := x1) hid hG hR (by omega)) mi_X12_glitterBits ml_RX12_458 rfl rfl (Nat.le_of_ble_eq_true rfl) (Nat.le_of_ble_eq_true rfl) (Nat.le_of_ble_eq_true rfl) dX12_watch_16 (fun z53 σ54 q55 => ?_)
    obtain ⟨hG56, ho57, hR58⟩ := q55
    refine a_istore_n C dX12_watch_19 (i := 2) rfl (by decide) rfl (vs1 := [some (.ref (ad 236)), some (.int x1), some (.int z53), none, none, none, none, none, none]) rfl ?_
    refine a_iload_n C dX12_watch_20 (i := 2) rfl rfl ?_
    refine a_callSi C (S_X12_bits (x1 := z53) hid hG56) ms_X12_bits ml_RX12_353 rfl rfl (Nat.le_of_ble_eq_true rfl) (Nat.le_of_ble_eq_true rfl) (Nat.le_of_ble_eq_true rfl) dX12_watch_21 (fun z59 σ60 q61 => ?_)
    rw [q61]
    refine a_istore_n C dX12_watch_24 (i := 3) rfl (by decide) rfl (vs1 := [some (.ref (ad 236)), some (.int x1), some (.int z53), some (.int z59), none, none, none, none, none]) rfl ?_
    refine s_bipush C dX12_watch_25 (-2) (by decide) (fun z62 h63 => ?_)
    refine a_istore C dX12_watch_27 (by decide) rfl (vs1 := [some (.ref (ad 236)), some (.int x1), some (.int z53), some (.int z59), some (.int z62), none, none, none, none]) rfl ?_
    refine s_iconst C dX12_watch_29 (0) (by decide) (fun z64 h65 => ?_)
    refine a_istore C dX12_watch_30 (by decide) rfl (vs1 := [some (.ref (ad 236)), some (.int x1), some (.int z53), some (.int z59), some (.int z62), some (.int z64), none, none, none]) rfl ?_
    refine s_iconst C dX12_watch_32 (0) (by decide) (fun z66 h67 => ?_)
    refine a_istore C dX12_watch_33 (by decide) rfl (vs1 := [some (.ref (ad 236)), some (.int x1), some (.int z53), some (.int z59), some (.int z62), some (.int z64), some (.int z66), none, none]) rfl ?_
    refine AW.sub (vs' := [some (.ref (ad 236)), none, some (.int z53), some (.int z59), some (.int z62), some (.int z64), some (.int z66), none, none]) (lsub_of (by simp [lsubB])) ?_
    exact j35 100000 _ z53 z59 z62 z64 z66 (by omega) hG56 (onm.tr onm.rf (onm.mono ho57 (by decide))) hR58 (by omega) (by omega) (by omega)
  ·
    refine s_iconst C dX12_watch_12 (-1) (by decide) (fun z68 h69 => ?_)
    exact a_iret Rt dX12_watch_13 rfl (⟨hG, onm.rf, hR⟩)
theorem dX12_count_187 : decode cX12_count 187 = .ok (.iconst 1, 1) := by decide +kernel
theorem dX12_count_188 : decode cX12_count 188 = .ok (.goto 4, 3) := by decide +kernel
theorem dX12_count_201 : decode cX12_count 201 = .ok (.iconst 1, 1) := by decide +kernel
theorem dX12_count_202 : decode cX12_count 202 = .ok (.goto 4, 3) := by decide +kernel
theorem dX12_count_216 : decode cX12_count 216 = .ok (.iconst 1, 1) := by decide +kernel
theorem dX12_count_217 : decode cX12_count 217 = .ok (.goto 4, 3) := by decide +kernel
set_option maxHeartbeats 4000000 in
set_option maxRecDepth 100000 in
theorem S_X12_count_236 {l : Launch} {D : va_G} {ids : List Nat} {ad : Nat → Nat} {ca : Nat → ClassId} {σ : HS} {x1 : Int32} (hid : ∀ i, i < 277 → i ∈ ids) (hG : GIm σ) {b : Int} (hR : RKm b σ) : Ki l D ids ad ca yX12_count cX12_count 2 .int 3 63 [.ref (ad 236), .int x1] σ (fun r σ1 => (GIm σ1) ∧ (onm [267, 1049, 1050, 2021, 2026, 2027] σ σ1) ∧ (RKm b σ1)) := by
  refine Ki.of (by decide) (Nat.le_of_ble_eq_true rfl) 0 (fun Γ C Rt => ?_)
  show AW ids ad ca Γ 0 [some (.ref (ad 236)), some (.int x1)] [] σ
  have j221 : ∀ (σq221 : HS) (u221_0 : Int32) (u221_1 : Int32), GIm σq221 → onm [267, 1049, 1050, 2021, 2026, 2027] σ σq221 → RKm b σq221 → 0 ≤ u221_0.toInt ∧ u221_0.toInt ≤ 1 → 0 ≤ u221_1.toInt ∧ u221_1.toInt ≤ 2 → AW ids ad ca Γ 221 [none, none] [.int u221_0, .int u221_1] σq221 := by
    intro σq221 u221_0 u221_1 hGq221 hoq221 hRq221 hx221_0 hx221_1
    refine s_iadd C dX12_count_221 (by omega) (fun z1 h2 => ?_)
    exact a_iret Rt dX12_count_222 rfl (⟨hGq221, hoq221, hRq221⟩)
  have j206 : ∀ (σq206 : HS) (u206_0 : Int32) (u206_1 : Int32), GIm σq206 → onm [267, 1049, 1050, 2021, 2026, 2027] σ σq206 → RKm b σq206 → 0 ≤ u206_0.toInt ∧ u206_0.toInt ≤ 1 → 0 ≤ u206_1.toInt ∧ u206_1.toInt ≤ 1 → AW ids ad ca Γ 206 [some (.ref (ad 236)), none] [.int u206_0, .int u206_1] σq206 := by
    intro σq206 u206_0 u206_1 hGq206 hoq206 hRq206 hx206_0 hx206_1
    refine s_iadd C dX12_count_206 (by omega) (fun z3 h4 => ?_)
    refine a_aload_n C dX12_count_207 (i := 0) rfl rfl ?_
    refine a_get C fl_RX12_134 (i := 236) kd_236 (hid 236 (by decide)) (v := .ref (ad 275)) rfl dX12_count_208 ?_
    refine s_iconst C dX12_count_211 (2) (by decide) (fun z5 h6 => ?_)
    refine s_zald C (i := 275) kd_275 (hid 275 (by decide)) al_275 (by omega) (by omega) dX12_count_212 (fun n7 h8 => ?_)
    refine s_val (fun z9 e10 => ?_)
    refine s_if_eq C dX12_count_213 (tgt := 220) rfl (fun c11 => ?_) (fun c11 => ?_)
    ·
      refine s_iconst C dX12_count_220 (0) (by decide) (fun z12 h13 => ?_)
      refine AW.sub (vs' := [none, none]) (lsub_of (by simp [lsubB])) ?_
      exact j221 _ z12 z3 hGq206 hoq206 hRq206 (by omega) (by omega)
    ·
      refine s_iconst C dX12_count_216 (1) (by decide) (fun z14 h15 => ?_)
      refine a_goto C dX12_count_217 (tgt := 221) rfl ?_
      refine AW.sub (vs' := [none, none]) (lsub_of (by simp [lsubB])) ?_
      exact j221 _ z14 z3 hGq206 hoq206 hRq206 (by omega) (by omega)
  have j192 : ∀ (σq192 : HS) (u192_0 : Int32), GIm σq192 → onm [267, 1049, 1050, 2021, 2026, 2027] σ σq192 → RKm b σq192 → 0 ≤ u192_0.toInt ∧ u192_0.toInt ≤ 1 → AW ids ad ca Γ 192 [some (.ref (ad 236)), none] [.int u192_0] σq192 := by
    intro σq192 u192_0 hGq192 hoq192 hRq192 hx192_0
    refine a_aload_n C dX12_count_192 (i := 0) rfl rfl ?_
    refine a_get C fl_RX12_134 (i := 236) kd_236 (hid 236 (by decide)) (v := .ref (ad 275)) rfl dX12_count_193 ?_
    refine s_iconst C dX12_count_196 (1) (by decide) (fun z16 h17 => ?_)
    refine s_zald C (i := 275) kd_275 (hid 275 (by decide)) al_275 (by omega) (by omega) dX12_count_197 (fun n18 h19 => ?_)
    refine s_val (fun z20 e21 => ?_)
    refine s_if_eq C dX12_count_198 (tgt := 205) rfl (fun c22 => ?_) (fun c22 => ?_)
    ·
      refine s_iconst C dX12_count_205 (0) (by decide) (fun z23 h24 => ?_)
      exact j206 _ z23 u192_0 hGq192 hoq192 hRq192 (by omega) (by omega)
    ·
      refine s_iconst C dX12_count_201 (1) (by decide) (fun z25 h26 => ?_)
      refine a_goto C dX12_count_202 (tgt := 206) rfl ?_
      exact j206 _ z25 u192_0 hGq192 hoq192 hRq192 (by omega) (by omega)
  refine a_aload_n C dX12_count_0 (i := 0) rfl rfl ?_
  refine a_callVv C (i := 236) kd_236 (hid 236 (by decide)) ⟨_, _, rfl⟩ (by decide) (S_X12_copies_236 hid hG hR) mi_X12_copies ml_RX12_311 rfl rfl (Nat.le_of_ble_eq_true rfl) (Nat.le_of_ble_eq_true rfl) (Nat.le_of_ble_eq_true rfl) dX12_count_1 (fun σ28 q29 => ?_)
  obtain ⟨hG30, ho31, hR32, w33⟩ := q29
  refine a_iload_n C dX12_count_4 (i := 1) rfl rfl ?_
  by_cases hsw : x1.toInt < 0 ∨ 17 < x1.toInt
  ·
    refine a_tableOut C dX12_count_5 hsw (tgt := 249) rfl ?_
    refine s_iconst C dX12_count_249 (-1) (by decide) (fun z34 h35 => ?_)
    exact a_iret Rt dX12_count_250 rfl (⟨hG30, (onm.tr onm.rf (onm.mono ho31 (by decide))), hR32⟩)
  rcases (show x1.toInt = 0 ∨ x1.toInt = 1 ∨ x1.toInt = 2 ∨ x1.toInt = 3 ∨ x1.toInt = 4 ∨ x1.toInt = 5 ∨ x1.toInt = 6 ∨ x1.toInt = 7 ∨ x1.toInt = 8 ∨ x1.toInt = 9 ∨ x1.toInt = 10 ∨ x1.toInt = 11 ∨ x1.toInt = 12 ∨ x1.toInt = 13 ∨ x1.toInt = 14 ∨ x1.toInt = 15 ∨ x1.toInt = 16 ∨ x1.toInt = 17 by omega) with hq | hq | hq | hq | hq | hq | hq | hq | hq | hq | hq | hq | hq | hq | hq | hq | hq | hq
  ·
    refine a_tableIn C dX12_count_5 (by omega) (by omega) (by rw [hq]; rfl) (tgt := 92) rfl ?_
    refine a_aload_n C dX12_count_92 (i := 0) rfl rfl ?_
    refine a_get C fl_RX12_43 (i := 236) kd_236 (hid 236 (by decide)) (v := .ref (ad 245)) rfl dX12_count_93 ?_
    refine a_aload_n C dX12_count_96 (i := 0) rfl rfl ?_
    have g36 := bF_236_18 hG30
    have g37 := bF_236_18 hG
    have g38 : (σ28.1 236 18).toInt = (σ.1 236 18).toInt := congrArg Int32.toInt (ho31.1 236 18 (by decide))
    refine a_get C fl_RX12_221 (i := 236) kd_236 (hid 236 (by decide)) (v := .int (σ28.1 236 18)) rfl dX12_count_97 ?_
    refine s_iald C (i := 245) kd_245 (hid 245 (by decide)) al_245 (by omega) (by omega) dX12_count_100 (fun n39 h40 => ?_)
    refine s_val (fun z41 e42 => ?_)
    have g43 := bA_245 hG30 n39
    rw [e42] at g43
    exact a_iret Rt dX12_count_101 rfl (⟨hG30, (onm.tr onm.rf (onm.mono ho31 (by decide))), hR32⟩)
  ·
    refine a_tableIn C dX12_count_5 (by omega) (by omega) (by rw [hq]; rfl) (tgt := 102) rfl ?_
    refine a_aload_n C dX12_count_102 (i := 0) rfl rfl ?_
    refine a_get C fl_RX12_55 (i := 236) kd_236 (hid 236 (by decide)) (v := .ref (ad 249)) rfl dX12_count_103 ?_
    refine a_aload_n C dX12_count_106 (i := 0) rfl rfl ?_
    have g44 := bF_236_18 hG30
    have g45 := bF_236_18 hG
    have g46 : (σ28.1 236 18).toInt = (σ.1 236 18).toInt := congrArg Int32.toInt (ho31.1 236 18 (by decide))
    refine a_get C fl_RX12_221 (i := 236) kd_236 (hid 236 (by decide)) (v := .int (σ28.1 236 18)) rfl dX12_count_107 ?_
    refine s_iald C (i := 249) kd_249 (hid 249 (by decide)) al_249 (by omega) (by omega) dX12_count_110 (fun n47 h48 => ?_)
    refine s_val (fun z49 e50 => ?_)
    have g51 := bA_249 hG30 n47
    rw [e50] at g51
    exact a_iret Rt dX12_count_111 rfl (⟨hG30, (onm.tr onm.rf (onm.mono ho31 (by decide))), hR32⟩)
  ·
    refine a_tableIn C dX12_count_5 (by omega) (by omega) (by rw [hq]; rfl) (tgt := 112) rfl ?_
    refine a_aload_n C dX12_count_112 (i := 0) rfl rfl ?_
    refine a_get C fl_RX12_110 (i := 236) kd_236 (hid 236 (by decide)) (v := .ref (ad 267)) rfl dX12_count_113 ?_
    refine s_bipush C dX12_count_116 (21) (by decide) (fun z52 h53 => ?_)
    refine s_iald C (i := 267) kd_267 (hid 267 (by decide)) al_267 (by omega) (by omega) dX12_count_118 (fun n54 h55 => ?_)
    refine s_val (fun z56 e57 => ?_)
    obtain rfl : n54 = 21 := by omega
    have g58 : z56.toInt = (σ28.1 267 21).toInt := congrArg Int32.toInt (e57.symm.trans (rfl : _ = (σ28.1 267 21)))
    have g59 := RKm.row hR32
    rw [e57] at g59
    have g60 := pl_le hG30
    exact a_iret Rt dX12_count_119 rfl (⟨hG30, (onm.tr onm.rf (onm.mono ho31 (by decide))), hR32⟩)
  ·
    refine a_tableIn C dX12_count_5 (by omega) (by omega) (by rw [hq]; rfl) (tgt := 120) rfl ?_
    refine a_aload_n C dX12_count_120 (i := 0) rfl rfl ?_
    refine a_get C fl_RX12_110 (i := 236) kd_236 (hid 236 (by decide)) (v := .ref (ad 267)) rfl dX12_count_121 ?_
    refine s_bipush C dX12_count_124 (22) (by decide) (fun z61 h62 => ?_)
    refine s_iald C (i := 267) kd_267 (hid 267 (by decide)) al_267 (by omega) (by omega) dX12_count_126 (fun n63 h64 => ?_)
    refine s_val (fun z65 e66 => ?_)
    exact a_iret Rt dX12_count_127 rfl (⟨hG30, (onm.tr onm.rf (onm.mono ho31 (by decide))), hR32⟩)
  ·
    refine a_tableIn C dX12_count_5 (by omega) (by omega) (by rw [hq]; rfl) (tgt := 128) rfl ?_
    refine a_aload_n C dX12_count_128 (i := 0) rfl rfl ?_
    refine s_iconst C dX12_count_129 (0) (by decide) (fun z67 h68 => ?_)
    refine a_callVi C (i := 236) kd_236 (hid 236 (by decide)) ⟨_, _, rfl⟩ (by decide) (S_X12_thingsSo_236 (x1 := z67) hid hG30) mi_X12_thingsSo ml_RX12_350 rfl rfl (Nat.le_of_ble_eq_true rfl) (Nat.le_of_ble_eq_true rfl) (Nat.le_of_ble_eq_true rfl) dX12_count_130 (fun z69 σ70 q71 => ?_)
    rw [q71]
    exact a_iret Rt dX12_count_133 rfl (⟨hG30, (onm.tr onm.rf (onm.mono ho31 (by decide))), hR32⟩)
  ·
    refine a_tableIn C dX12_count_5 (by omega) (by omega) (by rw [hq]; rfl) (tgt := 134) rfl ?_
    refine a_aload_n C dX12_count_134 (i := 0) rfl rfl ?_
    refine s_iconst C dX12_count_135 (2) (by decide) (fun z72 h73 => ?_)
    refine a_callVi C (i := 236) kd_236 (hid 236 (by decide)) ⟨_, _, rfl⟩ (by decide) (S_X12_thingsSo_236 (x1 := z72) hid hG30) mi_X12_thingsSo ml_RX12_350 rfl rfl (Nat.le_of_ble_eq_true rfl) (Nat.le_of_ble_eq_true rfl) (Nat.le_of_ble_eq_true rfl) dX12_count_136 (fun z74 σ75 q76 => ?_)
    rw [q76]
    exact a_iret Rt dX12_count_139 rfl (⟨hG30, (onm.tr onm.rf (onm.mono ho31 (by decide))), hR32⟩)
  ·
    refine a_tableIn C dX12_count_5 (by omega) (by omega) (by rw [hq]; rfl) (tgt := 140) rfl ?_
    refine a_aload_n C dX12_count_140 (i := 0) rfl rfl ?_
    refine a_get C fl_RX12_110 (i := 236) kd_236 (hid 236 (by decide)) (v := .ref (ad 267)) rfl dX12_count_141 ?_
    refine s_bipush C dX12_count_144 (17) (by decide) (fun z77 h78 => ?_)
    refine a_iload_n C dX12_count_146 (i := 1) rfl rfl ?_
    refine s_iadd C dX12_count_147 (by omega) (fun z79 h80 => ?_)
    refine s_iald C (i := 267) kd_267 (hid 267 (by decide)) al_267 (by omega) (by omega) dX12_count_148 (fun n81 h82 => ?_)
    refine s_val (fun z83 e84 => ?_)
    exact a_iret Rt dX12_count_149 rfl (⟨hG30, (onm.tr onm.rf (onm.mono ho31 (by decide))), hR32⟩)
  ·
    refine a_tableIn C dX12_count_5 (by omega) (by omega) (by rw [hq]; rfl) (tgt := 140) rfl ?_
    refine a_aload_n C dX12_count_140 (i := 0) rfl rfl ?_
    refine a_get C fl_RX12_110 (i := 236) kd_236 (hid 236 (by decide)) (v := .ref (ad 267)) rfl dX12_count_141 ?_
    refine s_bipush C dX12_count_144 (17) (by decide) (fun z85 h86 => ?_)
    refine a_iload_n C dX12_count_146 (i := 1) rfl rfl ?_
    refine s_iadd C dX12_count_147 (by omega) (fun z87 h88 => ?_)
    refine s_iald C (i := 267) kd_267 (hid 267 (by decide)) al_267 (by omega) (by omega) dX12_count_148 (fun n89 h90 => ?_)
    refine s_val (fun z91 e92 => ?_)
    exact a_iret Rt dX12_count_149 rfl (⟨hG30, (onm.tr onm.rf (onm.mono ho31 (by decide))), hR32⟩)
  ·
    refine a_tableIn C dX12_count_5 (by omega) (by omega) (by rw [hq]; rfl) (tgt := 140) rfl ?_
    refine a_aload_n C dX12_count_140 (i := 0) rfl rfl ?_
    refine a_get C fl_RX12_110 (i := 236) kd_236 (hid 236 (by decide)) (v := .ref (ad 267)) rfl dX12_count_141 ?_
    refine s_bipush C dX12_count_144 (17) (by decide) (fun z93 h94 => ?_)
    refine a_iload_n C dX12_count_146 (i := 1) rfl rfl ?_
    refine s_iadd C dX12_count_147 (by omega) (fun z95 h96 => ?_)
    refine s_iald C (i := 267) kd_267 (hid 267 (by decide)) al_267 (by omega) (by omega) dX12_count_148 (fun n97 h98 => ?_)
    refine s_val (fun z99 e100 => ?_)
    exact a_iret Rt dX12_count_149 rfl (⟨hG30, (onm.tr onm.rf (onm.mono ho31 (by decide))), hR32⟩)
  ·
    refine a_tableIn C dX12_count_5 (by omega) (by omega) (by rw [hq]; rfl) (tgt := 150) rfl ?_
    refine a_aload_n C dX12_count_150 (i := 0) rfl rfl ?_
    refine a_get C fl_RX12_110 (i := 236) kd_236 (hid 236 (by decide)) (v := .ref (ad 267)) rfl dX12_count_151 ?_
    refine s_bipush C dX12_count_154 (26) (by decide) (fun z101 h102 => ?_)
    refine s_iald C (i := 267) kd_267 (hid 267 (by decide)) al_267 (by omega) (by omega) dX12_count_156 (fun n103 h104 => ?_)
    refine s_val (fun z105 e106 => ?_)
    obtain rfl : n103 = 26 := by omega
    have g107 : z105.toInt = (σ28.1 267 26).toInt := congrArg Int32.toInt (e106.symm.trans (rfl : _ = (σ28.1 267 26)))
    have g108 := RKm.row hR32
    rw [e106] at g108
    have g109 := pl_le hG30
    exact a_iret Rt dX12_count_157 rfl (⟨hG30, (onm.tr onm.rf (onm.mono ho31 (by decide))), hR32⟩)
  ·
    refine a_tableIn C dX12_count_5 (by omega) (by omega) (by rw [hq]; rfl) (tgt := 158) rfl ?_
    refine a_aload_n C dX12_count_158 (i := 0) rfl rfl ?_
    refine a_callVi C (i := 236) kd_236 (hid 236 (by decide)) ⟨_, _, rfl⟩ (by decide) (S_X12_heightNow_236 hid hG30 hR32) mi_X12_heightNow ml_RX12_347 rfl rfl (Nat.le_of_ble_eq_true rfl) (Nat.le_of_ble_eq_true rfl) (Nat.le_of_ble_eq_true rfl) dX12_count_159 (fun z110 σ111 q112 => ?_)
    rw [q112]
    exact a_iret Rt dX12_count_162 rfl (⟨hG30, (onm.tr onm.rf (onm.mono ho31 (by decide))), hR32⟩)
  ·
    refine a_tableIn C dX12_count_5 (by omega) (by omega) (by rw [hq]; rfl) (tgt := 163) rfl ?_
    refine a_aload_n C dX12_count_163 (i := 0) rfl rfl ?_
    have g113 := bF_236_2 hG30
    have g114 := bF_236_2 hG
    have g115 : (σ28.1 236 2).toInt = (σ.1 236 2).toInt := congrArg Int32.toInt (ho31.1 236 2 (by decide))
    refine a_get C fl_RX12_154 (i := 236) kd_236 (hid 236 (by decide)) (v := .int (σ28.1 236 2)) rfl dX12_count_164 ?_
    exact a_iret Rt dX12_count_167 rfl (⟨hG30, (onm.tr onm.rf (onm.mono ho31 (by decide))), hR32⟩)
  ·
    refine a_tableIn C dX12_count_5 (by omega) (by omega) (by rw [hq]; rfl) (tgt := 168) rfl ?_
    refine a_aload_n C dX12_count_168 (i := 0) rfl rfl ?_
    have g116 := bF_236_54 hG30
    have g117 := bF_236_54 hG
    have g118 : (σ28.1 236 54).toInt = (σ.1 236 54).toInt := congrArg Int32.toInt (ho31.1 236 54 (by decide))
    refine a_get C fl_RX12_239 (i := 236) kd_236 (hid 236 (by decide)) (v := .int (σ28.1 236 54)) rfl dX12_count_169 ?_
    exact a_iret Rt dX12_count_172 rfl (⟨hG30, (onm.tr onm.rf (onm.mono ho31 (by decide))), hR32⟩)
  ·
    refine a_tableIn C dX12_count_5 (by omega) (by omega) (by rw [hq]; rfl) (tgt := 173) rfl ?_
    refine a_aload_n C dX12_count_173 (i := 0) rfl rfl ?_
    have g119 := bF_236_60 hG30
    have g120 := bF_236_60 hG
    have g121 : (σ28.1 236 60).toInt = (σ.1 236 60).toInt := congrArg Int32.toInt (ho31.1 236 60 (by decide))
    refine a_get C fl_RX12_242 (i := 236) kd_236 (hid 236 (by decide)) (v := .int (σ28.1 236 60)) rfl dX12_count_174 ?_
    exact a_iret Rt dX12_count_177 rfl (⟨hG30, (onm.tr onm.rf (onm.mono ho31 (by decide))), hR32⟩)
  ·
    refine a_tableIn C dX12_count_5 (by omega) (by omega) (by rw [hq]; rfl) (tgt := 178) rfl ?_
    refine a_aload_n C dX12_count_178 (i := 0) rfl rfl ?_
    refine a_get C fl_RX12_134 (i := 236) kd_236 (hid 236 (by decide)) (v := .ref (ad 275)) rfl dX12_count_179 ?_
    refine s_iconst C dX12_count_182 (0) (by decide) (fun z122 h123 => ?_)
    refine s_zald C (i := 275) kd_275 (hid 275 (by decide)) al_275 (by omega) (by omega) dX12_count_183 (fun n124 h125 => ?_)
    refine s_val (fun z126 e127 => ?_)
    refine s_if_eq C dX12_count_184 (tgt := 191) rfl (fun c128 => ?_) (fun c128 => ?_)
    ·
      refine s_iconst C dX12_count_191 (0) (by decide) (fun z129 h130 => ?_)
      refine AW.sub (vs' := [some (.ref (ad 236)), none]) (lsub_of (by simp [lsubB])) ?_
      exact j192 _ z129 hG30 (onm.tr onm.rf (onm.mono ho31 (by decide))) hR32 (by omega)
    ·
      refine s_iconst C dX12_count_187 (1) (by decide) (fun z131 h132 => ?_)
      refine a_goto C dX12_count_188 (tgt := 192) rfl ?_
      refine AW.sub (vs' := [some (.ref (ad 236)), none]) (lsub_of (by simp [lsubB])) ?_
      exact j192 _ z131 hG30 (onm.tr onm.rf (onm.mono ho31 (by decide))) hR32 (by omega)
  ·
    refine a_tableIn C dX12_count_5 (by omega) (by omega) (by rw [hq]; rfl) (tgt := 223) rfl ?_
    refine a_aload_n C dX12_count_223 (i := 0) rfl rfl ?_
    refine a_aload_n C dX12_count_224 (i := 0) rfl rfl ?_
    refine s_iconst C dX12_count_225 (0) (by decide) (fun z133 h134 => ?_)
    refine a_callVi C (i := 236) kd_236 (hid 236 (by decide)) ⟨_, _, rfl⟩ (by decide) (S_X12_thingsSo_236 (x1 := z133) hid hG30) mi_X12_thingsSo ml_RX12_350 rfl rfl (Nat.le_of_ble_eq_true rfl) (Nat.le_of_ble_eq_true rfl) (Nat.le_of_ble_eq_true rfl) dX12_count_226 (fun z135 σ136 q137 => ?_)
    rw [q137]
    refine a_callVi C (i := 236) kd_236 (hid 236 (by decide)) ⟨_, _, rfl⟩ (by decide) (S_X12_weightsOf_236 (x1 := z135) hid hG30) mi_X12_weightsOf ml_RX12_461 rfl rfl (Nat.le_of_ble_eq_true rfl) (Nat.le_of_ble_eq_true rfl) (Nat.le_of_ble_eq_true rfl) dX12_count_229 (fun z138 σ139 q140 => ?_)
    rw [q140]
    exact a_iret Rt dX12_count_232 rfl (⟨hG30, (onm.tr onm.rf (onm.mono ho31 (by decide))), hR32⟩)
  ·
    refine a_tableIn C dX12_count_5 (by omega) (by omega) (by rw [hq]; rfl) (tgt := 233) rfl ?_
    refine a_aload_n C dX12_count_233 (i := 0) rfl rfl ?_
    refine a_aload_n C dX12_count_234 (i := 0) rfl rfl ?_
    refine s_iconst C dX12_count_235 (2) (by decide) (fun z141 h142 => ?_)
    refine a_callVi C (i := 236) kd_236 (hid 236 (by decide)) ⟨_, _, rfl⟩ (by decide) (S_X12_thingsSo_236 (x1 := z141) hid hG30) mi_X12_thingsSo ml_RX12_350 rfl rfl (Nat.le_of_ble_eq_true rfl) (Nat.le_of_ble_eq_true rfl) (Nat.le_of_ble_eq_true rfl) dX12_count_236 (fun z143 σ144 q145 => ?_)
    rw [q145]
    refine a_callVi C (i := 236) kd_236 (hid 236 (by decide)) ⟨_, _, rfl⟩ (by decide) (S_X12_weightsOf_236 (x1 := z143) hid hG30) mi_X12_weightsOf ml_RX12_461 rfl rfl (Nat.le_of_ble_eq_true rfl) (Nat.le_of_ble_eq_true rfl) (Nat.le_of_ble_eq_true rfl) dX12_count_239 (fun z146 σ147 q148 => ?_)
    rw [q148]
    exact a_iret Rt dX12_count_242 rfl (⟨hG30, (onm.tr onm.rf (onm.mono ho31 (by decide))), hR32⟩)
  ·
    refine a_tableIn C dX12_count_5 (by omega) (by omega) (by rw [hq]; rfl) (tgt := 243) rfl ?_
    refine a_aload_n C dX12_count_243 (i := 0) rfl rfl ?_
    refine s_iconst C dX12_count_244 (1) (by decide) (fun z149 h150 => ?_)
    refine a_callVi C (i := 236) kd_236 (hid 236 (by decide)) ⟨_, _, rfl⟩ (by decide) (S_X12_thingsSo_236 (x1 := z149) hid hG30) mi_X12_thingsSo ml_RX12_350 rfl rfl (Nat.le_of_ble_eq_true rfl) (Nat.le_of_ble_eq_true rfl) (Nat.le_of_ble_eq_true rfl) dX12_count_245 (fun z151 σ152 q153 => ?_)
    rw [q153]
    exact a_iret Rt dX12_count_248 rfl (⟨hG30, (onm.tr onm.rf (onm.mono ho31 (by decide))), hR32⟩)
theorem dX12_thing_10 : decode cX12_thing 10 = .ok (.iload_n 2, 1) := by decide +kernel
theorem dX12_thing_11 : decode cX12_thing 11 = .ok (.tableswitch 104 0 4 #[33, 48, 63, 70, 94], 33) := by decide +kernel
theorem dX12_thing_44 : decode cX12_thing 44 = .ok (.aload_n 0, 1) := by decide +kernel
theorem dX12_thing_45 : decode cX12_thing 45 = .ok (.getfield 46, 3) := by decide +kernel
theorem dX12_thing_48 : decode cX12_thing 48 = .ok (.bipush 7, 2) := by decide +kernel
theorem dX12_thing_50 : decode cX12_thing 50 = .ok (.aload_n 0, 1) := by decide +kernel
theorem dX12_thing_51 : decode cX12_thing 51 = .ok (.getfield 221, 3) := by decide +kernel
theorem dX12_thing_54 : decode cX12_thing 54 = .ok (.imul, 1) := by decide +kernel
theorem dX12_thing_55 : decode cX12_thing 55 = .ok (.iload_n 1, 1) := by decide +kernel
theorem dX12_thing_56 : decode cX12_thing 56 = .ok (.iadd, 1) := by decide +kernel
theorem dX12_thing_57 : decode cX12_thing 57 = .ok (.iaload, 1) := by decide +kernel
theorem dX12_thing_58 : decode cX12_thing 58 = .ok (.ireturn, 1) := by decide +kernel
theorem dX12_thing_59 : decode cX12_thing 59 = .ok (.aload_n 0, 1) := by decide +kernel
theorem dX12_thing_60 : decode cX12_thing 60 = .ok (.getfield 49, 3) := by decide +kernel
theorem dX12_thing_63 : decode cX12_thing 63 = .ok (.bipush 7, 2) := by decide +kernel
theorem dX12_thing_65 : decode cX12_thing 65 = .ok (.aload_n 0, 1) := by decide +kernel
theorem dX12_thing_66 : decode cX12_thing 66 = .ok (.getfield 221, 3) := by decide +kernel
theorem dX12_thing_69 : decode cX12_thing 69 = .ok (.imul, 1) := by decide +kernel
theorem dX12_thing_70 : decode cX12_thing 70 = .ok (.iload_n 1, 1) := by decide +kernel
theorem dX12_thing_71 : decode cX12_thing 71 = .ok (.iadd, 1) := by decide +kernel
theorem dX12_thing_72 : decode cX12_thing 72 = .ok (.iaload, 1) := by decide +kernel
theorem dX12_thing_73 : decode cX12_thing 73 = .ok (.ireturn, 1) := by decide +kernel
theorem dX12_thing_74 : decode cX12_thing 74 = .ok (.aload_n 0, 1) := by decide +kernel
theorem dX12_thing_75 : decode cX12_thing 75 = .ok (.getfield 107, 3) := by decide +kernel
theorem dX12_thing_78 : decode cX12_thing 78 = .ok (.iload_n 1, 1) := by decide +kernel
theorem dX12_thing_79 : decode cX12_thing 79 = .ok (.iaload, 1) := by decide +kernel
theorem dX12_thing_80 : decode cX12_thing 80 = .ok (.ireturn, 1) := by decide +kernel
theorem dX12_thing_81 : decode cX12_thing 81 = .ok (.aload_n 0, 1) := by decide +kernel
theorem dX12_thing_82 : decode cX12_thing 82 = .ok (.getfield 107, 3) := by decide +kernel
theorem dX12_thing_85 : decode cX12_thing 85 = .ok (.iload_n 1, 1) := by decide +kernel
theorem dX12_thing_86 : decode cX12_thing 86 = .ok (.iaload, 1) := by decide +kernel
theorem dX12_thing_87 : decode cX12_thing 87 = .ok (.ifCond .ne 15, 3) := by decide +kernel
theorem dX12_thing_90 : decode cX12_thing 90 = .ok (.aload_n 0, 1) := by decide +kernel
theorem dX12_thing_91 : decode cX12_thing 91 = .ok (.getfield 107, 3) := by decide +kernel
theorem dX12_thing_94 : decode cX12_thing 94 = .ok (.bipush 7, 2) := by decide +kernel
theorem dX12_thing_96 : decode cX12_thing 96 = .ok (.iload_n 1, 1) := by decide +kernel
theorem dX12_thing_97 : decode cX12_thing 97 = .ok (.iadd, 1) := by decide +kernel
theorem dX12_thing_98 : decode cX12_thing 98 = .ok (.iaload, 1) := by decide +kernel
theorem dX12_thing_99 : decode cX12_thing 99 = .ok (.goto 5, 3) := by decide +kernel
theorem dX12_thing_102 : decode cX12_thing 102 = .ok (.bipush (-2), 2) := by decide +kernel
theorem dX12_thing_104 : decode cX12_thing 104 = .ok (.ireturn, 1) := by decide +kernel
theorem dX12_thing_105 : decode cX12_thing 105 = .ok (.aload_n 0, 1) := by decide +kernel
theorem dX12_thing_106 : decode cX12_thing 106 = .ok (.getfield 107, 3) := by decide +kernel
theorem dX12_thing_109 : decode cX12_thing 109 = .ok (.bipush 14, 2) := by decide +kernel
theorem dX12_thing_111 : decode cX12_thing 111 = .ok (.iload_n 1, 1) := by decide +kernel
theorem dX12_thing_112 : decode cX12_thing 112 = .ok (.iadd, 1) := by decide +kernel
theorem dX12_thing_113 : decode cX12_thing 113 = .ok (.iaload, 1) := by decide +kernel
theorem dX12_thing_114 : decode cX12_thing 114 = .ok (.ireturn, 1) := by decide +kernel
theorem dX12_thing_115 : decode cX12_thing 115 = .ok (.iconst (-1), 1) := by decide +kernel
theorem dX12_thing_116 : decode cX12_thing 116 = .ok (.ireturn, 1) := by decide +kernel
set_option maxHeartbeats 4000000 in
set_option maxRecDepth 100000 in
theorem S_X12_thing_236 {l : Launch} {D : va_G} {ids : List Nat} {ad : Nat → Nat} {ca : Nat → ClassId} {σ : HS} {x1 : Int32} {x2 : Int32} (hid : ∀ i, i < 277 → i ∈ ids) (hG : GIm σ) : Ki l D ids ad ca yX12_thing cX12_thing 3 .int 2 43 [.ref (ad 236), .int x1, .int x2] σ (fun r σ1 => (σ1 = σ)) := by
  refine Ki.of (by decide) (Nat.le_of_ble_eq_true rfl) 0 (fun Γ C Rt => ?_)
  show AW ids ad ca Γ 0 [some (.ref (ad 236)), some (.int x1), some (.int x2)] [] σ
  refine a_aload_n C dX12_thing_0 (i := 0) rfl rfl ?_
  refine a_iload_n C dX12_thing_1 (i := 1) rfl rfl ?_
  refine a_callVi C (i := 236) kd_236 (hid 236 (by decide)) ⟨_, _, rfl⟩ (by decide) (S_X12_isThing_236 (x1 := x1) hid hG) mi_X12_isThing ml_RX12_390 rfl rfl (Nat.le_of_ble_eq_true rfl) (Nat.le_of_ble_eq_true rfl) (Nat.le_of_ble_eq_true rfl) dX12_thing_2 (fun z1 σ2 q3 => ?_)
  obtain ⟨w4, w5, w6⟩ := q3
  rw [w4]
  refine s_if_ne C dX12_thing_5 (tgt := 10) rfl (fun c7 => ?_) (fun c7 => ?_)
  ·
    refine a_iload_n C dX12_thing_10 (i := 2) rfl rfl ?_
    by_cases hsw : x2.toInt < 0 ∨ 4 < x2.toInt
    ·
      refine a_tableOut C dX12_thing_11 hsw (tgt := 115) rfl ?_
      refine s_iconst C dX12_thing_115 (-1) (by decide) (fun z8 h9 => ?_)
      exact a_iret Rt dX12_thing_116 rfl (rfl)
    rcases (show x2.toInt = 0 ∨ x2.toInt = 1 ∨ x2.toInt = 2 ∨ x2.toInt = 3 ∨ x2.toInt = 4 by omega) with hq | hq | hq | hq | hq
    ·
      refine a_tableIn C dX12_thing_11 (by omega) (by omega) (by rw [hq]; rfl) (tgt := 44) rfl ?_
      refine a_aload_n C dX12_thing_44 (i := 0) rfl rfl ?_
      refine a_get C fl_RX12_46 (i := 236) kd_236 (hid 236 (by decide)) (v := .ref (ad 246)) rfl dX12_thing_45 ?_
      refine s_bipush C dX12_thing_48 (7) (by decide) (fun z10 h11 => ?_)
      refine a_aload_n C dX12_thing_50 (i := 0) rfl rfl ?_
      have g12 := bF_236_18 hG
      refine a_get C fl_RX12_221 (i := 236) kd_236 (hid 236 (by decide)) (v := .int (σ.1 236 18)) rfl dX12_thing_51 ?_
      refine s_imuld C dX12_thing_54 (7) (by omega) (by omega) (fun z13 h14 => ?_)
      refine a_iload_n C dX12_thing_55 (i := 1) rfl rfl ?_
      refine s_iadd C dX12_thing_56 (by omega) (fun z15 h16 => ?_)
      refine s_iald C (i := 246) kd_246 (hid 246 (by decide)) al_246 (by omega) (by omega) dX12_thing_57 (fun n17 h18 => ?_)
      refine s_val (fun z19 e20 => ?_)
      exact a_iret Rt dX12_thing_58 rfl (rfl)
    ·
      refine a_tableIn C dX12_thing_11 (by omega) (by omega) (by rw [hq]; rfl) (tgt := 59) rfl ?_
      refine a_aload_n C dX12_thing_59 (i := 0) rfl rfl ?_
      refine a_get C fl_RX12_49 (i := 236) kd_236 (hid 236 (by decide)) (v := .ref (ad 247)) rfl dX12_thing_60 ?_
      refine s_bipush C dX12_thing_63 (7) (by decide) (fun z21 h22 => ?_)
      refine a_aload_n C dX12_thing_65 (i := 0) rfl rfl ?_
      have g23 := bF_236_18 hG
      refine a_get C fl_RX12_221 (i := 236) kd_236 (hid 236 (by decide)) (v := .int (σ.1 236 18)) rfl dX12_thing_66 ?_
      refine s_imuld C dX12_thing_69 (7) (by omega) (by omega) (fun z24 h25 => ?_)
      refine a_iload_n C dX12_thing_70 (i := 1) rfl rfl ?_
      refine s_iadd C dX12_thing_71 (by omega) (fun z26 h27 => ?_)
      refine s_iald C (i := 247) kd_247 (hid 247 (by decide)) al_247 (by omega) (by omega) dX12_thing_72 (fun n28 h29 => ?_)
      refine s_val (fun z30 e31 => ?_)
      exact a_iret Rt dX12_thing_73 rfl (rfl)
    ·
      refine a_tableIn C dX12_thing_11 (by omega) (by omega) (by rw [hq]; rfl) (tgt := 74) rfl ?_
      refine a_aload_n C dX12_thing_74 (i := 0) rfl rfl ?_
      refine a_get C fl_RX12_107 (i := 236) kd_236 (hid 236 (by decide)) (v := .ref (ad 266)) rfl dX12_thing_75 ?_
      refine a_iload_n C dX12_thing_78 (i := 1) rfl rfl ?_
      refine s_iald C (i := 266) kd_266 (hid 266 (by decide)) al_266 (by omega) (by omega) dX12_thing_79 (fun n32 h33 => ?_)
      refine s_val (fun z34 e35 => ?_)
      exact a_iret Rt dX12_thing_80 rfl (rfl)
    ·
      refine a_tableIn C dX12_thing_11 (by omega) (by omega) (by rw [hq]; rfl) (tgt := 81) rfl ?_
      refine a_aload_n C dX12_thing_81 (i := 0) rfl rfl ?_
      refine a_get C fl_RX12_107 (i := 236) kd_236 (hid 236 (by decide)) (v := .ref (ad 266)) rfl dX12_thing_82 ?_
      refine a_iload_n C dX12_thing_85 (i := 1) rfl rfl ?_
      refine s_iald C (i := 266) kd_266 (hid 266 (by decide)) al_266 (by omega) (by omega) dX12_thing_86 (fun n36 h37 => ?_)
      refine s_val (fun z38 e39 => ?_)
      refine s_if_ne C dX12_thing_87 (tgt := 102) rfl (fun c40 => ?_) (fun c40 => ?_)
      ·
        refine s_bipush C dX12_thing_102 (-2) (by decide) (fun z41 h42 => ?_)
        exact a_iret Rt dX12_thing_104 rfl (rfl)
      ·
        refine a_aload_n C dX12_thing_90 (i := 0) rfl rfl ?_
        refine a_get C fl_RX12_107 (i := 236) kd_236 (hid 236 (by decide)) (v := .ref (ad 266)) rfl dX12_thing_91 ?_
        refine s_bipush C dX12_thing_94 (7) (by decide) (fun z43 h44 => ?_)
        refine a_iload_n C dX12_thing_96 (i := 1) rfl rfl ?_
        refine s_iadd C dX12_thing_97 (by omega) (fun z45 h46 => ?_)
        refine s_iald C (i := 266) kd_266 (hid 266 (by decide)) al_266 (by omega) (by omega) dX12_thing_98 (fun n47 h48 => ?_)
        refine s_val (fun z49 e50 => ?_)
        refine a_goto C dX12_thing_99 (tgt := 104) rfl ?_
        exact a_iret Rt dX12_thing_104 rfl (rfl)
    ·
      refine a_tableIn C dX12_thing_11 (by omega) (by omega) (by rw [hq]; rfl) (tgt := 105) rfl ?_
      refine a_aload_n C dX12_thing_105 (i := 0) rfl rfl ?_
      refine a_get C fl_RX12_107 (i := 236) kd_236 (hid 236 (by decide)) (v := .ref (ad 266)) rfl dX12_thing_106 ?_
      refine s_bipush C dX12_thing_109 (14) (by decide) (fun z51 h52 => ?_)
      refine a_iload_n C dX12_thing_111 (i := 1) rfl rfl ?_
      refine s_iadd C dX12_thing_112 (by omega) (fun z53 h54 => ?_)
      refine s_iald C (i := 266) kd_266 (hid 266 (by decide)) al_266 (by omega) (by omega) dX12_thing_113 (fun n55 h56 => ?_)
      refine s_val (fun z57 e58 => ?_)
      exact a_iret Rt dX12_thing_114 rfl (rfl)
  ·
    refine s_iconst C dX12_thing_8 (-1) (by decide) (fun z59 h60 => ?_)
    exact a_iret Rt dX12_thing_9 rfl (rfl)
