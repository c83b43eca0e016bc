theorem dX12_throwIn_8 : decode cX12_throwIn 8 = .ok (.aload_n 0, 1) := by decide +kernel
theorem dX12_throwIn_9 : decode cX12_throwIn 9 = .ok (.getfield 107, 3) := by decide +kernel
theorem dX12_throwIn_12 : decode cX12_throwIn 12 = .ok (.iload_n 1, 1) := by decide +kernel
theorem dX12_throwIn_13 : decode cX12_throwIn 13 = .ok (.iaload, 1) := by decide +kernel
theorem dX12_throwIn_14 : decode cX12_throwIn 14 = .ok (.ifCond .eq 13, 3) := by decide +kernel
theorem dX12_throwIn_17 : decode cX12_throwIn 17 = .ok (.iload_n 2, 1) := by decide +kernel
theorem dX12_throwIn_18 : decode cX12_throwIn 18 = .ok (.iconst 0, 1) := by decide +kernel
theorem dX12_throwIn_19 : decode cX12_throwIn 19 = .ok (.bipush 9, 2) := by decide +kernel
theorem dX12_throwIn_21 : decode cX12_throwIn 21 = .ok (.invokestatic 301, 3) := by decide +kernel
theorem dX12_throwIn_24 : decode cX12_throwIn 24 = .ok (.ifCond .ne 5, 3) := by decide +kernel
theorem dX12_throwIn_29 : decode cX12_throwIn 29 = .ok (.aload_n 0, 1) := by decide +kernel
theorem dX12_throwIn_30 : decode cX12_throwIn 30 = .ok (.invokevirtual 311, 3) := by decide +kernel
theorem dX12_throwIn_33 : decode cX12_throwIn 33 = .ok (.aload_n 0, 1) := by decide +kernel
theorem dX12_throwIn_34 : decode cX12_throwIn 34 = .ok (.getfield 110, 3) := by decide +kernel
theorem dX12_throwIn_37 : decode cX12_throwIn 37 = .ok (.iload_n 1, 1) := by decide +kernel
theorem dX12_throwIn_38 : decode cX12_throwIn 38 = .ok (.iconst 0, 1) := by decide +kernel
theorem dX12_throwIn_39 : decode cX12_throwIn 39 = .ok (.iastore, 1) := by decide +kernel
theorem dX12_throwIn_40 : decode cX12_throwIn 40 = .ok (.aload_n 0, 1) := by decide +kernel
theorem dX12_throwIn_41 : decode cX12_throwIn 41 = .ok (.getfield 110, 3) := by decide +kernel
theorem dX12_throwIn_44 : decode cX12_throwIn 44 = .ok (.bipush 7, 2) := by decide +kernel
theorem dX12_throwIn_46 : decode cX12_throwIn 46 = .ok (.iload_n 1, 1) := by decide +kernel
theorem dX12_throwIn_47 : decode cX12_throwIn 47 = .ok (.iadd, 1) := by decide +kernel
theorem dX12_throwIn_48 : decode cX12_throwIn 48 = .ok (.iload_n 2, 1) := by decide +kernel
theorem dX12_throwIn_49 : decode cX12_throwIn 49 = .ok (.iastore, 1) := by decide +kernel
theorem dX12_throwIn_50 : decode cX12_throwIn 50 = .ok (.aload_n 0, 1) := by decide +kernel
theorem dX12_throwIn_51 : decode cX12_throwIn 51 = .ok (.invokevirtual 396, 3) := by decide +kernel
theorem dX12_throwIn_54 : decode cX12_throwIn 54 = .ok (.iconst 1, 1) := by decide +kernel
theorem dX12_throwIn_55 : decode cX12_throwIn 55 = .ok (.ireturn, 1) := by decide +kernel
set_option maxHeartbeats 4000000 in
set_option maxRecDepth 100000 in
theorem S_X12_throwIn_236 {l : Launch} {D : va_G} {ids : List Nat} {ad : Nat → Nat} {ca : Nat → ClassId} {σ : HS} {x1 : Int32} {x2 : Int32} (hid : ∀ i, i < 277 → i ∈ ids) (hG : GIm σ) {b : Int} (hR : RKm b σ) (hp0 : b + 60 ≤ 40000) : Ki l D ids ad ca yX12_throwIn cX12_throwIn 3 .boolean 2 43 [.ref (ad 236), .int x1, .int x2] σ (fun r σ1 => (GIm σ1) ∧ (onm [266, 267, 268, 1049, 1050, 1054, 2021, 2026, 2027] σ σ1) ∧ (RKm (b + 60) σ1) ∧ (0 ≤ r.toInt ∧ r.toInt ≤ 1)) := by
  refine Ki.of (by decide) (Nat.le_of_ble_eq_true rfl) 0 (fun Γ C Rt => ?_)
  show AW ids ad ca Γ 0 [some (.ref (ad 236)), some (.int x1), some (.int x2)] [] σ
  refine a_aload_n C dX12_throwIn_0 (i := 0) rfl rfl ?_
  refine a_iload_n C dX12_throwIn_1 (i := 1) rfl rfl ?_
  refine a_callVi C (i := 236) kd_236 (hid 236 (by decide)) ⟨_, _, rfl⟩ (by decide) (S_X12_isThing_236 (x1 := x1) hid hG) mi_X12_isThing ml_RX12_390 rfl rfl (Nat.le_of_ble_eq_true rfl) (Nat.le_of_ble_eq_true rfl) (Nat.le_of_ble_eq_true rfl) dX12_throwIn_2 (fun z1 σ2 q3 => ?_)
  obtain ⟨w4, w5, w6⟩ := q3
  rw [w4]
  refine s_if_eq C dX12_throwIn_5 (tgt := 27) rfl (fun c7 => ?_) (fun c7 => ?_)
  ·
    refine s_iconst C dX12_throwIn_27 (0) (by decide) (fun z8 h9 => ?_)
    exact a_iret Rt dX12_throwIn_28 (nar_z (by omega)).1 (⟨hG, onm.rf, (RKm.mono hR (by omega) (by omega)), (show 0 ≤ z8.toInt ∧ z8.toInt ≤ 1 by intros; omega)⟩)
  ·
    refine a_aload_n C dX12_throwIn_8 (i := 0) rfl rfl ?_
    refine a_get C fl_RX12_107 (i := 236) kd_236 (hid 236 (by decide)) (v := .ref (ad 266)) rfl dX12_throwIn_9 ?_
    refine a_iload_n C dX12_throwIn_12 (i := 1) rfl rfl ?_
    refine s_iald C (i := 266) kd_266 (hid 266 (by decide)) al_266 (by omega) (by omega) dX12_throwIn_13 (fun n10 h11 => ?_)
    refine s_val (fun z12 e13 => ?_)
    refine s_if_eq C dX12_throwIn_14 (tgt := 27) rfl (fun c14 => ?_) (fun c14 => ?_)
    ·
      refine s_iconst C dX12_throwIn_27 (0) (by decide) (fun z15 h16 => ?_)
      exact a_iret Rt dX12_throwIn_28 (nar_z (by omega)).1 (⟨hG, onm.rf, (RKm.mono hR (by omega) (by omega)), (show 0 ≤ z15.toInt ∧ z15.toInt ≤ 1 by intros; omega)⟩)
    ·
      refine a_iload_n C dX12_throwIn_17 (i := 2) rfl rfl ?_
      refine s_iconst C dX12_throwIn_18 (0) (by decide) (fun z17 h18 => ?_)
      refine s_bipush C dX12_throwIn_19 (9) (by decide) (fun z19 h20 => ?_)
      refine a_callSi C (S_X12_in (x1 := x2) (x2 := z17) (x3 := z19) hid hG) ms_X12_in ml_RX12_301 rfl rfl (Nat.le_of_ble_eq_true rfl) (Nat.le_of_ble_eq_true rfl) (Nat.le_of_ble_eq_true rfl) dX12_throwIn_21 (fun z21 σ22 q23 => ?_)
      obtain ⟨w24, w25, w26⟩ := q23
      rw [w24]
      refine s_if_ne C dX12_throwIn_24 (tgt := 29) rfl (fun c27 => ?_) (fun c27 => ?_)
      ·
        refine a_aload_n C dX12_throwIn_29 (i := 0) rfl rfl ?_
        refine a_callVv C (i := 236) kd_236 (hid 236 (by decide)) ⟨_, _, rfl⟩ (by decide) (S_X12_copies_236 hid hG hR) mi_X12_copies ml_RX12_311 rfl rfl (Nat.le_of_ble_eq_true rfl) (Nat.le_of_ble_eq_true rfl) (Nat.le_of_ble_eq_true rfl) dX12_throwIn_30 (fun σ29 q30 => ?_)
        obtain ⟨hG31, ho32, hR33, w34⟩ := q30
        refine a_aload_n C dX12_throwIn_33 (i := 0) rfl rfl ?_
        refine a_get C fl_RX12_110 (i := 236) kd_236 (hid 236 (by decide)) (v := .ref (ad 267)) rfl dX12_throwIn_34 ?_
        refine a_iload_n C dX12_throwIn_37 (i := 1) rfl rfl ?_
        refine s_iconst C dX12_throwIn_38 (0) (by decide) (fun z35 h36 => ?_)
        refine s_iast C (i := 267) kd_267 (hid 267 (by decide)) al_267 (by omega) (by omega) dX12_throwIn_39 (fun n37 h38 => ?_)
        have hG39 := wA_267 (v := z35) (j := n37) hG31
        have hR40 := RKm.ony (σ1 := hI _ 267 n37 z35) hR33 (onm.R (L := [267]) onm.rf (by decide) (by omega)) (by decide)
        refine a_aload_n C dX12_throwIn_40 (i := 0) rfl rfl ?_
        refine a_get C fl_RX12_110 (i := 236) kd_236 (hid 236 (by decide)) (v := .ref (ad 267)) rfl dX12_throwIn_41 ?_
        refine s_bipush C dX12_throwIn_44 (7) (by decide) (fun z41 h42 => ?_)
        refine a_iload_n C dX12_throwIn_46 (i := 1) rfl rfl ?_
        refine s_iadd C dX12_throwIn_47 (by omega) (fun z43 h44 => ?_)
        refine a_iload_n C dX12_throwIn_48 (i := 2) rfl rfl ?_
        refine s_iast C (i := 267) kd_267 (hid 267 (by decide)) al_267 (by omega) (by omega) dX12_throwIn_49 (fun n45 h46 => ?_)
        have hG47 := wA_267 (v := x2) (j := n45) hG39
        have hR48 := RKm.ony (σ1 := hI _ 267 n45 x2) hR40 (onm.R (L := [267]) onm.rf (by decide) (by omega)) (by decide)
        refine a_aload_n C dX12_throwIn_50 (i := 0) rfl rfl ?_
        have g52 : ((hI (hI σ29 267 n37 z35) 267 n45 x2).1 267 21).toInt = (σ29.1 267 21).toInt := congrArg Int32.toInt (show _ = (σ29.1 267 21) from ((hI_n (by omega)).trans (hI_n (by omega))))
        refine a_callVv C (i := 236) kd_236 (hid 236 (by decide)) ⟨_, _, rfl⟩ (by decide) (S_X12_records_236 hid hG47 hR48 (by omega) (by omega)) mi_X12_records ml_RX12_396 rfl rfl (Nat.le_of_ble_eq_true rfl) (Nat.le_of_ble_eq_true rfl) (Nat.le_of_ble_eq_true rfl) dX12_throwIn_51 (fun σ50 q51 => ?_)
        obtain ⟨hG53, ho54, hR55⟩ := q51
        refine s_iconst C dX12_throwIn_54 (1) (by decide) (fun z56 h57 => ?_)
        exact a_iret Rt dX12_throwIn_55 (nar_z (by omega)).1 (⟨hG53, (onm.tr (onm.R (onm.R (onm.tr onm.rf (onm.mono ho32 (by decide))) (by decide) (by omega)) (by decide) (by omega)) (onm.mono ho54 (by decide))), hR55, (show 0 ≤ z56.toInt ∧ z56.toInt ≤ 1 by intros; omega)⟩)
      ·
        refine s_iconst C dX12_throwIn_27 (0) (by decide) (fun z58 h59 => ?_)
        exact a_iret Rt dX12_throwIn_28 (nar_z (by omega)).1 (⟨hG, onm.rf, (RKm.mono hR (by omega) (by omega)), (show 0 ≤ z58.toInt ∧ z58.toInt ≤ 1 by intros; omega)⟩)
theorem dX12_use_10 : decode cX12_use 10 = .ok (.aload_n 0, 1) := by decide +kernel
theorem dX12_use_11 : decode cX12_use 11 = .ok (.invokevirtual 311, 3) := by decide +kernel
theorem dX12_use_14 : decode cX12_use 14 = .ok (.aload_n 0, 1) := by decide +kernel
theorem dX12_use_15 : decode cX12_use 15 = .ok (.iload_n 1, 1) := by decide +kernel
theorem dX12_use_16 : decode cX12_use 16 = .ok (.invokevirtual 399, 3) := by decide +kernel
theorem dX12_use_19 : decode cX12_use 19 = .ok (.aload_n 0, 1) := by decide +kernel
theorem dX12_use_20 : decode cX12_use 20 = .ok (.invokevirtual 396, 3) := by decide +kernel
theorem dX12_use_23 : decode cX12_use 23 = .ok (.iconst 1, 1) := by decide +kernel
theorem dX12_use_24 : decode cX12_use 24 = .ok (.ireturn, 1) := by decide +kernel
set_option maxHeartbeats 4000000 in
set_option maxRecDepth 100000 in
theorem S_X12_use_236 {l : Launch} {D : va_G} {ids : List Nat} {ad : Nat → Nat} {ca : Nat → ClassId} {σ : HS} {x1 : Int32} (hid : ∀ i, i < 277 → i ∈ ids) (hG : GIm σ) {b : Int} (hR : RKm b σ) (hp0 : b + 60 ≤ 40000) : Ki l D ids ad ca yX12_use cX12_use 2 .boolean 2 43 [.ref (ad 236), .int x1] σ (fun r σ1 => (GIm σ1) ∧ (onm [266, 267, 268, 1049, 1050, 1054, 2021, 2026, 2027] σ σ1) ∧ (RKm (b + 60) σ1) ∧ (0 ≤ r.toInt ∧ r.toInt ≤ 1)) := by
  refine Ki.of (by decide) (Nat.le_of_ble_eq_true rfl) 0 (fun Γ C Rt => ?_)
  show AW ids ad ca Γ 0 [some (.ref (ad 236)), some (.int x1)] [] σ
  refine a_aload_n C dX12_use_0 (i := 0) rfl rfl ?_
  refine a_iload_n C dX12_use_1 (i := 1) rfl rfl ?_
  refine a_callVi C (i := 236) kd_236 (hid 236 (by decide)) ⟨_, _, rfl⟩ (by decide) (S_X12_isPattern_236 (x1 := x1) hid hG) mi_X12_isPattern ml_RX12_393 rfl rfl (Nat.le_of_ble_eq_true rfl) (Nat.le_of_ble_eq_true rfl) (Nat.le_of_ble_eq_true rfl) dX12_use_2 (fun z1 σ2 q3 => ?_)
  obtain ⟨w4, w5, w6⟩ := q3
  rw [w4]
  refine s_if_ne C dX12_use_5 (tgt := 10) rfl (fun c7 => ?_) (fun c7 => ?_)
  ·
    refine a_aload_n C dX12_use_10 (i := 0) rfl rfl ?_
    refine a_callVv C (i := 236) kd_236 (hid 236 (by decide)) ⟨_, _, rfl⟩ (by decide) (S_X12_copies_236 hid hG hR) mi_X12_copies ml_RX12_311 rfl rfl (Nat.le_of_ble_eq_true rfl) (Nat.le_of_ble_eq_true rfl) (Nat.le_of_ble_eq_true rfl) dX12_use_11 (fun σ9 q10 => ?_)
    obtain ⟨hG11, ho12, hR13, w14⟩ := q10
    refine a_aload_n C dX12_use_14 (i := 0) rfl rfl ?_
    refine a_iload_n C dX12_use_15 (i := 1) rfl rfl ?_
    have g18 := onm.pl ((onm.tr onm.rf (onm.mono ho12 (by decide))) : onm [266, 267, 268, 1049, 1050, 1054, 2021, 2026, 2027] σ _) (by decide)
    refine a_callVv C (i := 236) kd_236 (hid 236 (by decide)) ⟨_, _, rfl⟩ (by decide) (S_X12_uses_236 (x1 := x1) hid hG11 hR13 (by omega) (by omega)) mi_X12_uses ml_RX12_399 rfl rfl (Nat.le_of_ble_eq_true rfl) (Nat.le_of_ble_eq_true rfl) (Nat.le_of_ble_eq_true rfl) dX12_use_16 (fun σ16 q17 => ?_)
    obtain ⟨hG19, ho20, hR21, w22⟩ := q17
    refine a_aload_n C dX12_use_19 (i := 0) rfl rfl ?_
    have g26 : (σ16.1 267 21).toInt = (σ9.1 267 21).toInt := congrArg Int32.toInt (ho20.1 267 21 (by decide))
    refine a_callVv C (i := 236) kd_236 (hid 236 (by decide)) ⟨_, _, rfl⟩ (by decide) (S_X12_records_236 hid hG19 hR21 (by omega) (by omega)) mi_X12_records ml_RX12_396 rfl rfl (Nat.le_of_ble_eq_true rfl) (Nat.le_of_ble_eq_true rfl) (Nat.le_of_ble_eq_true rfl) dX12_use_20 (fun σ24 q25 => ?_)
    obtain ⟨hG27, ho28, hR29⟩ := q25
    refine s_iconst C dX12_use_23 (1) (by decide) (fun z30 h31 => ?_)
    exact a_iret Rt dX12_use_24 (nar_z (by omega)).1 (⟨hG27, (onm.tr (onm.tr (onm.tr onm.rf (onm.mono ho12 (by decide))) (onm.mono ho20 (by decide))) (onm.mono ho28 (by decide))), hR29, (show 0 ≤ z30.toInt ∧ z30.toInt ≤ 1 by intros; omega)⟩)
  ·
    refine s_iconst C dX12_use_8 (0) (by decide) (fun z32 h33 => ?_)
    exact a_iret Rt dX12_use_9 (nar_z (by omega)).1 (⟨hG, onm.rf, (RKm.mono hR (by omega) (by omega)), (show 0 ≤ z32.toInt ∧ z32.toInt ≤ 1 by intros; omega)⟩)
set_option maxHeartbeats 4000000 in
set_option maxRecDepth 100000 in
theorem S_X12_set_236 {l : Launch} {D : va_G} {ids : List Nat} {ad : Nat → Nat} {ca : Nat → ClassId} {σ : HS} {x1 : Int32} (hid : ∀ i, i < 277 → i ∈ ids) (hG : GIm σ) {b : Int} (hR : RKm b σ) (hp0 : b + 60 ≤ 40000) : Ki l D ids ad ca yX12_set cX12_set 2 .boolean 2 42 [.ref (ad 236), .int x1] σ (fun r σ1 => (GIm σ1) ∧ (onm [266, 267, 268, 1049, 1050, 1054, 2021, 2026, 2027] σ σ1) ∧ (RKm (b + 60) σ1) ∧ (0 ≤ r.toInt ∧ r.toInt ≤ 1)) := by
  refine Ki.of (by decide) (Nat.le_of_ble_eq_true rfl) 0 (fun Γ C Rt => ?_)
  show AW ids ad ca Γ 0 [some (.ref (ad 236)), some (.int x1)] [] σ
  refine a_iload_n C dX12_set_0 (i := 1) rfl rfl ?_
  refine s_iconst C dX12_set_1 (0) (by decide) (fun z1 h2 => ?_)
  refine s_bipush C dX12_set_2 (9) (by decide) (fun z3 h4 => ?_)
  refine a_callSi C (S_X12_in (x1 := x1) (x2 := z1) (x3 := z3) hid hG) ms_X12_in ml_RX12_301 rfl rfl (Nat.le_of_ble_eq_true rfl) (Nat.le_of_ble_eq_true rfl) (Nat.le_of_ble_eq_true rfl) dX12_set_4 (fun z5 σ6 q7 => ?_)
  obtain ⟨w8, w9, w10⟩ := q7
  rw [w8]
  refine s_if_eq C dX12_set_7 (tgt := 21) rfl (fun c11 => ?_) (fun c11 => ?_)
  ·
    refine s_iconst C dX12_set_21 (0) (by decide) (fun z12 h13 => ?_)
    exact a_iret Rt dX12_set_22 (nar_z (by omega)).1 (⟨hG, onm.rf, (RKm.mono hR (by omega) (by omega)), (show 0 ≤ z12.toInt ∧ z12.toInt ≤ 1 by intros; omega)⟩)
  ·
    refine a_aload_n C dX12_set_10 (i := 0) rfl rfl ?_
    refine a_get C fl_RX12_107 (i := 236) kd_236 (hid 236 (by decide)) (v := .ref (ad 266)) rfl dX12_set_11 ?_
    refine s_bipush C dX12_set_14 (28) (by decide) (fun z14 h15 => ?_)
    refine s_iald C (i := 266) kd_266 (hid 266 (by decide)) al_266 (by omega) (by omega) dX12_set_16 (fun n16 h17 => ?_)
    refine s_val (fun z18 e19 => ?_)
    refine a_iload_n C dX12_set_17 (i := 1) rfl rfl ?_
    refine s_ic_ne C dX12_set_18 (tgt := 23) rfl (fun c20 => ?_) (fun c20 => ?_)
    ·
      refine a_aload_n C dX12_set_23 (i := 0) rfl rfl ?_
      refine a_callVv C (i := 236) kd_236 (hid 236 (by decide)) ⟨_, _, rfl⟩ (by decide) (S_X12_copies_236 hid hG hR) mi_X12_copies ml_RX12_311 rfl rfl (Nat.le_of_ble_eq_true rfl) (Nat.le_of_ble_eq_true rfl) (Nat.le_of_ble_eq_true rfl) dX12_set_24 (fun σ22 q23 => ?_)
      obtain ⟨hG24, ho25, hR26, w27⟩ := q23
      refine a_aload_n C dX12_set_27 (i := 0) rfl rfl ?_
      refine a_get C fl_RX12_110 (i := 236) kd_236 (hid 236 (by decide)) (v := .ref (ad 267)) rfl dX12_set_28 ?_
      refine s_bipush C dX12_set_31 (28) (by decide) (fun z28 h29 => ?_)
      refine a_iload_n C dX12_set_33 (i := 1) rfl rfl ?_
      refine s_iast C (i := 267) kd_267 (hid 267 (by decide)) al_267 (by omega) (by omega) dX12_set_34 (fun n30 h31 => ?_)
      obtain rfl : n30 = 28 := by omega
      have hG32 := wA_267 (v := x1) (j := 28) hG24
      have hR33 := RKm.ony (σ1 := hI _ 267 28 x1) hR26 (onm.R (L := [267]) onm.rf (by decide) (by omega)) (by decide)
      refine a_aload_n C dX12_set_35 (i := 0) rfl rfl ?_
      have g37 : ((hI σ22 267 28 x1).1 267 21).toInt = (σ22.1 267 21).toInt := congrArg Int32.toInt (show _ = (σ22.1 267 21) from (hI_n (by decide)))
      refine a_callVv C (i := 236) kd_236 (hid 236 (by decide)) ⟨_, _, rfl⟩ (by decide) (S_X12_records_236 hid hG32 hR33 (by omega) (by omega)) mi_X12_records ml_RX12_396 rfl rfl (Nat.le_of_ble_eq_true rfl) (Nat.le_of_ble_eq_true rfl) (Nat.le_of_ble_eq_true rfl) dX12_set_36 (fun σ35 q36 => ?_)
      obtain ⟨hG38, ho39, hR40⟩ := q36
      refine s_iconst C dX12_set_39 (1) (by decide) (fun z41 h42 => ?_)
      exact a_iret Rt dX12_set_40 (nar_z (by omega)).1 (⟨hG38, (onm.tr (onm.R (onm.tr onm.rf (onm.mono ho25 (by decide))) (by decide) (by omega)) (onm.mono ho39 (by decide))), hR40, (show 0 ≤ z41.toInt ∧ z41.toInt ≤ 1 by intros; omega)⟩)
    ·
      refine s_iconst C dX12_set_21 (0) (by decide) (fun z43 h44 => ?_)
      exact a_iret Rt dX12_set_22 (nar_z (by omega)).1 (⟨hG, onm.rf, (RKm.mono hR (by omega) (by omega)), (show 0 ≤ z43.toInt ∧ z43.toInt ≤ 1 by intros; omega)⟩)
set_option maxHeartbeats 4000000 in
set_option maxRecDepth 100000 in
theorem S_X12_beats_236 {l : Launch} {D : va_G} {ids : List Nat} {ad : Nat → Nat} {ca : Nat → ClassId} {σ : HS} {x1 : Int32} (hid : ∀ i, i < 277 → i ∈ ids) (hG : GIm σ) {b : Int} (hR : RKm b σ) (hp0 : b + 60 ≤ 40000) : Ki l D ids ad ca yX12_beats cX12_beats 2 .int 6 144 [.ref (ad 236), .int x1] σ (fun r σ1 => (GIm σ1) ∧ (onm [264, 265, 266, 267, 268, 1046, 1049, 1050, 1051, 1052, 1053, 1054, 2021, 2026, 2027] σ σ1) ∧ (RKm (b + 60) σ1)) := by
  refine Ki.of (by decide) (Nat.le_of_ble_eq_true rfl) 0 (fun Γ C Rt => ?_)
  show AW ids ad ca Γ 0 [some (.ref (ad 236)), some (.int x1)] [] σ
  refine a_iload_n C dX12_beats_0 (i := 1) rfl rfl ?_
  refine a_callSi C (S_X12_isLong (x1 := x1) hid hG) ms_X12_isLong ml_RX12_402 rfl rfl (Nat.le_of_ble_eq_true rfl) (Nat.le_of_ble_eq_true rfl) (Nat.le_of_ble_eq_true rfl) dX12_beats_1 (fun z1 σ2 q3 => ?_)
  obtain ⟨w4, w5, w6⟩ := q3
  rw [w4]
  refine s_if_ne C dX12_beats_4 (tgt := 9) rfl (fun c7 => ?_) (fun c7 => ?_)
  ·
    refine a_iload_n C dX12_beats_9 (i := 1) rfl rfl ?_
    refine s_if_ne C dX12_beats_10 (tgt := 21) rfl (fun c8 => ?_) (fun c8 => ?_)
    ·
      refine a_aload_n C dX12_beats_21 (i := 0) rfl rfl ?_
      refine a_callVv C (i := 236) kd_236 (hid 236 (by decide)) ⟨_, _, rfl⟩ (by decide) (S_X12_copies_236 hid hG hR) mi_X12_copies ml_RX12_311 rfl rfl (Nat.le_of_ble_eq_true rfl) (Nat.le_of_ble_eq_true rfl) (Nat.le_of_ble_eq_true rfl) dX12_beats_22 (fun σ10 q11 => ?_)
      obtain ⟨hG12, ho13, hR14, w15⟩ := q11
      refine a_aload_n C dX12_beats_25 (i := 0) rfl rfl ?_
      refine a_iload_n C dX12_beats_26 (i := 1) rfl rfl ?_
      refine a_callVv C (i := 236) kd_236 (hid 236 (by decide)) ⟨_, _, rfl⟩ (by decide) (S_X12_goes_236 (x1 := x1) hid hG12 hR14 (by omega) (by omega)) mi_X12_goes ml_RX12_405 rfl rfl (Nat.le_of_ble_eq_true rfl) (Nat.le_of_ble_eq_true rfl) (Nat.le_of_ble_eq_true rfl) dX12_beats_27 (fun σ17 q18 => ?_)
      obtain ⟨hG19, ho20, hR21, w22⟩ := q18
      refine a_aload_n C dX12_beats_30 (i := 0) rfl rfl ?_
      refine a_callVv C (i := 236) kd_236 (hid 236 (by decide)) ⟨_, _, rfl⟩ (by decide) (S_X12_records_236 hid hG19 hR21 (by omega) (by omega)) mi_X12_records ml_RX12_396 rfl rfl (Nat.le_of_ble_eq_true rfl) (Nat.le_of_ble_eq_true rfl) (Nat.le_of_ble_eq_true rfl) dX12_beats_31 (fun σ24 q25 => ?_)
      obtain ⟨hG26, ho27, hR28⟩ := q25
      refine a_aload_n C dX12_beats_34 (i := 0) rfl rfl ?_
      refine a_get C fl_RX12_107 (i := 236) kd_236 (hid 236 (by decide)) (v := .ref (ad 266)) rfl dX12_beats_35 ?_
      refine s_bipush C dX12_beats_38 (21) (by decide) (fun z29 h30 => ?_)
      refine s_iald C (i := 266) kd_266 (hid 266 (by decide)) al_266 (by omega) (by omega) dX12_beats_40 (fun n31 h32 => ?_)
      refine s_val (fun z33 e34 => ?_)
      exact a_iret Rt dX12_beats_41 rfl (⟨hG26, (onm.tr (onm.tr (onm.tr onm.rf (onm.mono ho13 (by decide))) (onm.mono ho20 (by decide))) (onm.mono ho27 (by decide))), hR28⟩)
    ·
      refine a_aload_n C dX12_beats_13 (i := 0) rfl rfl ?_
      refine a_get C fl_RX12_107 (i := 236) kd_236 (hid 236 (by decide)) (v := .ref (ad 266)) rfl dX12_beats_14 ?_
      refine s_bipush C dX12_beats_17 (21) (by decide) (fun z35 h36 => ?_)
      refine s_iald C (i := 266) kd_266 (hid 266 (by decide)) al_266 (by omega) (by omega) dX12_beats_19 (fun n37 h38 => ?_)
      refine s_val (fun z39 e40 => ?_)
      exact a_iret Rt dX12_beats_20 rfl (⟨hG, onm.rf, (RKm.mono hR (by omega) (by omega))⟩)
  ·
    refine s_iconst C dX12_beats_7 (-1) (by decide) (fun z41 h42 => ?_)
    exact a_iret Rt dX12_beats_8 rfl (⟨hG, onm.rf, (RKm.mono hR (by omega) (by omega))⟩)
