set_option maxHeartbeats 4000000 in
set_option maxRecDepth 100000 in
theorem S_X12_goes_236 {l : Launch} {D : va_G} {ids : List Nat} {ad : Nat → Nat} {ca : Nat → ClassId} {σ : HS} {x1 : Int32} (hid : ∀ i, i < 277 → i ∈ ids) (hG : GIm σ) {b : Int} (hR : RKm b σ) (hx1 : x1.toInt ≤ 60) (hp0 : (σ.1 267 21).toInt ≤ b + 200) : Kv l D ids ad ca yX12_goes cX12_goes 3 5 122 [.ref (ad 236), .int x1] σ (fun σ1 => (GIm σ1) ∧ (onm [264, 265, 267, 1046, 1051, 1052, 1053, 2021] σ σ1) ∧ (RKm b σ1) ∧ ((σ1.1 267 21).toInt ≤ (σ.1 267 21).toInt + 60)) := by
  refine Kv.of (by decide) (Nat.le_of_ble_eq_true rfl) 1 (fun Γ C Rt => ?_)
  show AW ids ad ca Γ 0 [some (.ref (ad 236)), some (.int x1), none] [] σ
  have j2 : ∀ (d2 : Nat) (σq2 : HS) (y2_2 : Int32), 60 - y2_2.toInt < d2 → GIm σq2 → onm [264, 265, 267, 1046, 1051, 1052, 1053, 2021] σ σq2 → RKm b σq2 → 0 ≤ y2_2.toInt ∧ y2_2.toInt ≤ 60 → ((σq2.1 267 21).toInt = (σ.1 267 21).toInt + y2_2.toInt) → AW ids ad ca Γ 2 [some (.ref (ad 236)), some (.int x1), some (.int y2_2)] [] σq2 := by
    intro d2
    induction d2 with
    | zero =>
      intro σq2 y2_2 hd2 hGq2 hoq2 hRq2 hx2_0 hx2_1
      exfalso
      omega
    | succ d2 ih2 =>
      intro σq2 y2_2 hd2 hGq2 hoq2 hRq2 hx2_0 hx2_1
      refine a_iload_n C dX12_goes_2 (i := 2) rfl rfl ?_
      refine a_iload_n C dX12_goes_3 (i := 1) rfl rfl ?_
      refine s_ic_ge C dX12_goes_4 (tgt := 17) rfl (fun c1 => ?_) (fun c1 => ?_)
      ·
        exact a_vret Rt dX12_goes_17 (⟨hGq2, hoq2, hRq2, (show (σq2.1 267 21).toInt ≤ (σ.1 267 21).toInt + 60 by intros; omega)⟩)
      ·
        refine a_aload_n C dX12_goes_7 (i := 0) rfl rfl ?_
        refine a_callVv C (i := 236) kd_236 (hid 236 (by decide)) ⟨_, _, rfl⟩ (by decide) (S_X12_beatGoes_236 hid hGq2 hRq2 (by omega)) mi_X12_beatGoes ml_RX12_387 rfl rfl (Nat.le_of_ble_eq_true rfl) (Nat.le_of_ble_eq_true rfl) (Nat.le_of_ble_eq_true rfl) dX12_goes_8 (fun σ3 q4 => ?_)
        obtain ⟨hG5, ho6, hR7, w8⟩ := q4
        refine s_iinc C dX12_goes_11 rfl (1) (by decide) (by omega) (by decide) rfl (fun z9 h10 => ?_)
        show AW ids ad ca Γ 14 [some (.ref (ad 236)), some (.int x1), some (.int z9)] _ _
        refine a_goto C dX12_goes_14 (tgt := 2) rfl ?_
        exact ih2 _ z9 (by omega) hG5 (onm.tr hoq2 (onm.mono ho6 (by decide))) hR7 (by omega) (show (σ3.1 267 21).toInt = (σ.1 267 21).toInt + z9.toInt by omega)
  refine s_iconst C dX12_goes_0 (0) (by decide) (fun z11 h12 => ?_)
  refine a_istore_n C dX12_goes_1 (i := 2) rfl (by decide) rfl (vs1 := [some (.ref (ad 236)), some (.int x1), some (.int z11)]) rfl ?_
  exact j2 100000 _ z11 (by omega) hG onm.rf hR (by omega) (show (σ.1 267 21).toInt = (σ.1 267 21).toInt + z11.toInt by omega)
theorem dX12_uses_0 : decode cX12_uses 0 = .ok (.aload_n 0, 1) := by decide +kernel
theorem dX12_uses_1 : decode cX12_uses 1 = .ok (.getfield 110, 3) := by decide +kernel
theorem dX12_uses_4 : decode cX12_uses 4 = .ok (.bipush 26, 2) := by decide +kernel
theorem dX12_uses_6 : decode cX12_uses 6 = .ok (.iload_n 1, 1) := by decide +kernel
theorem dX12_uses_7 : decode cX12_uses 7 = .ok (.iastore, 1) := by decide +kernel
theorem dX12_uses_8 : decode cX12_uses 8 = .ok (.aload_n 0, 1) := by decide +kernel
theorem dX12_uses_9 : decode cX12_uses 9 = .ok (.getfield 110, 3) := by decide +kernel
theorem dX12_uses_12 : decode cX12_uses 12 = .ok (.bipush 27, 2) := by decide +kernel
theorem dX12_uses_14 : decode cX12_uses 14 = .ok (.aload_n 0, 1) := by decide +kernel
theorem dX12_uses_15 : decode cX12_uses 15 = .ok (.getfield 110, 3) := by decide +kernel
theorem dX12_uses_18 : decode cX12_uses 18 = .ok (.bipush 21, 2) := by decide +kernel
theorem dX12_uses_20 : decode cX12_uses 20 = .ok (.iaload, 1) := by decide +kernel
theorem dX12_uses_21 : decode cX12_uses 21 = .ok (.iastore, 1) := by decide +kernel
theorem dX12_uses_22 : decode cX12_uses 22 = .ok (.return_, 1) := by decide +kernel
set_option maxHeartbeats 4000000 in
set_option maxRecDepth 100000 in
theorem S_X12_uses_236 {l : Launch} {D : va_G} {ids : List Nat} {ad : Nat → Nat} {ca : Nat → ClassId} {σ : HS} {x1 : Int32} (hid : ∀ i, i < 277 → i ∈ ids) (hG : GIm σ) {b : Int} (hR : RKm b σ) (hx1 : 0 ≤ x1.toInt ∧ x1.toInt ≤ 4) (hp0 : 0 ≤ x1.toInt ∧ x1.toInt ≤ 4 ∧ x1.toInt < plm σ) : Kv l D ids ad ca yX12_uses cX12_uses 2 0 0 [.ref (ad 236), .int x1] σ (fun σ1 => (GIm σ1) ∧ (onm [267, 2026, 2027] σ σ1) ∧ (RKm b σ1) ∧ ((σ1.1 267 21).toInt = (σ.1 267 21).toInt)) := by
  refine Kv.of (by decide) (Nat.le_of_ble_eq_true rfl) 0 (fun Γ C Rt => ?_)
  show AW ids ad ca Γ 0 [some (.ref (ad 236)), some (.int x1)] [] σ
  have gr0 := RKm.row hR
  have gp0 := pl_le hG
  refine a_aload_n C dX12_uses_0 (i := 0) rfl rfl ?_
  refine a_get C fl_RX12_110 (i := 236) kd_236 (hid 236 (by decide)) (v := .ref (ad 267)) rfl dX12_uses_1 ?_
  refine s_bipush C dX12_uses_4 (26) (by decide) (fun z1 h2 => ?_)
  refine a_iload_n C dX12_uses_6 (i := 1) rfl rfl ?_
  refine s_iast C (i := 267) kd_267 (hid 267 (by decide)) al_267 (by omega) (by omega) dX12_uses_7 (fun n3 h4 => ?_)
  obtain rfl : n3 = 26 := by omega
  have hG5 := wA_267 (v := x1) (j := 26) hG
  refine a_aload_n C dX12_uses_8 (i := 0) rfl rfl ?_
  refine a_get C fl_RX12_110 (i := 236) kd_236 (hid 236 (by decide)) (v := .ref (ad 267)) rfl dX12_uses_9 ?_
  refine s_bipush C dX12_uses_12 (27) (by decide) (fun z6 h7 => ?_)
  refine a_aload_n C dX12_uses_14 (i := 0) rfl rfl ?_
  refine a_get C fl_RX12_110 (i := 236) kd_236 (hid 236 (by decide)) (v := .ref (ad 267)) rfl dX12_uses_15 ?_
  refine s_bipush C dX12_uses_18 (21) (by decide) (fun z8 h9 => ?_)
  refine s_iald C (i := 267) kd_267 (hid 267 (by decide)) al_267 (by omega) (by omega) dX12_uses_20 (fun n10 h11 => ?_)
  refine s_val (fun z12 e13 => ?_)
  obtain rfl : n10 = 21 := by omega
  have g14 : z12.toInt = (σ.1 267 21).toInt := congrArg Int32.toInt (e13.symm.trans (show _ = (σ.1 267 21) from (hI_n (by decide))))
  refine s_iast C (i := 267) kd_267 (hid 267 (by decide)) al_267 (by omega) (by omega) dX12_uses_21 (fun n15 h16 => ?_)
  obtain rfl : n15 = 27 := by omega
  have hG17 := wA_267 (v := z12) (j := 27) hG5
  exact a_vret Rt dX12_uses_22 (⟨hG17, (onm.C (onm.C onm.rf (by decide)) (by decide)), (RKm.ony2 hR ((onm.C (onm.C onm.rf (by decide)) (by decide)) : onm [267, 2026, 2027] σ (hI (hI σ 267 26 x1) 267 27 z12)) (by decide) ⟨show x1.toInt < plm σ by omega, show 0 ≤ z12.toInt by omega, show z12.toInt ≤ (σ.1 267 21).toInt by omega, show (σ.1 267 21).toInt ≤ b + 300 by omega⟩), (show ((hI (hI σ 267 26 x1) 267 27 z12).1 267 21).toInt = (σ.1 267 21).toInt by have e21 := congrArg Int32.toInt (show ((hI (hI σ 267 26 x1) 267 27 z12).1 267 21) = (σ.1 267 21) from (show _ = (σ.1 267 21) from ((hI_n (by decide)).trans (hI_n (by decide))))); intros; omega)⟩)
set_option maxHeartbeats 4000000 in
set_option maxRecDepth 100000 in
theorem S_X12_copies_236 {l : Launch} {D : va_G} {ids : List Nat} {ad : Nat → Nat} {ca : Nat → ClassId} {σ : HS} (hid : ∀ i, i < 277 → i ∈ ids) (hG : GIm σ) {b : Int} (hR : RKm b σ) : Kv l D ids ad ca yX12_copies cX12_copies 2 0 0 [.ref (ad 236)] σ (fun σ1 => (GIm σ1) ∧ (onm [267, 1049, 1050, 2021, 2026, 2027] σ σ1) ∧ (RKm b σ1) ∧ ((σ1.1 267 21).toInt ≤ b)) := by
  refine Kv.of (by decide) (Nat.le_of_ble_eq_true rfl) 1 (fun Γ C Rt => ?_)
  show AW ids ad ca Γ 0 [some (.ref (ad 236)), none] [] σ
  have j2 : ∀ (d2 : Nat) (σq2 : HS) (y2_1 : Int32), 31 - y2_1.toInt < d2 → GIm σq2 → onm [267, 1049, 1050, 2021, 2026, 2027] σ σq2 → 0 ≤ y2_1.toInt ∧ y2_1.toInt ≤ 31 → (∀ q : Nat, (q : Int) < y2_1.toInt → σq2.1 267 (0 + q) = σ.1 266 (0 + q)) → AW ids ad ca Γ 2 [some (.ref (ad 236)), some (.int y2_1)] [] σq2 := by
    intro d2
    induction d2 with
    | zero =>
      intro σq2 y2_1 hd2 hGq2 hoq2 hx2_0 hx2_1
      exfalso
      omega
    | succ d2 ih2 =>
      intro σq2 y2_1 hd2 hGq2 hoq2 hx2_0 hx2_1
      refine a_iload_n C dX12_copies_2 (i := 1) rfl rfl ?_
      refine s_bipush C dX12_copies_3 (29) (by decide) (fun z1 h2 => ?_)
      refine s_ic_ge C dX12_copies_5 (tgt := 26) rfl (fun c3 => ?_) (fun c3 => ?_)
      ·
        refine a_aload_n C dX12_copies_26 (i := 0) rfl rfl ?_
        refine a_aload_n C dX12_copies_27 (i := 0) rfl rfl ?_
        refine a_get C fl_RX12_67 (i := 236) kd_236 (hid 236 (by decide)) (v := .ref (ad 253)) rfl dX12_copies_28 ?_
        refine a_aload_n C dX12_copies_31 (i := 0) rfl rfl ?_
        have g4 := bF_236_18 hGq2
        have g5 : (σq2.1 236 18).toInt = (σ.1 236 18).toInt := congrArg Int32.toInt (hoq2.1 236 18 (by decide))
        refine a_get C fl_RX12_221 (i := 236) kd_236 (hid 236 (by decide)) (v := .int (σq2.1 236 18)) rfl dX12_copies_32 ?_
        refine s_iald C (i := 253) kd_253 (hid 253 (by decide)) al_253 (by omega) (by omega) dX12_copies_35 (fun n6 h7 => ?_)
        refine s_val (fun z8 e9 => ?_)
        refine a_put C fp_RX12_305 (i := 236) kd_236 (hid 236 (by decide)) rfl rfl dX12_copies_36 ?_
        have hG10 := wF_236_49 (v := z8) hGq2
        refine a_aload_n C dX12_copies_39 (i := 0) rfl rfl ?_
        refine s_iconst C dX12_copies_40 (0) (by decide) (fun z11 h12 => ?_)
        refine a_put C fp_RX12_308 (i := 236) kd_236 (hid 236 (by decide)) (nar_z (by omega)).1 (nar_z (by omega)).2 dX12_copies_41 ?_
        have hG13 := wF_236_50 (v := z11) hG10
        exact a_vret Rt dX12_copies_44 (⟨hG13, (onm.F (onm.F hoq2 (by decide)) (by decide)), (RKm.ony2 hR ((onm.F (onm.F hoq2 (by decide)) (by decide)) : onm [267, 1049, 1050, 2021, 2026, 2027] σ (hI (hI σq2 236 49 z8) 236 50 z11)) (by decide) ((hR.nw.mono (by omega)).eq ((show σq2.1 267 (0 + 21) = σ.1 266 (0 + 21) from hx2_1 21 (by omega))) ((show σq2.1 267 (0 + 26) = σ.1 266 (0 + 26) from hx2_1 26 (by omega))) ((show σq2.1 267 (0 + 27) = σ.1 266 (0 + 27) from hx2_1 27 (by omega))))), (by have e := congrArg Int32.toInt (show σq2.1 267 (0 + 21) = σ.1 266 (0 + 21) from hx2_1 21 (by omega)); have q := hR.now; show (σq2.1 267 (0 + 21)).toInt ≤ b; rw [e]; exact q.2.2.2.1)⟩)
      ·
        refine a_aload_n C dX12_copies_8 (i := 0) rfl rfl ?_
        refine a_get C fl_RX12_110 (i := 236) kd_236 (hid 236 (by decide)) (v := .ref (ad 267)) rfl dX12_copies_9 ?_
        refine a_iload_n C dX12_copies_12 (i := 1) rfl rfl ?_
        refine a_aload_n C dX12_copies_13 (i := 0) rfl rfl ?_
        refine a_get C fl_RX12_107 (i := 236) kd_236 (hid 236 (by decide)) (v := .ref (ad 266)) rfl dX12_copies_14 ?_
        refine a_iload_n C dX12_copies_17 (i := 1) rfl rfl ?_
        refine s_iald C (i := 266) kd_266 (hid 266 (by decide)) al_266 (by omega) (by omega) dX12_copies_18 (fun n14 h15 => ?_)
        refine s_val (fun z16 e17 => ?_)
        refine s_iast C (i := 267) kd_267 (hid 267 (by decide)) al_267 (by omega) (by omega) dX12_copies_19 (fun n18 h19 => ?_)
        have hG20 := wA_267 (v := z16) (j := n18) hGq2
        refine s_iinc C dX12_copies_20 rfl (1) (by decide) (by omega) (by decide) rfl (fun z21 h22 => ?_)
        show AW ids ad ca Γ 23 [some (.ref (ad 236)), some (.int z21)] _ _
        refine a_goto C dX12_copies_23 (tgt := 2) rfl ?_
        exact ih2 _ z21 (by omega) hG20 (onm.RA hoq2 (by decide)) (by omega) (cp_step (i := 267) (a := 0) (n := n18) (n1 := y2_1.toInt.toNat) (k := y2_1) (f := fun q => σ.1 266 (0 + q)) hx2_1 (by omega) (by omega) (by omega) (show σ.1 266 (0 + y2_1.toInt.toNat) = _ from by rw [show 0 + y2_1.toInt.toNat = n14 by omega]; exact ((congrFun (hoq2.a (i := 266) (by decide)) n14).symm.trans e17)))
  refine s_iconst C dX12_copies_0 (0) (by decide) (fun z23 h24 => ?_)
  refine a_istore_n C dX12_copies_1 (i := 1) rfl (by decide) rfl (vs1 := [some (.ref (ad 236)), some (.int z23)]) rfl ?_
  exact j2 100000 _ z23 (by omega) hG onm.rf (by omega) (fun q hq => absurd hq (by omega))
set_option maxHeartbeats 4000000 in
set_option maxRecDepth 100000 in
theorem S_X12_copiesStill_236 {l : Launch} {D : va_G} {ids : List Nat} {ad : Nat → Nat} {ca : Nat → ClassId} {σ : HS} (hid : ∀ i, i < 277 → i ∈ ids) (hG : GIm σ) {b : Int} (hR : RKm b σ) : Kv l D ids ad ca yX12_copiesStill cX12_copiesStill 1 1 21 [.ref (ad 236)] σ (fun σ1 => (GIm σ1) ∧ (onm [267, 1049, 1050, 2021, 2026, 2027] σ σ1) ∧ (RKm b σ1) ∧ ((σ1.1 267 21).toInt ≤ b)) := by
  refine Kv.of (by decide) (Nat.le_of_ble_eq_true rfl) 0 (fun Γ C Rt => ?_)
  show AW ids ad ca Γ 0 [some (.ref (ad 236))] [] σ
  refine a_aload_n C dX12_copiesStill_0 (i := 0) rfl rfl ?_
  refine a_callVv C (i := 236) kd_236 (hid 236 (by decide)) ⟨_, _, rfl⟩ (by decide) (S_X12_copies_236 hid hG hR) mi_X12_copies ml_RX12_311 rfl rfl (Nat.le_of_ble_eq_true rfl) (Nat.le_of_ble_eq_true rfl) (Nat.le_of_ble_eq_true rfl) dX12_copiesStill_1 (fun σ2 q3 => ?_)
  obtain ⟨hG4, ho5, hR6, w7⟩ := q3
  refine a_aload_n C dX12_copiesStill_4 (i := 0) rfl rfl ?_
  refine s_iconst C dX12_copiesStill_5 (1) (by decide) (fun z8 h9 => ?_)
  refine a_put C fp_RX12_308 (i := 236) kd_236 (hid 236 (by decide)) (nar_z (by omega)).1 (nar_z (by omega)).2 dX12_copiesStill_6 ?_
  have hG10 := wF_236_50 (v := z8) hG4
  have hR11 := RKm.ony (σ1 := hI _ 236 50 z8) hR6 (onm.F (L := [1050]) onm.rf (by decide)) (by decide)
  exact a_vret Rt dX12_copiesStill_9 (⟨hG10, (onm.F (onm.tr onm.rf (onm.mono ho5 (by decide))) (by decide)), hR11, (show (σ2.1 267 21).toInt ≤ b by intros; omega)⟩)
set_option maxHeartbeats 4000000 in
set_option maxRecDepth 100000 in
theorem S_X12_inHand_236 {l : Launch} {D : va_G} {ids : List Nat} {ad : Nat → Nat} {ca : Nat → ClassId} {σ : HS} {x1 : Int32} (hid : ∀ i, i < 277 → i ∈ ids) (hG : GIm σ) {b : Int} (hR : RKm b σ) : Ki l D ids ad ca yX12_inHand cX12_inHand 2 .int 6 144 [.ref (ad 236), .int x1] σ (fun r σ1 => (GIm σ1) ∧ (onm [264, 265, 267, 1046, 1049, 1050, 1051, 1052, 1053, 2021, 2026, 2027] σ σ1) ∧ (RKm b σ1)) := by
  refine Ki.of (by decide) (Nat.le_of_ble_eq_true rfl) 0 (fun Γ C Rt => ?_)
  show AW ids ad ca Γ 0 [some (.ref (ad 236)), some (.int x1)] [] σ
  refine a_iload_n C dX12_inHand_0 (i := 1) rfl rfl ?_
  refine a_callSi C (S_X12_isLong (x1 := x1) hid hG) ms_X12_isLong ml_RX12_402 rfl rfl (Nat.le_of_ble_eq_true rfl) (Nat.le_of_ble_eq_true rfl) (Nat.le_of_ble_eq_true rfl) dX12_inHand_1 (fun z1 σ2 q3 => ?_)
  obtain ⟨w4, w5, w6⟩ := q3
  rw [w4]
  refine s_if_ne C dX12_inHand_4 (tgt := 9) rfl (fun c7 => ?_) (fun c7 => ?_)
  ·
    refine a_aload_n C dX12_inHand_9 (i := 0) rfl rfl ?_
    refine a_callVv C (i := 236) kd_236 (hid 236 (by decide)) ⟨_, _, rfl⟩ (by decide) (S_X12_copiesStill_236 hid hG hR) mi_X12_copiesStill ml_RX12_429 rfl rfl (Nat.le_of_ble_eq_true rfl) (Nat.le_of_ble_eq_true rfl) (Nat.le_of_ble_eq_true rfl) dX12_inHand_10 (fun σ9 q10 => ?_)
    obtain ⟨hG11, ho12, hR13, w14⟩ := q10
    refine a_aload_n C dX12_inHand_13 (i := 0) rfl rfl ?_
    refine a_iload_n C dX12_inHand_14 (i := 1) rfl rfl ?_
    refine a_callVv C (i := 236) kd_236 (hid 236 (by decide)) ⟨_, _, rfl⟩ (by decide) (S_X12_goes_236 (x1 := x1) hid hG11 hR13 (by omega) (by omega)) mi_X12_goes ml_RX12_405 rfl rfl (Nat.le_of_ble_eq_true rfl) (Nat.le_of_ble_eq_true rfl) (Nat.le_of_ble_eq_true rfl) dX12_inHand_15 (fun σ16 q17 => ?_)
    obtain ⟨hG18, ho19, hR20, w21⟩ := q17
    refine a_aload_n C dX12_inHand_18 (i := 0) rfl rfl ?_
    refine a_callVi C (i := 236) kd_236 (hid 236 (by decide)) ⟨_, _, rfl⟩ (by decide) (S_X12_catchesNow_236 hid hG18) mi_X12_catchesNow ml_RX12_378 rfl rfl (Nat.le_of_ble_eq_true rfl) (Nat.le_of_ble_eq_true rfl) (Nat.le_of_ble_eq_true rfl) dX12_inHand_19 (fun z22 σ23 q24 => ?_)
    obtain ⟨w25, w26⟩ := q24
    rw [w25]
    exact a_iret Rt dX12_inHand_22 rfl (⟨hG18, (onm.tr (onm.tr onm.rf (onm.mono ho12 (by decide))) (onm.mono ho19 (by decide))), hR20⟩)
  ·
    refine s_iconst C dX12_inHand_7 (-1) (by decide) (fun z27 h28 => ?_)
    exact a_iret Rt dX12_inHand_8 rfl (⟨hG, onm.rf, hR⟩)
theorem dX12_clash_23 : decode cX12_clash 23 = .ok (.iload_n 1, 1) := by decide +kernel
theorem dX12_clash_24 : decode cX12_clash 24 = .ok (.ireturn, 1) := by decide +kernel
set_option maxHeartbeats 4000000 in
set_option maxRecDepth 100000 in
theorem S_X12_clash_236 {l : Launch} {D : va_G} {ids : List Nat} {ad : Nat → Nat} {ca : Nat → ClassId} {σ : HS} (hid : ∀ i, i < 277 → i ∈ ids) (hG : GIm σ) {b : Int} (hR : RKm b σ) : Ki l D ids ad ca yX12_clash cX12_clash 2 .int 5 122 [.ref (ad 236)] σ (fun r σ1 => (GIm σ1) ∧ (onm [264, 265, 267, 1046, 1049, 1050, 1051, 1052, 1053, 2021, 2026, 2027] σ σ1) ∧ (RKm b σ1)) := by
  refine Ki.of (by decide) (Nat.le_of_ble_eq_true rfl) 1 (fun Γ C Rt => ?_)
  show AW ids ad ca Γ 0 [some (.ref (ad 236)), none] [] σ
  have j6 : ∀ (d6 : Nat) (σq6 : HS) (y6_1 : Int32), 61 - y6_1.toInt < d6 → GIm σq6 → onm [264, 265, 267, 1046, 1049, 1050, 1051, 1052, 1053, 2021, 2026, 2027] σ σq6 → RKm b σq6 → 0 ≤ y6_1.toInt ∧ y6_1.toInt ≤ 61 → ((σq6.1 267 21).toInt ≤ b + y6_1.toInt) → AW ids ad ca Γ 6 [some (.ref (ad 236)), some (.int y6_1)] [] σq6 := by
    intro d6
    induction d6 with
    | zero =>
      intro σq6 y6_1 hd6 hGq6 hoq6 hRq6 hx6_0 hx6_1
      exfalso
      omega
    | succ d6 ih6 =>
      intro σq6 y6_1 hd6 hGq6 hoq6 hRq6 hx6_0 hx6_1
      refine a_iload_n C dX12_clash_6 (i := 1) rfl rfl ?_
      refine s_bipush C dX12_clash_7 (60) (by decide) (fun z1 h2 => ?_)
      refine s_ic_gt C dX12_clash_9 (tgt := 31) rfl (fun c3 => ?_) (fun c3 => ?_)
      ·
        refine s_bipush C dX12_clash_31 (-2) (by decide) (fun z4 h5 => ?_)
        exact a_iret Rt dX12_clash_33 rfl (⟨hGq6, hoq6, hRq6⟩)
      ·
        refine a_aload_n C dX12_clash_12 (i := 0) rfl rfl ?_
        refine a_callVv C (i := 236) kd_236 (hid 236 (by decide)) ⟨_, _, rfl⟩ (by decide) (S_X12_beatGoes_236 hid hGq6 hRq6 (by omega)) mi_X12_beatGoes ml_RX12_387 rfl rfl (Nat.le_of_ble_eq_true rfl) (Nat.le_of_ble_eq_true rfl) (Nat.le_of_ble_eq_true rfl) dX12_clash_13 (fun σ7 q8 => ?_)
        obtain ⟨hG9, ho10, hR11, w12⟩ := q8
        refine a_aload_n C dX12_clash_16 (i := 0) rfl rfl ?_
        refine a_get C fl_RX12_344 (i := 236) kd_236 (hid 236 (by decide)) (v := .int (σ7.1 236 52)) rfl dX12_clash_17 ?_
        refine s_if_eq C dX12_clash_20 (tgt := 25) rfl (fun c13 => ?_) (fun c13 => ?_)
        ·
          refine s_iinc C dX12_clash_25 rfl (1) (by decide) (by omega) (by decide) rfl (fun z14 h15 => ?_)
          show AW ids ad ca Γ 28 [some (.ref (ad 236)), some (.int z14)] _ _
          refine a_goto C dX12_clash_28 (tgt := 6) rfl ?_
          exact ih6 _ z14 (by omega) hG9 (onm.tr hoq6 (onm.mono ho10 (by decide))) hR11 (by omega) (show (σ7.1 267 21).toInt ≤ b + z14.toInt by omega)
        ·
          refine a_iload_n C dX12_clash_23 (i := 1) rfl rfl ?_
          exact a_iret Rt dX12_clash_24 rfl (⟨hG9, (onm.tr hoq6 (onm.mono ho10 (by decide))), hR11⟩)
  refine a_aload_n C dX12_clash_0 (i := 0) rfl rfl ?_
  refine a_callVv C (i := 236) kd_236 (hid 236 (by decide)) ⟨_, _, rfl⟩ (by decide) (S_X12_copiesStill_236 hid hG hR) mi_X12_copiesStill ml_RX12_429 rfl rfl (Nat.le_of_ble_eq_true rfl) (Nat.le_of_ble_eq_true rfl) (Nat.le_of_ble_eq_true rfl) dX12_clash_1 (fun σ17 q18 => ?_)
  obtain ⟨hG19, ho20, hR21, w22⟩ := q18
  refine s_iconst C dX12_clash_4 (0) (by decide) (fun z23 h24 => ?_)
  refine a_istore_n C dX12_clash_5 (i := 1) rfl (by decide) rfl (vs1 := [some (.ref (ad 236)), some (.int z23)]) rfl ?_
  exact j6 100000 _ z23 (by omega) hG19 (onm.tr onm.rf (onm.mono ho20 (by decide))) hR21 (by omega) (show (σ17.1 267 21).toInt ≤ b + z23.toInt by omega)
theorem dX12_hasRoom_0 : decode cX12_hasRoom 0 = .ok (.aload_n 0, 1) := by decide +kernel
theorem dX12_hasRoom_1 : decode cX12_hasRoom 1 = .ok (.invokevirtual 429, 3) := by decide +kernel
theorem dX12_hasRoom_4 : decode cX12_hasRoom 4 = .ok (.aload_n 0, 1) := by decide +kernel
theorem dX12_hasRoom_5 : decode cX12_hasRoom 5 = .ok (.getfield 110, 3) := by decide +kernel
theorem dX12_hasRoom_8 : decode cX12_hasRoom 8 = .ok (.iload_n 1, 1) := by decide +kernel
theorem dX12_hasRoom_9 : decode cX12_hasRoom 9 = .ok (.iconst 0, 1) := by decide +kernel
theorem dX12_hasRoom_10 : decode cX12_hasRoom 10 = .ok (.iastore, 1) := by decide +kernel
theorem dX12_hasRoom_11 : decode cX12_hasRoom 11 = .ok (.aload_n 0, 1) := by decide +kernel
theorem dX12_hasRoom_12 : decode cX12_hasRoom 12 = .ok (.getfield 110, 3) := by decide +kernel
theorem dX12_hasRoom_15 : decode cX12_hasRoom 15 = .ok (.bipush 7, 2) := by decide +kernel
theorem dX12_hasRoom_17 : decode cX12_hasRoom 17 = .ok (.iload_n 1, 1) := by decide +kernel
theorem dX12_hasRoom_18 : decode cX12_hasRoom 18 = .ok (.iadd, 1) := by decide +kernel
theorem dX12_hasRoom_19 : decode cX12_hasRoom 19 = .ok (.iload_n 2, 1) := by decide +kernel
theorem dX12_hasRoom_20 : decode cX12_hasRoom 20 = .ok (.iastore, 1) := by decide +kernel
theorem dX12_hasRoom_21 : decode cX12_hasRoom 21 = .ok (.iconst 0, 1) := by decide +kernel
theorem dX12_hasRoom_22 : decode cX12_hasRoom 22 = .ok (.istore_n 3, 1) := by decide +kernel
theorem dX12_hasRoom_23 : decode cX12_hasRoom 23 = .ok (.iload_n 3, 1) := by decide +kernel
theorem dX12_hasRoom_24 : decode cX12_hasRoom 24 = .ok (.bipush 60, 2) := by decide +kernel
theorem dX12_hasRoom_26 : decode cX12_hasRoom 26 = .ok (.if_icmp .ge 22, 3) := by decide +kernel
theorem dX12_hasRoom_29 : decode cX12_hasRoom 29 = .ok (.aload_n 0, 1) := by decide +kernel
theorem dX12_hasRoom_30 : decode cX12_hasRoom 30 = .ok (.invokevirtual 387, 3) := by decide +kernel
theorem dX12_hasRoom_33 : decode cX12_hasRoom 33 = .ok (.aload_n 0, 1) := by decide +kernel
theorem dX12_hasRoom_34 : decode cX12_hasRoom 34 = .ok (.getfield 344, 3) := by decide +kernel
theorem dX12_hasRoom_37 : decode cX12_hasRoom 37 = .ok (.ifCond .eq 5, 3) := by decide +kernel
theorem dX12_hasRoom_40 : decode cX12_hasRoom 40 = .ok (.iconst 0, 1) := by decide +kernel
theorem dX12_hasRoom_41 : decode cX12_hasRoom 41 = .ok (.ireturn, 1) := by decide +kernel
theorem dX12_hasRoom_42 : decode cX12_hasRoom 42 = .ok (.iinc 3 1, 3) := by decide +kernel
theorem dX12_hasRoom_45 : decode cX12_hasRoom 45 = .ok (.goto (-22), 3) := by decide +kernel
theorem dX12_hasRoom_48 : decode cX12_hasRoom 48 = .ok (.iconst 1, 1) := by decide +kernel
theorem dX12_hasRoom_49 : decode cX12_hasRoom 49 = .ok (.ireturn, 1) := by decide +kernel
set_option maxHeartbeats 4000000 in
set_option maxRecDepth 100000 in
theorem S_X12_hasRoom_236 {l : Launch} {D : va_G} {ids : List Nat} {ad : Nat → Nat} {ca : Nat → ClassId} {σ : HS} {x1 : Int32} {x2 : Int32} (hid : ∀ i, i < 277 → i ∈ ids) (hG : GIm σ) {b : Int} (hR : RKm b σ) (hx1 : 0 ≤ x1.toInt ∧ x1.toInt ≤ 6) : Ki l D ids ad ca yX12_hasRoom cX12_hasRoom 4 .boolean 5 122 [.ref (ad 236), .int x1, .int x2] σ (fun r σ1 => (GIm σ1) ∧ (onm [264, 265, 267, 1046, 1049, 1050, 1051, 1052, 1053, 2021, 2026, 2027] σ σ1) ∧ (RKm b σ1) ∧ (0 ≤ r.toInt ∧ r.toInt ≤ 1)) := by
  refine Ki.of (by decide) (Nat.le_of_ble_eq_true rfl) 1 (fun Γ C Rt => ?_)
  show AW ids ad ca Γ 0 [some (.ref (ad 236)), some (.int x1), some (.int x2), none] [] σ
  have j23 : ∀ (d23 : Nat) (σq23 : HS) (y23_3 : Int32), 60 - y23_3.toInt < d23 → GIm σq23 → onm [264, 265, 267, 1046, 1049, 1050, 1051, 1052, 1053, 2021, 2026, 2027] σ σq23 → RKm b σq23 → 0 ≤ y23_3.toInt ∧ y23_3.toInt ≤ 60 → ((σq23.1 267 21).toInt ≤ b + y23_3.toInt) → AW ids ad ca Γ 23 [some (.ref (ad 236)), none, none, some (.int y23_3)] [] σq23 := by
    intro d23
    induction d23 with
    | zero =>
      intro σq23 y23_3 hd23 hGq23 hoq23 hRq23 hx23_0 hx23_1
      exfalso
      omega
    | succ d23 ih23 =>
      intro σq23 y23_3 hd23 hGq23 hoq23 hRq23 hx23_0 hx23_1
      refine a_iload_n C dX12_hasRoom_23 (i := 3) rfl rfl ?_
      refine s_bipush C dX12_hasRoom_24 (60) (by decide) (fun z1 h2 => ?_)
      refine s_ic_ge C dX12_hasRoom_26 (tgt := 48) rfl (fun c3 => ?_) (fun c3 => ?_)
      ·
        refine s_iconst C dX12_hasRoom_48 (1) (by decide) (fun z4 h5 => ?_)
        exact a_iret Rt dX12_hasRoom_49 (nar_z (by omega)).1 (⟨hGq23, hoq23, hRq23, (show 0 ≤ z4.toInt ∧ z4.toInt ≤ 1 by intros; omega)⟩)
      ·
        refine a_aload_n C dX12_hasRoom_29 (i := 0) rfl rfl ?_
        refine a_callVv C (i := 236) kd_236 (hid 236 (by decide)) ⟨_, _, rfl⟩ (by decide) (S_X12_beatGoes_236 hid hGq23 hRq23 (by omega)) mi_X12_beatGoes ml_RX12_387 rfl rfl (Nat.le_of_ble_eq_true rfl) (Nat.le_of_ble_eq_true rfl) (Nat.le_of_ble_eq_true rfl) dX12_hasRoom_30 (fun σ7 q8 => ?_)
        obtain ⟨hG9, ho10, hR11, w12⟩ := q8
        refine a_aload_n C dX12_hasRoom_33 (i := 0) rfl rfl ?_
        refine a_get C fl_RX12_344 (i := 236) kd_236 (hid 236 (by decide)) (v := .int (σ7.1 236 52)) rfl dX12_hasRoom_34 ?_
        refine s_if_eq C dX12_hasRoom_37 (tgt := 42) rfl (fun c13 => ?_) (fun c13 => ?_)
        ·
          refine s_iinc C dX12_hasRoom_42 rfl (1) (by decide) (by omega) (by decide) rfl (fun z14 h15 => ?_)
          show AW ids ad ca Γ 45 [some (.ref (ad 236)), none, none, some (.int z14)] _ _
          refine a_goto C dX12_hasRoom_45 (tgt := 23) rfl ?_
          exact ih23 _ z14 (by omega) hG9 (onm.tr hoq23 (onm.mono ho10 (by decide))) hR11 (by omega) (show (σ7.1 267 21).toInt ≤ b + z14.toInt by omega)
        ·
          refine s_iconst C dX12_hasRoom_40 (0) (by decide) (fun z16 h17 => ?_)
          exact a_iret Rt dX12_hasRoom_41 (nar_z (by omega)).1 (⟨hG9, (onm.tr hoq23 (onm.mono ho10 (by decide))), hR11, (show 0 ≤ z16.toInt ∧ z16.toInt ≤ 1 by intros; omega)⟩)
  refine a_aload_n C dX12_hasRoom_0 (i := 0) rfl rfl ?_
  refine a_callVv C (i := 236) kd_236 (hid 236 (by decide)) ⟨_, _, rfl⟩ (by decide) (S_X12_copiesStill_236 hid hG hR) mi_X12_copiesStill ml_RX12_429 rfl rfl (Nat.le_of_ble_eq_true rfl) (Nat.le_of_ble_eq_true rfl) (Nat.le_of_ble_eq_true rfl) dX12_hasRoom_1 (fun σ19 q20 => ?_)
  obtain ⟨hG21, ho22, hR23, w24⟩ := q20
  refine a_aload_n C dX12_hasRoom_4 (i := 0) rfl rfl ?_
  refine a_get C fl_RX12_110 (i := 236) kd_236 (hid 236 (by decide)) (v := .ref (ad 267)) rfl dX12_hasRoom_5 ?_
  refine a_iload_n C dX12_hasRoom_8 (i := 1) rfl rfl ?_
  refine s_iconst C dX12_hasRoom_9 (0) (by decide) (fun z25 h26 => ?_)
  refine s_iast C (i := 267) kd_267 (hid 267 (by decide)) al_267 (by omega) (by omega) dX12_hasRoom_10 (fun n27 h28 => ?_)
  have hG29 := wA_267 (v := z25) (j := n27) hG21
  have hR30 := RKm.ony (σ1 := hI _ 267 n27 z25) hR23 (onm.R (L := [267]) onm.rf (by decide) (by omega)) (by decide)
  refine a_aload_n C dX12_hasRoom_11 (i := 0) rfl rfl ?_
  refine a_get C fl_RX12_110 (i := 236) kd_236 (hid 236 (by decide)) (v := .ref (ad 267)) rfl dX12_hasRoom_12 ?_
  refine s_bipush C dX12_hasRoom_15 (7) (by decide) (fun z31 h32 => ?_)
  refine a_iload_n C dX12_hasRoom_17 (i := 1) rfl rfl ?_
  refine s_iadd C dX12_hasRoom_18 (by omega) (fun z33 h34 => ?_)
  refine a_iload_n C dX12_hasRoom_19 (i := 2) rfl rfl ?_
  refine s_iast C (i := 267) kd_267 (hid 267 (by decide)) al_267 (by omega) (by omega) dX12_hasRoom_20 (fun n35 h36 => ?_)
  have hG37 := wA_267 (v := x2) (j := n35) hG29
  have hR38 := RKm.ony (σ1 := hI _ 267 n35 x2) hR30 (onm.R (L := [267]) onm.rf (by decide) (by omega)) (by decide)
  refine s_iconst C dX12_hasRoom_21 (0) (by decide) (fun z39 h40 => ?_)
  refine a_istore_n C dX12_hasRoom_22 (i := 3) rfl (by decide) rfl (vs1 := [some (.ref (ad 236)), some (.int x1), some (.int x2), some (.int z39)]) rfl ?_
  refine AW.sub (vs' := [some (.ref (ad 236)), none, none, some (.int z39)]) (lsub_of (by simp [lsubB])) ?_
  exact j23 100000 _ z39 (by omega) hG37 (onm.R (onm.R (onm.tr onm.rf (onm.mono ho22 (by decide))) (by decide) (by omega)) (by decide) (by omega)) hR38 (by omega) (show ((hI (hI σ19 267 n27 z25) 267 n35 x2).1 267 21).toInt ≤ b + z39.toInt by have e21 := congrArg Int32.toInt (show ((hI (hI σ19 267 n27 z25) 267 n35 x2).1 267 21) = (σ19.1 267 21) from (show _ = (σ19.1 267 21) from ((hI_n (by omega)).trans (hI_n (by omega))))); omega)
theorem dX12_room_8 : decode cX12_room 8 = .ok (.aload_n 0, 1) := by decide +kernel
theorem dX12_room_9 : decode cX12_room 9 = .ok (.getfield 107, 3) := by decide +kernel
theorem dX12_room_12 : decode cX12_room 12 = .ok (.iload_n 1, 1) := by decide +kernel
theorem dX12_room_13 : decode cX12_room 13 = .ok (.iaload, 1) := by decide +kernel
theorem dX12_room_14 : decode cX12_room 14 = .ok (.ifCond .ne 5, 3) := by decide +kernel
theorem dX12_room_19 : decode cX12_room 19 = .ok (.iconst 0, 1) := by decide +kernel
theorem dX12_room_20 : decode cX12_room 20 = .ok (.istore_n 2, 1) := by decide +kernel
theorem dX12_room_21 : decode cX12_room 21 = .ok (.iload_n 2, 1) := by decide +kernel
theorem dX12_room_22 : decode cX12_room 22 = .ok (.bipush 10, 2) := by decide +kernel
theorem dX12_room_24 : decode cX12_room 24 = .ok (.if_icmp .ge 20, 3) := by decide +kernel
theorem dX12_room_27 : decode cX12_room 27 = .ok (.aload_n 0, 1) := by decide +kernel
theorem dX12_room_28 : decode cX12_room 28 = .ok (.iload_n 1, 1) := by decide +kernel
theorem dX12_room_29 : decode cX12_room 29 = .ok (.iload_n 2, 1) := by decide +kernel
theorem dX12_room_30 : decode cX12_room 30 = .ok (.invokevirtual 451, 3) := by decide +kernel
theorem dX12_room_33 : decode cX12_room 33 = .ok (.ifCond .eq 5, 3) := by decide +kernel
theorem dX12_room_36 : decode cX12_room 36 = .ok (.iload_n 2, 1) := by decide +kernel
theorem dX12_room_37 : decode cX12_room 37 = .ok (.ireturn, 1) := by decide +kernel
theorem dX12_room_38 : decode cX12_room 38 = .ok (.iinc 2 1, 3) := by decide +kernel
theorem dX12_room_41 : decode cX12_room 41 = .ok (.goto (-20), 3) := by decide +kernel
theorem dX12_room_44 : decode cX12_room 44 = .ok (.bipush (-2), 2) := by decide +kernel
theorem dX12_room_46 : decode cX12_room 46 = .ok (.ireturn, 1) := by decide +kernel
set_option maxHeartbeats 4000000 in
set_option maxRecDepth 100000 in
theorem S_X12_room_236 {l : Launch} {D : va_G} {ids : List Nat} {ad : Nat → Nat} {ca : Nat → ClassId} {σ : HS} {x1 : Int32} (hid : ∀ i, i < 277 → i ∈ ids) (hG : GIm σ) {b : Int} (hR : RKm b σ) : Ki l D ids ad ca yX12_room cX12_room 3 .int 6 145 [.ref (ad 236), .int x1] σ (fun r σ1 => (GIm σ1) ∧ (onm [264, 265, 267, 1046, 1049, 1050, 1051, 1052, 1053, 2021, 2026, 2027] σ σ1) ∧ (RKm b σ1)) := by
  refine Ki.of (by decide) (Nat.le_of_ble_eq_true rfl) 1 (fun Γ C Rt => ?_)
  show AW ids ad ca Γ 0 [some (.ref (ad 236)), some (.int x1), none] [] σ
  have j21 : ∀ (d21 : Nat) (σq21 : HS) (y21_2 : Int32), 10 - y21_2.toInt < d21 → GIm σq21 → onm [264, 265, 267, 1046, 1049, 1050, 1051, 1052, 1053, 2021, 2026, 2027] σ σq21 → RKm b σq21 → 0 ≤ y21_2.toInt ∧ y21_2.toInt ≤ 10 → 0 ≤ x1.toInt ∧ x1.toInt ≤ 6 → AW ids ad ca Γ 21 [some (.ref (ad 236)), some (.int x1), some (.int y21_2)] [] σq21 := by
    intro d21
    induction d21 with
    | zero =>
      intro σq21 y21_2 hd21 hGq21 hoq21 hRq21 hx21_0 hx21_1
      exfalso
      omega
    | succ d21 ih21 =>
      intro σq21 y21_2 hd21 hGq21 hoq21 hRq21 hx21_0 hx21_1
      refine a_iload_n C dX12_room_21 (i := 2) rfl rfl ?_
      refine s_bipush C dX12_room_22 (10) (by decide) (fun z1 h2 => ?_)
      refine s_ic_ge C dX12_room_24 (tgt := 44) rfl (fun c3 => ?_) (fun c3 => ?_)
      ·
        refine s_bipush C dX12_room_44 (-2) (by decide) (fun z4 h5 => ?_)
        exact a_iret Rt dX12_room_46 rfl (⟨hGq21, hoq21, hRq21⟩)
      ·
        refine a_aload_n C dX12_room_27 (i := 0) rfl rfl ?_
        refine a_iload_n C dX12_room_28 (i := 1) rfl rfl ?_
        refine a_iload_n C dX12_room_29 (i := 2) rfl rfl ?_
        refine a_callVi C (i := 236) kd_236 (hid 236 (by decide)) ⟨_, _, rfl⟩ (by decide) (S_X12_hasRoom_236 (x1 := x1) (x2 := y21_2) hid hGq21 hRq21 (by omega)) mi_X12_hasRoom ml_RX12_451 rfl rfl (Nat.le_of_ble_eq_true rfl) (Nat.le_of_ble_eq_true rfl) (Nat.le_of_ble_eq_true rfl) dX12_room_30 (fun z6 σ7 q8 => ?_)
        obtain ⟨hG9, ho10, hR11, w12⟩ := q8
        refine s_if_eq C dX12_room_33 (tgt := 38) rfl (fun c13 => ?_) (fun c13 => ?_)
        ·
          refine s_iinc C dX12_room_38 rfl (1) (by decide) (by omega) (by decide) rfl (fun z14 h15 => ?_)
          show AW ids ad ca Γ 41 [some (.ref (ad 236)), some (.int x1), some (.int z14)] _ _
          refine a_goto C dX12_room_41 (tgt := 21) rfl ?_
          exact ih21 _ z14 (by omega) hG9 (onm.tr hoq21 (onm.mono ho10 (by decide))) hR11 (by omega) (by omega)
        ·
          refine a_iload_n C dX12_room_36 (i := 2) rfl rfl ?_
          exact a_iret Rt dX12_room_37 rfl (⟨hG9, (onm.tr hoq21 (onm.mono ho10 (by decide))), hR11⟩)
  refine a_aload_n C dX12_room_0 (i := 0) rfl rfl ?_
  refine a_iload_n C dX12_room_1 (i := 1) rfl rfl ?_
  refine a_callVi C (i := 236) kd_236 (hid 236 (by decide)) ⟨_, _, rfl⟩ (by decide) (S_X12_isThing_236 (x1 := x1) hid hG) mi_X12_isThing ml_RX12_390 rfl rfl (Nat.le_of_ble_eq_true rfl) (Nat.le_of_ble_eq_true rfl) (Nat.le_of_ble_eq_true rfl) dX12_room_2 (fun z16 σ17 q18 => ?_)
  obtain ⟨w19, w20, w21⟩ := q18
  rw [w19]
  refine s_if_eq C dX12_room_5 (tgt := 17) rfl (fun c22 => ?_) (fun c22 => ?_)
  ·
    refine s_iconst C dX12_room_17 (-1) (by decide) (fun z23 h24 => ?_)
    exact a_iret Rt dX12_room_18 rfl (⟨hG, onm.rf, hR⟩)
  ·
    refine a_aload_n C dX12_room_8 (i := 0) rfl rfl ?_
    refine a_get C fl_RX12_107 (i := 236) kd_236 (hid 236 (by decide)) (v := .ref (ad 266)) rfl dX12_room_9 ?_
    refine a_iload_n C dX12_room_12 (i := 1) rfl rfl ?_
    refine s_iald C (i := 266) kd_266 (hid 266 (by decide)) al_266 (by omega) (by omega) dX12_room_13 (fun n25 h26 => ?_)
    refine s_val (fun z27 e28 => ?_)
    refine s_if_ne C dX12_room_14 (tgt := 19) rfl (fun c29 => ?_) (fun c29 => ?_)
    ·
      refine s_iconst C dX12_room_19 (0) (by decide) (fun z30 h31 => ?_)
      refine a_istore_n C dX12_room_20 (i := 2) rfl (by decide) rfl (vs1 := [some (.ref (ad 236)), some (.int x1), some (.int z30)]) rfl ?_
      exact j21 100000 _ z30 (by omega) hG onm.rf hR (by omega) (by omega)
    ·
      refine s_iconst C dX12_room_17 (-1) (by decide) (fun z32 h33 => ?_)
      exact a_iret Rt dX12_room_18 rfl (⟨hG, onm.rf, hR⟩)
theorem dX12_handover_24 : decode cX12_handover 24 = .ok (.aload_n 0, 1) := by decide +kernel
theorem dX12_handover_25 : decode cX12_handover 25 = .ok (.invokevirtual 387, 3) := by decide +kernel
theorem dX12_handover_28 : decode cX12_handover 28 = .ok (.aload_n 0, 1) := by decide +kernel
theorem dX12_handover_29 : decode cX12_handover 29 = .ok (.getfield 341, 3) := by decide +kernel
theorem dX12_handover_32 : decode cX12_handover 32 = .ok (.ifCond .lt 14, 3) := by decide +kernel
theorem dX12_handover_35 : decode cX12_handover 35 = .ok (.iload_n 1, 1) := by decide +kernel
theorem dX12_handover_36 : decode cX12_handover 36 = .ok (.iconst 1, 1) := by decide +kernel
theorem dX12_handover_37 : decode cX12_handover 37 = .ok (.aload_n 0, 1) := by decide +kernel
theorem dX12_handover_38 : decode cX12_handover 38 = .ok (.getfield 341, 3) := by decide +kernel
theorem dX12_handover_41 : decode cX12_handover 41 = .ok (.ishl, 1) := by decide +kernel
theorem dX12_handover_42 : decode cX12_handover 42 = .ok (.iconst (-1), 1) := by decide +kernel
theorem dX12_handover_43 : decode cX12_handover 43 = .ok (.ixor, 1) := by decide +kernel
theorem dX12_handover_44 : decode cX12_handover 44 = .ok (.iand, 1) := by decide +kernel
theorem dX12_handover_45 : decode cX12_handover 45 = .ok (.istore_n 1, 1) := by decide +kernel
theorem dX12_handover_46 : decode cX12_handover 46 = .ok (.iload_n 1, 1) := by decide +kernel
theorem dX12_handover_47 : decode cX12_handover 47 = .ok (.aload_n 0, 1) := by decide +kernel
theorem dX12_handover_48 : decode cX12_handover 48 = .ok (.iconst 2, 1) := by decide +kernel
theorem dX12_handover_49 : decode cX12_handover 49 = .ok (.invokevirtual 350, 3) := by decide +kernel
theorem dX12_handover_52 : decode cX12_handover 52 = .ok (.iand, 1) := by decide +kernel
theorem dX12_handover_53 : decode cX12_handover 53 = .ok (.ifCond .eq 6, 3) := by decide +kernel
theorem dX12_handover_56 : decode cX12_handover 56 = .ok (.bipush (-2), 2) := by decide +kernel
theorem dX12_handover_58 : decode cX12_handover 58 = .ok (.ireturn, 1) := by decide +kernel
theorem dX12_handover_59 : decode cX12_handover 59 = .ok (.iinc 2 1, 3) := by decide +kernel
theorem dX12_handover_62 : decode cX12_handover 62 = .ok (.goto (-50), 3) := by decide +kernel
theorem dX12_handover_65 : decode cX12_handover 65 = .ok (.bipush (-2), 2) := by decide +kernel
theorem dX12_handover_67 : decode cX12_handover 67 = .ok (.ireturn, 1) := by decide +kernel
set_option maxHeartbeats 4000000 in
set_option maxRecDepth 100000 in
theorem S_X12_handover_236 {l : Launch} {D : va_G} {ids : List Nat} {ad : Nat → Nat} {ca : Nat → ClassId} {σ : HS} (hid : ∀ i, i < 277 → i ∈ ids) (hG : GIm σ) {b : Int} (hR : RKm b σ) : Ki l D ids ad ca yX12_handover cX12_handover 3 .int 5 122 [.ref (ad 236)] σ (fun r σ1 => (GIm σ1) ∧ (onm [264, 265, 267, 1046, 1049, 1050, 1051, 1052, 1053, 2021, 2026, 2027] σ σ1) ∧ (RKm b σ1)) := by
  refine Ki.of (by decide) (Nat.le_of_ble_eq_true rfl) 2 (fun Γ C Rt => ?_)
  show AW ids ad ca Γ 0 [some (.ref (ad 236)), none, none] [] σ
  have j12 : ∀ (d12 : Nat) (σq12 : HS) (y12_1 : Int32) (y12_2 : Int32), 61 - y12_2.toInt < d12 → GIm σq12 → onm [264, 265, 267, 1046, 1049, 1050, 1051, 1052, 1053, 2021, 2026, 2027] σ σq12 → RKm b σq12 → 0 ≤ y12_2.toInt ∧ y12_2.toInt ≤ 61 → ((σq12.1 267 21).toInt ≤ b + y12_2.toInt) → AW ids ad ca Γ 12 [some (.ref (ad 236)), some (.int y12_1), some (.int y12_2)] [] σq12 := by
    intro d12
    induction d12 with
    | zero =>
      intro σq12 y12_1 y12_2 hd12 hGq12 hoq12 hRq12 hx12_0 hx12_1
      exfalso
      omega
    | succ d12 ih12 =>
      intro σq12 y12_1 y12_2 hd12 hGq12 hoq12 hRq12 hx12_0 hx12_1
      have j46 : ∀ (σq46 : HS) (y46_1 : Int32), GIm σq46 → onm [264, 265, 267, 1046, 1049, 1050, 1051, 1052, 1053, 2021, 2026, 2027] σ σq46 → RKm b σq46 → 0 ≤ y12_2.toInt ∧ y12_2.toInt ≤ 60 → ((σq46.1 267 21).toInt ≤ b + y12_2.toInt + 1) → AW ids ad ca Γ 46 [some (.ref (ad 236)), some (.int y46_1), some (.int y12_2)] [] σq46 := by
        intro σq46 y46_1 hGq46 hoq46 hRq46 hx46_0 hx46_1
        refine a_iload_n C dX12_handover_46 (i := 1) rfl rfl ?_
        refine a_aload_n C dX12_handover_47 (i := 0) rfl rfl ?_
        refine s_iconst C dX12_handover_48 (2) (by decide) (fun z1 h2 => ?_)
        refine a_callVi C (i := 236) kd_236 (hid 236 (by decide)) ⟨_, _, rfl⟩ (by decide) (S_X12_thingsSo_236 (x1 := z1) hid hGq46) mi_X12_thingsSo ml_RX12_350 rfl rfl (Nat.le_of_ble_eq_true rfl) (Nat.le_of_ble_eq_true rfl) (Nat.le_of_ble_eq_true rfl) dX12_handover_49 (fun z3 σ4 q5 => ?_)
        rw [q5]
        refine s_iandU C dX12_handover_52 (fun z6 => ?_)
        refine s_if_eq C dX12_handover_53 (tgt := 59) rfl (fun c8 => ?_) (fun c8 => ?_)
        ·
          refine s_iinc C dX12_handover_59 rfl (1) (by decide) (by omega) (by decide) rfl (fun z9 h10 => ?_)
          show AW ids ad ca Γ 62 [some (.ref (ad 236)), some (.int y46_1), some (.int z9)] _ _
          refine a_goto C dX12_handover_62 (tgt := 12) rfl ?_
          exact ih12 _ y46_1 z9 (by omega) hGq46 hoq46 hRq46 (by omega) (show (σq46.1 267 21).toInt ≤ b + z9.toInt by omega)
        ·
          refine s_bipush C dX12_handover_56 (-2) (by decide) (fun z11 h12 => ?_)
          exact a_iret Rt dX12_handover_58 rfl (⟨hGq46, hoq46, hRq46⟩)
      refine a_iload_n C dX12_handover_12 (i := 2) rfl rfl ?_
      refine s_bipush C dX12_handover_13 (60) (by decide) (fun z13 h14 => ?_)
      refine s_ic_gt C dX12_handover_15 (tgt := 65) rfl (fun c15 => ?_) (fun c15 => ?_)
      ·
        refine s_bipush C dX12_handover_65 (-2) (by decide) (fun z16 h17 => ?_)
        exact a_iret Rt dX12_handover_67 rfl (⟨hGq12, hoq12, hRq12⟩)
      ·
        refine a_iload_n C dX12_handover_18 (i := 1) rfl rfl ?_
        refine s_if_ne C dX12_handover_19 (tgt := 24) rfl (fun c18 => ?_) (fun c18 => ?_)
        ·
          refine a_aload_n C dX12_handover_24 (i := 0) rfl rfl ?_
          refine a_callVv C (i := 236) kd_236 (hid 236 (by decide)) ⟨_, _, rfl⟩ (by decide) (S_X12_beatGoes_236 hid hGq12 hRq12 (by omega)) mi_X12_beatGoes ml_RX12_387 rfl rfl (Nat.le_of_ble_eq_true rfl) (Nat.le_of_ble_eq_true rfl) (Nat.le_of_ble_eq_true rfl) dX12_handover_25 (fun σ20 q21 => ?_)
          obtain ⟨hG22, ho23, hR24, w25⟩ := q21
          refine a_aload_n C dX12_handover_28 (i := 0) rfl rfl ?_
          have g26 := bF_236_51 hG22
          refine a_get C fl_RX12_341 (i := 236) kd_236 (hid 236 (by decide)) (v := .int (σ20.1 236 51)) rfl dX12_handover_29 ?_
          refine s_if_lt C dX12_handover_32 (tgt := 46) rfl (fun c27 => ?_) (fun c27 => ?_)
          ·
            exact j46 _ y12_1 hG22 (onm.tr hoq12 (onm.mono ho23 (by decide))) hR24 (by omega) (show (σ20.1 267 21).toInt ≤ b + y12_2.toInt + 1 by omega)
          ·
            refine a_iload_n C dX12_handover_35 (i := 1) rfl rfl ?_
            refine s_iconst C dX12_handover_36 (1) (by decide) (fun z28 h29 => ?_)
            refine a_aload_n C dX12_handover_37 (i := 0) rfl rfl ?_
            refine a_get C fl_RX12_341 (i := 236) kd_236 (hid 236 (by decide)) (v := .int (σ20.1 236 51)) rfl dX12_handover_38 ?_
            refine s_ishlU C dX12_handover_41 (fun z30 => ?_)
            refine s_iconst C dX12_handover_42 (-1) (by decide) (fun z32 h33 => ?_)
            refine s_ixorU C dX12_handover_43 (fun z34 => ?_)
            refine s_iandU C dX12_handover_44 (fun z36 => ?_)
            refine a_istore_n C dX12_handover_45 (i := 1) rfl (by decide) rfl (vs1 := [some (.ref (ad 236)), some (.int z36), some (.int y12_2)]) rfl ?_
            exact j46 _ z36 hG22 (onm.tr hoq12 (onm.mono ho23 (by decide))) hR24 (by omega) (show (σ20.1 267 21).toInt ≤ b + y12_2.toInt + 1 by omega)
        ·
          refine a_iload_n C dX12_handover_22 (i := 2) rfl rfl ?_
          exact a_iret Rt dX12_handover_23 rfl (⟨hGq12, hoq12, hRq12⟩)
  refine a_aload_n C dX12_handover_0 (i := 0) rfl rfl ?_
  refine a_callVv C (i := 236) kd_236 (hid 236 (by decide)) ⟨_, _, rfl⟩ (by decide) (S_X12_copiesStill_236 hid hG hR) mi_X12_copiesStill ml_RX12_429 rfl rfl (Nat.le_of_ble_eq_true rfl) (Nat.le_of_ble_eq_true rfl) (Nat.le_of_ble_eq_true rfl) dX12_handover_1 (fun σ39 q40 => ?_)
  obtain ⟨hG41, ho42, hR43, w44⟩ := q40
  refine a_aload_n C dX12_handover_4 (i := 0) rfl rfl ?_
  refine s_iconst C dX12_handover_5 (0) (by decide) (fun z45 h46 => ?_)
  refine a_callVi C (i := 236) kd_236 (hid 236 (by decide)) ⟨_, _, rfl⟩ (by decide) (S_X12_thingsSo_236 (x1 := z45) hid hG41) mi_X12_thingsSo ml_RX12_350 rfl rfl (Nat.le_of_ble_eq_true rfl) (Nat.le_of_ble_eq_true rfl) (Nat.le_of_ble_eq_true rfl) dX12_handover_6 (fun z47 σ48 q49 => ?_)
  rw [q49]
  refine a_istore_n C dX12_handover_9 (i := 1) rfl (by decide) rfl (vs1 := [some (.ref (ad 236)), some (.int z47), none]) rfl ?_
  refine s_iconst C dX12_handover_10 (0) (by decide) (fun z50 h51 => ?_)
  refine a_istore_n C dX12_handover_11 (i := 2) rfl (by decide) rfl (vs1 := [some (.ref (ad 236)), some (.int z47), some (.int z50)]) rfl ?_
  exact j12 100000 _ z47 z50 (by omega) hG41 (onm.tr onm.rf (onm.mono ho42 (by decide))) hR43 (by omega) (show (σ39.1 267 21).toInt ≤ b + z50.toInt by omega)
set_option maxHeartbeats 4000000 in
set_option maxRecDepth 100000 in
theorem S_X12_limit_236 {l : Launch} {D : va_G} {ids : List Nat} {ad : Nat → Nat} {ca : Nat → ClassId} {σ : HS} {x1 : Int32} (hid : ∀ i, i < 277 → i ∈ ids) (hG : GIm σ) {b : Int} (hR : RKm b σ) : Ki l D ids ad ca yX12_limit cX12_limit 3 .int 5 122 [.ref (ad 236), .int x1] σ (fun r σ1 => (GIm σ1) ∧ (onm [264, 265, 267, 1046, 1049, 1050, 1051, 1052, 1053, 2021, 2026, 2027] σ σ1) ∧ (RKm b σ1)) := by
  refine Ki.of (by decide) (Nat.le_of_ble_eq_true rfl) 1 (fun Γ C Rt => ?_)
  show AW ids ad ca Γ 0 [some (.ref (ad 236)), some (.int x1), none] [] σ
  have j19 : ∀ (d19 : Nat) (σq19 : HS) (y19_2 : Int32), 201 - y19_2.toInt < d19 → GIm σq19 → onm [264, 265, 267, 1046, 1049, 1050, 1051, 1052, 1053, 2021, 2026, 2027] σ σq19 → RKm b σq19 → 0 ≤ y19_2.toInt ∧ y19_2.toInt ≤ 201 → ((σq19.1 267 21).toInt ≤ b + y19_2.toInt) → AW ids ad ca Γ 19 [some (.ref (ad 236)), some (.int x1), some (.int y19_2)] [] σq19 := by
    intro d19
    induction d19 with
    | zero =>
      intro σq19 y19_2 hd19 hGq19 hoq19 hRq19 hx19_0 hx19_1
      exfalso
      omega
    | succ d19 ih19 =>
      intro σq19 y19_2 hd19 hGq19 hoq19 hRq19 hx19_0 hx19_1
      refine a_iload_n C dX12_limit_19 (i := 2) rfl rfl ?_
      refine s_sipush C dX12_limit_20 (200) (by decide) (fun z1 h2 => ?_)
      refine s_ic_gt C dX12_limit_23 (tgt := 49) rfl (fun c3 => ?_) (fun c3 => ?_)
      ·
        refine s_bipush C dX12_limit_49 (-2) (by decide) (fun z4 h5 => ?_)
        exact a_iret Rt dX12_limit_51 rfl (⟨hGq19, hoq19, hRq19⟩)
      ·
        refine a_aload_n C dX12_limit_26 (i := 0) rfl rfl ?_
        refine a_get C fl_RX12_110 (i := 236) kd_236 (hid 236 (by decide)) (v := .ref (ad 267)) rfl dX12_limit_27 ?_
        refine s_bipush C dX12_limit_30 (22) (by decide) (fun z6 h7 => ?_)
        refine s_iald C (i := 267) kd_267 (hid 267 (by decide)) al_267 (by omega) (by omega) dX12_limit_32 (fun n8 h9 => ?_)
        refine s_val (fun z10 e11 => ?_)
        refine a_iload_n C dX12_limit_33 (i := 1) rfl rfl ?_
        refine s_ic_lt C dX12_limit_34 (tgt := 39) rfl (fun c12 => ?_) (fun c12 => ?_)
        ·
          refine a_aload_n C dX12_limit_39 (i := 0) rfl rfl ?_
          refine a_callVv C (i := 236) kd_236 (hid 236 (by decide)) ⟨_, _, rfl⟩ (by decide) (S_X12_beatGoes_236 hid hGq19 hRq19 (by omega)) mi_X12_beatGoes ml_RX12_387 rfl rfl (Nat.le_of_ble_eq_true rfl) (Nat.le_of_ble_eq_true rfl) (Nat.le_of_ble_eq_true rfl) dX12_limit_40 (fun σ14 q15 => ?_)
          obtain ⟨hG16, ho17, hR18, w19⟩ := q15
          refine s_iinc C dX12_limit_43 rfl (1) (by decide) (by omega) (by decide) rfl (fun z20 h21 => ?_)
          show AW ids ad ca Γ 46 [some (.ref (ad 236)), some (.int x1), some (.int z20)] _ _
          refine a_goto C dX12_limit_46 (tgt := 19) rfl ?_
          exact ih19 _ z20 (by omega) hG16 (onm.tr hoq19 (onm.mono ho17 (by decide))) hR18 (by omega) (show (σ14.1 267 21).toInt ≤ b + z20.toInt by omega)
        ·
          refine a_iload_n C dX12_limit_37 (i := 2) rfl rfl ?_
          exact a_iret Rt dX12_limit_38 rfl (⟨hGq19, hoq19, hRq19⟩)
  refine a_iload_n C dX12_limit_0 (i := 1) rfl rfl ?_
  refine s_iconst C dX12_limit_1 (0) (by decide) (fun z22 h23 => ?_)
  refine s_sipush C dX12_limit_2 (999) (by decide) (fun z24 h25 => ?_)
  refine a_callSi C (S_X12_in (x1 := x1) (x2 := z22) (x3 := z24) hid hG) ms_X12_in ml_RX12_301 rfl rfl (Nat.le_of_ble_eq_true rfl) (Nat.le_of_ble_eq_true rfl) (Nat.le_of_ble_eq_true rfl) dX12_limit_5 (fun z26 σ27 q28 => ?_)
  obtain ⟨w29, w30, w31⟩ := q28
  rw [w29]
  refine s_if_ne C dX12_limit_8 (tgt := 13) rfl (fun c32 => ?_) (fun c32 => ?_)
  ·
    refine a_aload_n C dX12_limit_13 (i := 0) rfl rfl ?_
    refine a_callVv C (i := 236) kd_236 (hid 236 (by decide)) ⟨_, _, rfl⟩ (by decide) (S_X12_copiesStill_236 hid hG hR) mi_X12_copiesStill ml_RX12_429 rfl rfl (Nat.le_of_ble_eq_true rfl) (Nat.le_of_ble_eq_true rfl) (Nat.le_of_ble_eq_true rfl) dX12_limit_14 (fun σ34 q35 => ?_)
    obtain ⟨hG36, ho37, hR38, w39⟩ := q35
    refine s_iconst C dX12_limit_17 (0) (by decide) (fun z40 h41 => ?_)
    refine a_istore_n C dX12_limit_18 (i := 2) rfl (by decide) rfl (vs1 := [some (.ref (ad 236)), some (.int x1), some (.int z40)]) rfl ?_
    exact j19 100000 _ z40 (by omega) hG36 (onm.tr onm.rf (onm.mono ho37 (by decide))) hR38 (by omega) (show (σ34.1 267 21).toInt ≤ b + z40.toInt by omega)
  ·
    refine s_iconst C dX12_limit_11 (-1) (by decide) (fun z42 h43 => ?_)
    exact a_iret Rt dX12_limit_12 rfl (⟨hG, onm.rf, hR⟩)
theorem dX12_busiest_61 : decode cX12_busiest 61 = .ok (.aload_n 0, 1) := by decide +kernel
theorem dX12_busiest_62 : decode cX12_busiest 62 = .ok (.getfield 122, 3) := by decide +kernel
theorem dX12_busiest_65 : decode cX12_busiest 65 = .ok (.aload_n 0, 1) := by decide +kernel
theorem dX12_busiest_66 : decode cX12_busiest 66 = .ok (.getfield 341, 3) := by decide +kernel
theorem dX12_busiest_69 : decode cX12_busiest 69 = .ok (.dup2, 1) := by decide +kernel
theorem dX12_busiest_70 : decode cX12_busiest 70 = .ok (.iaload, 1) := by decide +kernel
theorem dX12_busiest_71 : decode cX12_busiest 71 = .ok (.iconst 1, 1) := by decide +kernel
theorem dX12_busiest_72 : decode cX12_busiest 72 = .ok (.iadd, 1) := by decide +kernel
theorem dX12_busiest_73 : decode cX12_busiest 73 = .ok (.iastore, 1) := by decide +kernel
theorem dX12_busiest_108 : decode cX12_busiest 108 = .ok (.iload 4, 2) := by decide +kernel
theorem dX12_busiest_110 : decode cX12_busiest 110 = .ok (.istore_n 3, 1) := by decide +kernel
theorem dX12_busiest_131 : decode cX12_busiest 131 = .ok (.iload_n 2, 1) := by decide +kernel
theorem dX12_busiest_132 : decode cX12_busiest 132 = .ok (.ifCond .ne 7, 3) := by decide +kernel
theorem dX12_busiest_135 : decode cX12_busiest 135 = .ok (.iload_n 3, 1) := by decide +kernel
theorem dX12_busiest_136 : decode cX12_busiest 136 = .ok (.goto 9, 3) := by decide +kernel
theorem dX12_busiest_139 : decode cX12_busiest 139 = .ok (.aload_n 0, 1) := by decide +kernel
theorem dX12_busiest_140 : decode cX12_busiest 140 = .ok (.getfield 122, 3) := by decide +kernel
theorem dX12_busiest_143 : decode cX12_busiest 143 = .ok (.iload_n 3, 1) := by decide +kernel
theorem dX12_busiest_144 : decode cX12_busiest 144 = .ok (.iaload, 1) := by decide +kernel
set_option maxHeartbeats 4000000 in
set_option maxRecDepth 100000 in
theorem S_X12_busiest_236 {l : Launch} {D : va_G} {ids : List Nat} {ad : Nat → Nat} {ca : Nat → ClassId} {σ : HS} {x1 : Int32} {x2 : Int32} (hid : ∀ i, i < 277 → i ∈ ids) (hG : GIm σ) {b : Int} (hR : RKm b σ) : Ki l D ids ad ca yX12_busiest cX12_busiest 5 .int 5 122 [.ref (ad 236), .int x1, .int x2] σ (fun r σ1 => (GIm σ1) ∧ (onm [264, 265, 267, 271, 1046, 1049, 1050, 1051, 1052, 1053, 2021, 2026, 2027] σ σ1) ∧ (RKm b σ1)) := by
  refine Ki.of (by decide) (Nat.le_of_ble_eq_true rfl) 2 (fun Γ C Rt => ?_)
  show AW ids ad ca Γ 0 [some (.ref (ad 236)), some (.int x1), some (.int x2), none, none] [] σ
  have j85 : ∀ (d85 : Nat) (σq85 : HS) (y85_3 : Int32) (y85_4 : Int32), 7 - y85_4.toInt < d85 → GIm σq85 → onm [264, 265, 267, 271, 1046, 1049, 1050, 1051, 1052, 1053, 2021, 2026, 2027] σ σq85 → RKm b σq85 → 0 ≤ y85_3.toInt ∧ y85_3.toInt ≤ 6 → 1 ≤ y85_4.toInt ∧ y85_4.toInt ≤ 7 → AW ids ad ca Γ 85 [some (.ref (ad 236)), none, some (.int x2), some (.int y85_3), some (.int y85_4)] [] σq85 := by
    intro d85
    induction d85 with
    | zero =>
      intro σq85 y85_3 y85_4 hd85 hGq85 hoq85 hRq85 hx85_0 hx85_1
      exfalso
      omega
    | succ d85 ih85 =>
      intro σq85 y85_3 y85_4 hd85 hGq85 hoq85 hRq85 hx85_0 hx85_1
      have j111 : ∀ (σq111 : HS) (y111_3 : Int32), GIm σq111 → onm [264, 265, 267, 271, 1046, 1049, 1050, 1051, 1052, 1053, 2021, 2026, 2027] σ σq111 → RKm b σq111 → 0 ≤ y111_3.toInt ∧ y111_3.toInt ≤ 6 → 1 ≤ y85_4.toInt ∧ y85_4.toInt ≤ 6 → AW ids ad ca Γ 111 [some (.ref (ad 236)), none, some (.int x2), some (.int y111_3), some (.int y85_4)] [] σq111 := by
        intro σq111 y111_3 hGq111 hoq111 hRq111 hx111_0 hx111_1
        refine s_iinc C dX12_busiest_111 rfl (1) (by decide) (by omega) (by decide) rfl (fun z1 h2 => ?_)
        show AW ids ad ca Γ 114 [some (.ref (ad 236)), none, some (.int x2), some (.int y111_3), some (.int z1)] _ _
        refine a_goto C dX12_busiest_114 (tgt := 85) rfl ?_
        exact ih85 _ y111_3 z1 (by omega) hGq111 hoq111 hRq111 (by omega) (by omega)
      refine a_iload C dX12_busiest_85 rfl ?_
      refine s_bipush C dX12_busiest_87 (7) (by decide) (fun z3 h4 => ?_)
      refine s_ic_ge C dX12_busiest_89 (tgt := 117) rfl (fun c5 => ?_) (fun c5 => ?_)
      ·
        refine a_aload_n C dX12_busiest_117 (i := 0) rfl rfl ?_
        refine a_get C fl_RX12_122 (i := 236) kd_236 (hid 236 (by decide)) (v := .ref (ad 271)) rfl dX12_busiest_118 ?_
        refine a_iload_n C dX12_busiest_121 (i := 3) rfl rfl ?_
        refine s_iald C (i := 271) kd_271 (hid 271 (by decide)) al_271 (by omega) (by omega) dX12_busiest_122 (fun n6 h7 => ?_)
        refine s_val (fun z8 e9 => ?_)
        refine s_if_ne C dX12_busiest_123 (tgt := 131) rfl (fun c10 => ?_) (fun c10 => ?_)
        ·
          refine a_iload_n C dX12_busiest_131 (i := 2) rfl rfl ?_
          refine s_if_ne C dX12_busiest_132 (tgt := 139) rfl (fun c11 => ?_) (fun c11 => ?_)
          ·
            refine a_aload_n C dX12_busiest_139 (i := 0) rfl rfl ?_
            refine a_get C fl_RX12_122 (i := 236) kd_236 (hid 236 (by decide)) (v := .ref (ad 271)) rfl dX12_busiest_140 ?_
            refine a_iload_n C dX12_busiest_143 (i := 3) rfl rfl ?_
            refine s_iald C (i := 271) kd_271 (hid 271 (by decide)) al_271 (by omega) (by omega) dX12_busiest_144 (fun n12 h13 => ?_)
            refine s_val (fun z14 e15 => ?_)
            have g16 : z14.toInt = z8.toInt := congrArg Int32.toInt (e15.symm.trans ((congrArg (σq85.1 271) (show n12 = n6 by omega)).trans e9))
            exact a_iret Rt dX12_busiest_145 rfl (⟨hGq85, hoq85, hRq85⟩)
          ·
            refine a_iload_n C dX12_busiest_135 (i := 3) rfl rfl ?_
            refine a_goto C dX12_busiest_136 (tgt := 145) rfl ?_
            exact a_iret Rt dX12_busiest_145 rfl (⟨hGq85, hoq85, hRq85⟩)
        ·
          refine s_bipush C dX12_busiest_126 (-2) (by decide) (fun z17 h18 => ?_)
          refine a_goto C dX12_busiest_128 (tgt := 145) rfl ?_
          exact a_iret Rt dX12_busiest_145 rfl (⟨hGq85, hoq85, hRq85⟩)
      ·
        refine a_aload_n C dX12_busiest_92 (i := 0) rfl rfl ?_
        refine a_get C fl_RX12_122 (i := 236) kd_236 (hid 236 (by decide)) (v := .ref (ad 271)) rfl dX12_busiest_93 ?_
        refine a_iload C dX12_busiest_96 rfl ?_
        refine s_iald C (i := 271) kd_271 (hid 271 (by decide)) al_271 (by omega) (by omega) dX12_busiest_98 (fun n19 h20 => ?_)
        refine s_val (fun z21 e22 => ?_)
        refine a_aload_n C dX12_busiest_99 (i := 0) rfl rfl ?_
        refine a_get C fl_RX12_122 (i := 236) kd_236 (hid 236 (by decide)) (v := .ref (ad 271)) rfl dX12_busiest_100 ?_
        refine a_iload_n C dX12_busiest_103 (i := 3) rfl rfl ?_
        refine s_iald C (i := 271) kd_271 (hid 271 (by decide)) al_271 (by omega) (by omega) dX12_busiest_104 (fun n23 h24 => ?_)
        refine s_val (fun z25 e26 => ?_)
        refine s_ic_le C dX12_busiest_105 (tgt := 111) rfl (fun c27 => ?_) (fun c27 => ?_)
        ·
          exact j111 _ y85_3 hGq85 hoq85 hRq85 (by omega) (by omega)
        ·
          refine a_iload C dX12_busiest_108 rfl ?_
          refine a_istore_n C dX12_busiest_110 (i := 3) rfl (by decide) rfl (vs1 := [some (.ref (ad 236)), none, some (.int x2), some (.int y85_4), some (.int y85_4)]) rfl ?_
          exact j111 _ y85_4 hGq85 hoq85 hRq85 (by omega) (by omega)
  have j45 : ∀ (d45 : Nat) (σq45 : HS) (y45_3 : Int32), 60 - y45_3.toInt < d45 → GIm σq45 → onm [264, 265, 267, 271, 1046, 1049, 1050, 1051, 1052, 1053, 2021, 2026, 2027] σ σq45 → RKm b σq45 → 0 ≤ y45_3.toInt ∧ y45_3.toInt ≤ 60 → 1 ≤ x1.toInt ∧ x1.toInt ≤ 60 → ((σq45.1 267 21).toInt ≤ b + y45_3.toInt) → AW ids ad ca Γ 45 [some (.ref (ad 236)), some (.int x1), some (.int x2), some (.int y45_3), none] [] σq45 := by
    intro d45
    induction d45 with
    | zero =>
      intro σq45 y45_3 hd45 hGq45 hoq45 hRq45 hx45_0 hx45_1 hx45_2
      exfalso
      omega
    | succ d45 ih45 =>
      intro σq45 y45_3 hd45 hGq45 hoq45 hRq45 hx45_0 hx45_1 hx45_2
      have j74 : ∀ (σq74 : HS), GIm σq74 → onm [264, 265, 267, 271, 1046, 1049, 1050, 1051, 1052, 1053, 2021, 2026, 2027] σ σq74 → RKm b σq74 → 0 ≤ y45_3.toInt ∧ y45_3.toInt ≤ 59 → ((σq74.1 267 21).toInt ≤ b + y45_3.toInt + 1) → AW ids ad ca Γ 74 [some (.ref (ad 236)), some (.int x1), some (.int x2), some (.int y45_3), none] [] σq74 := by
        intro σq74 hGq74 hoq74 hRq74 hx74_0 hx74_1
        refine s_iinc C dX12_busiest_74 rfl (1) (by decide) (by omega) (by decide) rfl (fun z28 h29 => ?_)
        show AW ids ad ca Γ 77 [some (.ref (ad 236)), some (.int x1), some (.int x2), some (.int z28), none] _ _
        refine a_goto C dX12_busiest_77 (tgt := 45) rfl ?_
        exact ih45 _ z28 (by omega) hGq74 hoq74 hRq74 (by omega) (by omega) (show (σq74.1 267 21).toInt ≤ b + z28.toInt by omega)
      refine a_iload_n C dX12_busiest_45 (i := 3) rfl rfl ?_
      refine a_iload_n C dX12_busiest_46 (i := 1) rfl rfl ?_
      refine s_ic_ge C dX12_busiest_47 (tgt := 80) rfl (fun c30 => ?_) (fun c30 => ?_)
      ·
        refine s_iconst C dX12_busiest_80 (0) (by decide) (fun z31 h32 => ?_)
        refine a_istore_n C dX12_busiest_81 (i := 3) rfl (by decide) rfl (vs1 := [some (.ref (ad 236)), some (.int x1), some (.int x2), some (.int z31), none]) rfl ?_
        refine s_iconst C dX12_busiest_82 (1) (by decide) (fun z33 h34 => ?_)
        refine a_istore C dX12_busiest_83 (by decide) rfl (vs1 := [some (.ref (ad 236)), some (.int x1), some (.int x2), some (.int z31), some (.int z33)]) rfl ?_
        refine AW.sub (vs' := [some (.ref (ad 236)), none, some (.int x2), some (.int z31), some (.int z33)]) (lsub_of (by simp [lsubB])) ?_
        exact j85 100000 _ z31 z33 (by omega) hGq45 hoq45 hRq45 (by omega) (by omega)
      ·
        refine a_aload_n C dX12_busiest_50 (i := 0) rfl rfl ?_
        refine a_callVv C (i := 236) kd_236 (hid 236 (by decide)) ⟨_, _, rfl⟩ (by decide) (S_X12_beatGoes_236 hid hGq45 hRq45 (by omega)) mi_X12_beatGoes ml_RX12_387 rfl rfl (Nat.le_of_ble_eq_true rfl) (Nat.le_of_ble_eq_true rfl) (Nat.le_of_ble_eq_true rfl) dX12_busiest_51 (fun σ36 q37 => ?_)
        obtain ⟨hG38, ho39, hR40, w41⟩ := q37
        refine a_aload_n C dX12_busiest_54 (i := 0) rfl rfl ?_
        have g42 := bF_236_51 hG38
        refine a_get C fl_RX12_341 (i := 236) kd_236 (hid 236 (by decide)) (v := .int (σ36.1 236 51)) rfl dX12_busiest_55 ?_
        refine s_if_lt C dX12_busiest_58 (tgt := 74) rfl (fun c43 => ?_) (fun c43 => ?_)
        ·
          exact j74 _ hG38 (onm.tr hoq45 (onm.mono ho39 (by decide))) hR40 (by omega) (show (σ36.1 267 21).toInt ≤ b + y45_3.toInt + 1 by omega)
        ·
          refine a_aload_n C dX12_busiest_61 (i := 0) rfl rfl ?_
          refine a_get C fl_RX12_122 (i := 236) kd_236 (hid 236 (by decide)) (v := .ref (ad 271)) rfl dX12_busiest_62 ?_
          refine a_aload_n C dX12_busiest_65 (i := 0) rfl rfl ?_
          refine a_get C fl_RX12_341 (i := 236) kd_236 (hid 236 (by decide)) (v := .int (σ36.1 236 51)) rfl dX12_busiest_66 ?_
          refine a_dup2 C dX12_busiest_69 rfl rfl ?_
          refine s_iald C (i := 271) kd_271 (hid 271 (by decide)) al_271 (by omega) (by omega) dX12_busiest_70 (fun n44 h45 => ?_)
          refine s_val (fun z46 e47 => ?_)
          refine s_iconst C dX12_busiest_71 (1) (by decide) (fun z48 h49 => ?_)
          refine s_iaddU C dX12_busiest_72 (fun z50 => ?_)
          refine s_iast C (i := 271) kd_271 (hid 271 (by decide)) al_271 (by omega) (by omega) dX12_busiest_73 (fun n52 h53 => ?_)
          have hG54 := wA_271 (v := z50) (j := n52) hG38
          have hR55 := RKm.ony (σ1 := hI _ 271 n52 z50) hR40 (onm.I (L := [271]) onm.rf (by decide)) (by decide)
          exact j74 _ hG54 (onm.I (onm.tr hoq45 (onm.mono ho39 (by decide))) (by decide)) hR55 (by omega) (show (σ36.1 267 21).toInt ≤ b + y45_3.toInt + 1 by omega)
  have j24 : ∀ (d24 : Nat) (σq24 : HS) (y24_3 : Int32), 7 - y24_3.toInt < d24 → GIm σq24 → onm [264, 265, 267, 271, 1046, 1049, 1050, 1051, 1052, 1053, 2021, 2026, 2027] σ σq24 → RKm b σq24 → 0 ≤ y24_3.toInt ∧ y24_3.toInt ≤ 7 → 1 ≤ x1.toInt ∧ x1.toInt ≤ 60 → ((σq24.1 267 21).toInt ≤ b) → AW ids ad ca Γ 24 [some (.ref (ad 236)), some (.int x1), some (.int x2), some (.int y24_3), none] [] σq24 := by
    intro d24
    induction d24 with
    | zero =>
      intro σq24 y24_3 hd24 hGq24 hoq24 hRq24 hx24_0 hx24_1 hx24_2
      exfalso
      omega
    | succ d24 ih24 =>
      intro σq24 y24_3 hd24 hGq24 hoq24 hRq24 hx24_0 hx24_1 hx24_2
      refine a_iload_n C dX12_busiest_24 (i := 3) rfl rfl ?_
      refine s_bipush C dX12_busiest_25 (7) (by decide) (fun z56 h57 => ?_)
      refine s_ic_ge C dX12_busiest_27 (tgt := 43) rfl (fun c58 => ?_) (fun c58 => ?_)
      ·
        refine s_iconst C dX12_busiest_43 (0) (by decide) (fun z59 h60 => ?_)
        refine a_istore_n C dX12_busiest_44 (i := 3) rfl (by decide) rfl (vs1 := [some (.ref (ad 236)), some (.int x1), some (.int x2), some (.int z59), none]) rfl ?_
        exact j45 100000 _ z59 (by omega) hGq24 hoq24 hRq24 (by omega) (by omega) (show (σq24.1 267 21).toInt ≤ b + z59.toInt by omega)
      ·
        refine a_aload_n C dX12_busiest_30 (i := 0) rfl rfl ?_
        refine a_get C fl_RX12_122 (i := 236) kd_236 (hid 236 (by decide)) (v := .ref (ad 271)) rfl dX12_busiest_31 ?_
        refine a_iload_n C dX12_busiest_34 (i := 3) rfl rfl ?_
        refine s_iconst C dX12_busiest_35 (0) (by decide) (fun z61 h62 => ?_)
        refine s_iast C (i := 271) kd_271 (hid 271 (by decide)) al_271 (by omega) (by omega) dX12_busiest_36 (fun n63 h64 => ?_)
        have hG65 := wA_271 (v := z61) (j := n63) hGq24
        have hR66 := RKm.ony (σ1 := hI _ 271 n63 z61) hRq24 (onm.I (L := [271]) onm.rf (by decide)) (by decide)
        refine s_iinc C dX12_busiest_37 rfl (1) (by decide) (by omega) (by decide) rfl (fun z67 h68 => ?_)
        show AW ids ad ca Γ 40 [some (.ref (ad 236)), some (.int x1), some (.int x2), some (.int z67), none] _ _
        refine a_goto C dX12_busiest_40 (tgt := 24) rfl ?_
        exact ih24 _ z67 (by omega) hG65 (onm.I hoq24 (by decide)) hR66 (by omega) (by omega) (show (σq24.1 267 21).toInt ≤ b by omega)
  refine a_iload_n C dX12_busiest_0 (i := 1) rfl rfl ?_
  refine a_callSi C (S_X12_isSome (x1 := x1) hid hG) ms_X12_isSome ml_RX12_454 rfl rfl (Nat.le_of_ble_eq_true rfl) (Nat.le_of_ble_eq_true rfl) (Nat.le_of_ble_eq_true rfl) dX12_busiest_1 (fun z69 σ70 q71 => ?_)
  obtain ⟨w72, w73, w74⟩ := q71
  rw [w72]
  refine s_if_eq C dX12_busiest_4 (tgt := 16) rfl (fun c75 => ?_) (fun c75 => ?_)
  ·
    refine s_iconst C dX12_busiest_16 (-1) (by decide) (fun z76 h77 => ?_)
    exact a_iret Rt dX12_busiest_17 rfl (⟨hG, onm.rf, hR⟩)
  ·
    refine a_iload_n C dX12_busiest_7 (i := 2) rfl rfl ?_
    refine s_iconst C dX12_busiest_8 (0) (by decide) (fun z78 h79 => ?_)
    refine s_iconst C dX12_busiest_9 (1) (by decide) (fun z80 h81 => ?_)
    refine a_callSi C (S_X12_in (x1 := x2) (x2 := z78) (x3 := z80) hid hG) ms_X12_in ml_RX12_301 rfl rfl (Nat.le_of_ble_eq_true rfl) (Nat.le_of_ble_eq_true rfl) (Nat.le_of_ble_eq_true rfl) dX12_busiest_10 (fun z82 σ83 q84 => ?_)
    obtain ⟨w85, w86, w87⟩ := q84
    rw [w85]
    refine s_if_ne C dX12_busiest_13 (tgt := 18) rfl (fun c88 => ?_) (fun c88 => ?_)
    ·
      refine a_aload_n C dX12_busiest_18 (i := 0) rfl rfl ?_
      refine a_callVv C (i := 236) kd_236 (hid 236 (by decide)) ⟨_, _, rfl⟩ (by decide) (S_X12_copiesStill_236 hid hG hR) mi_X12_copiesStill ml_RX12_429 rfl rfl (Nat.le_of_ble_eq_true rfl) (Nat.le_of_ble_eq_true rfl) (Nat.le_of_ble_eq_true rfl) dX12_busiest_19 (fun σ90 q91 => ?_)
      obtain ⟨hG92, ho93, hR94, w95⟩ := q91
      refine s_iconst C dX12_busiest_22 (0) (by decide) (fun z96 h97 => ?_)
      refine a_istore_n C dX12_busiest_23 (i := 3) rfl (by decide) rfl (vs1 := [some (.ref (ad 236)), some (.int x1), some (.int x2), some (.int z96), none]) rfl ?_
      exact j24 100000 _ z96 (by omega) hG92 (onm.tr onm.rf (onm.mono ho93 (by decide))) hR94 (by omega) (by omega) (show (σ90.1 267 21).toInt ≤ b by omega)
    ·
      refine s_iconst C dX12_busiest_16 (-1) (by decide) (fun z98 h99 => ?_)
      exact a_iret Rt dX12_busiest_17 rfl (⟨hG, onm.rf, hR⟩)
