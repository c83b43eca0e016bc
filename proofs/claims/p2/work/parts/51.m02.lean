theorem dX12_bounded_0 : decode cX12_bounded 0 = .ok (.aload_n 0, 1) := by decide +kernel
theorem dX12_bounded_1 : decode cX12_bounded 1 = .ok (.getfield 191, 3) := by decide +kernel
theorem dX12_bounded_4 : decode cX12_bounded 4 = .ok (.ifCond .gt 11, 3) := by decide +kernel
theorem dX12_bounded_7 : decode cX12_bounded 7 = .ok (.aload_n 0, 1) := by decide +kernel
theorem dX12_bounded_8 : decode cX12_bounded 8 = .ok (.iconst 2, 1) := by decide +kernel
theorem dX12_bounded_9 : decode cX12_bounded 9 = .ok (.invokevirtual 209, 3) := by decide +kernel
theorem dX12_bounded_12 : decode cX12_bounded 12 = .ok (.ifCond .ne 10, 3) := by decide +kernel
theorem dX12_bounded_15 : decode cX12_bounded 15 = .ok (.aload_n 0, 1) := by decide +kernel
theorem dX12_bounded_16 : decode cX12_bounded 16 = .ok (.iconst 1, 1) := by decide +kernel
theorem dX12_bounded_17 : decode cX12_bounded 17 = .ok (.invokevirtual 206, 3) := by decide +kernel
theorem dX12_bounded_20 : decode cX12_bounded 20 = .ok (.iload_n 1, 1) := by decide +kernel
theorem dX12_bounded_21 : decode cX12_bounded 21 = .ok (.ireturn, 1) := by decide +kernel
theorem dX12_bounded_22 : decode cX12_bounded 22 = .ok (.aload_n 0, 1) := by decide +kernel
theorem dX12_bounded_23 : decode cX12_bounded 23 = .ok (.getfield 27, 3) := by decide +kernel
theorem dX12_bounded_26 : decode cX12_bounded 26 = .ok (.aload_n 0, 1) := by decide +kernel
theorem dX12_bounded_27 : decode cX12_bounded 27 = .ok (.getfield 194, 3) := by decide +kernel
theorem dX12_bounded_30 : decode cX12_bounded 30 = .ok (.iaload, 1) := by decide +kernel
theorem dX12_bounded_31 : decode cX12_bounded 31 = .ok (.istore_n 3, 1) := by decide +kernel
theorem dX12_bounded_32 : decode cX12_bounded 32 = .ok (.iload_n 3, 1) := by decide +kernel
theorem dX12_bounded_33 : decode cX12_bounded 33 = .ok (.iload_n 1, 1) := by decide +kernel
theorem dX12_bounded_34 : decode cX12_bounded 34 = .ok (.if_icmp .lt 8, 3) := by decide +kernel
theorem dX12_bounded_37 : decode cX12_bounded 37 = .ok (.iload_n 3, 1) := by decide +kernel
theorem dX12_bounded_38 : decode cX12_bounded 38 = .ok (.iload_n 2, 1) := by decide +kernel
theorem dX12_bounded_39 : decode cX12_bounded 39 = .ok (.if_icmp .le 12, 3) := by decide +kernel
theorem dX12_bounded_42 : decode cX12_bounded 42 = .ok (.aload_n 0, 1) := by decide +kernel
theorem dX12_bounded_43 : decode cX12_bounded 43 = .ok (.iconst 5, 1) := by decide +kernel
theorem dX12_bounded_44 : decode cX12_bounded 44 = .ok (.aload_n 0, 1) := by decide +kernel
theorem dX12_bounded_45 : decode cX12_bounded 45 = .ok (.getfield 194, 3) := by decide +kernel
theorem dX12_bounded_48 : decode cX12_bounded 48 = .ok (.invokevirtual 268, 3) := by decide +kernel
theorem dX12_bounded_51 : decode cX12_bounded 51 = .ok (.aload_n 0, 1) := by decide +kernel
theorem dX12_bounded_52 : decode cX12_bounded 52 = .ok (.invokevirtual 212, 3) := by decide +kernel
theorem dX12_bounded_55 : decode cX12_bounded 55 = .ok (.iload_n 3, 1) := by decide +kernel
theorem dX12_bounded_56 : decode cX12_bounded 56 = .ok (.ireturn, 1) := by decide +kernel
set_option maxHeartbeats 4000000 in
set_option maxRecDepth 100000 in
theorem S_X12_bounded_236 {l : Launch} {D : va_G} {ids : List Nat} {ad : Nat → Nat} {ca : Nat → ClassId} {σ : HS} {x1 : Int32} {x2 : Int32} (hid : ∀ i, i < 277 → i ∈ ids) (hG : GIm σ) : Ki l D ids ad ca yX12_bounded cX12_bounded 4 .int 2 41 [.ref (ad 236), .int x1, .int x2] σ (fun r σ1 => (GIm σ1) ∧ (ony [236] σ σ1)) := by
  refine Ki.of (by decide) (Nat.le_of_ble_eq_true rfl) 1 (fun Γ C Rt => ?_)
  show AW ids ad ca Γ 0 [some (.ref (ad 236)), some (.int x1), some (.int x2), none] [] σ
  have j51 : ∀ (σq51 : HS) (y51_3 : Int32), GIm σq51 → ony [236] σ σq51 → AW ids ad ca Γ 51 [some (.ref (ad 236)), none, none, some (.int y51_3)] [] σq51 := by
    intro σq51 y51_3 hGq51 hoq51
    refine a_aload_n C dX12_bounded_51 (i := 0) rfl rfl ?_
    refine a_callVv C (i := 236) kd_236 (hid 236 (by decide)) ⟨_, _, rfl⟩ (by decide) (S_X12_goesOn_236 hid hGq51) mi_X12_goesOn ml_RX12_212 rfl rfl (Nat.le_of_ble_eq_true rfl) (Nat.le_of_ble_eq_true rfl) (Nat.le_of_ble_eq_true rfl) dX12_bounded_52 (fun σ2 q3 => ?_)
    obtain ⟨hG4, ho5⟩ := q3
    refine a_iload_n C dX12_bounded_55 (i := 3) rfl rfl ?_
    exact a_iret Rt dX12_bounded_56 rfl (⟨hG4, (ony.tr hoq51 (ony.mono ho5 (by decide)))⟩)
  have j42 : ∀ (σq42 : HS) (y42_3 : Int32), GIm σq42 → ony [236] σ σq42 → AW ids ad ca Γ 42 [some (.ref (ad 236)), none, none, some (.int y42_3)] [] σq42 := by
    intro σq42 y42_3 hGq42 hoq42
    refine a_aload_n C dX12_bounded_42 (i := 0) rfl rfl ?_
    refine s_iconst C dX12_bounded_43 (5) (by decide) (fun z7 h8 => ?_)
    refine a_aload_n C dX12_bounded_44 (i := 0) rfl rfl ?_
    have g9 := bF_236_11 hGq42
    refine a_get C fl_RX12_194 (i := 236) kd_236 (hid 236 (by decide)) (v := .int (σq42.1 236 11)) rfl dX12_bounded_45 ?_
    refine a_callVv C (i := 236) kd_236 (hid 236 (by decide)) ⟨_, _, rfl⟩ (by decide) (S_X12_wrong_236 (x1 := z7) (x2 := (σq42.1 236 11)) hid hGq42 (by omega)) mi_X12_wrong ml_RX12_268 rfl rfl (Nat.le_of_ble_eq_true rfl) (Nat.le_of_ble_eq_true rfl) (Nat.le_of_ble_eq_true rfl) dX12_bounded_48 (fun σ11 q12 => ?_)
    obtain ⟨hG13, ho14⟩ := q12
    exact j51 _ y42_3 hG13 (ony.tr hoq42 (ony.mono ho14 (by decide)))
  have j15 : ∀ (σq15 : HS), GIm σq15 → ony [236] σ σq15 → AW ids ad ca Γ 15 [some (.ref (ad 236)), some (.int x1), none, none] [] σq15 := by
    intro σq15 hGq15 hoq15
    refine a_aload_n C dX12_bounded_15 (i := 0) rfl rfl ?_
    refine s_iconst C dX12_bounded_16 (1) (by decide) (fun z16 h17 => ?_)
    refine a_callVv C (i := 236) kd_236 (hid 236 (by decide)) ⟨_, _, rfl⟩ (by decide) (S_X12_fail_236 (x1 := z16) hid hGq15) mi_X12_fail ml_RX12_206 rfl rfl (Nat.le_of_ble_eq_true rfl) (Nat.le_of_ble_eq_true rfl) (Nat.le_of_ble_eq_true rfl) dX12_bounded_17 (fun σ19 q20 => ?_)
    obtain ⟨hG21, ho22⟩ := q20
    refine a_iload_n C dX12_bounded_20 (i := 1) rfl rfl ?_
    exact a_iret Rt dX12_bounded_21 rfl (⟨hG21, (ony.tr hoq15 (ony.mono ho22 (by decide)))⟩)
  refine a_aload_n C dX12_bounded_0 (i := 0) rfl rfl ?_
  refine a_get C fl_RX12_191 (i := 236) kd_236 (hid 236 (by decide)) (v := .int (σ.1 236 13)) rfl dX12_bounded_1 ?_
  refine s_if_gt C dX12_bounded_4 (tgt := 15) rfl (fun c24 => ?_) (fun c24 => ?_)
  ·
    refine AW.sub (vs' := [some (.ref (ad 236)), some (.int x1), none, none]) (lsub_of (by simp [lsubB])) ?_
    exact j15 _ hG ony.rf
  ·
    refine a_aload_n C dX12_bounded_7 (i := 0) rfl rfl ?_
    refine s_iconst C dX12_bounded_8 (2) (by decide) (fun z25 h26 => ?_)
    refine a_callVi C (i := 236) kd_236 (hid 236 (by decide)) ⟨_, _, rfl⟩ (by decide) (S_X12_is_236 (x1 := z25) hid hG) mi_X12_is ml_RX12_209 rfl rfl (Nat.le_of_ble_eq_true rfl) (Nat.le_of_ble_eq_true rfl) (Nat.le_of_ble_eq_true rfl) dX12_bounded_9 (fun z27 σ28 q29 => ?_)
    obtain ⟨w30, w31⟩ := q29
    rw [w30]
    refine s_if_ne C dX12_bounded_12 (tgt := 22) rfl (fun c32 => ?_) (fun c32 => ?_)
    ·
      refine a_aload_n C dX12_bounded_22 (i := 0) rfl rfl ?_
      refine a_get C fl_RX12_27 (i := 236) kd_236 (hid 236 (by decide)) (v := .ref (ad 241)) rfl dX12_bounded_23 ?_
      refine a_aload_n C dX12_bounded_26 (i := 0) rfl rfl ?_
      have g33 := bF_236_11 hG
      refine a_get C fl_RX12_194 (i := 236) kd_236 (hid 236 (by decide)) (v := .int (σ.1 236 11)) rfl dX12_bounded_27 ?_
      refine s_iald C (i := 241) kd_241 (hid 241 (by decide)) al_241 (by omega) (by omega) dX12_bounded_30 (fun n34 h35 => ?_)
      refine s_val (fun z36 e37 => ?_)
      refine a_istore_n C dX12_bounded_31 (i := 3) rfl (by decide) rfl (vs1 := [some (.ref (ad 236)), some (.int x1), some (.int x2), some (.int z36)]) rfl ?_
      refine a_iload_n C dX12_bounded_32 (i := 3) rfl rfl ?_
      refine a_iload_n C dX12_bounded_33 (i := 1) rfl rfl ?_
      refine s_ic_lt C dX12_bounded_34 (tgt := 42) rfl (fun c38 => ?_) (fun c38 => ?_)
      ·
        refine AW.sub (vs' := [some (.ref (ad 236)), none, none, some (.int z36)]) (lsub_of (by simp [lsubB])) ?_
        exact j42 _ z36 hG ony.rf
      ·
        refine a_iload_n C dX12_bounded_37 (i := 3) rfl rfl ?_
        refine a_iload_n C dX12_bounded_38 (i := 2) rfl rfl ?_
        refine s_ic_le C dX12_bounded_39 (tgt := 51) rfl (fun c39 => ?_) (fun c39 => ?_)
        ·
          refine AW.sub (vs' := [some (.ref (ad 236)), none, none, some (.int z36)]) (lsub_of (by simp [lsubB])) ?_
          exact j51 _ z36 hG ony.rf
        ·
          refine AW.sub (vs' := [some (.ref (ad 236)), none, none, some (.int z36)]) (lsub_of (by simp [lsubB])) ?_
          exact j42 _ z36 hG ony.rf
    ·
      refine AW.sub (vs' := [some (.ref (ad 236)), some (.int x1), none, none]) (lsub_of (by simp [lsubB])) ?_
      exact j15 _ hG ony.rf
theorem dX12_toldInt_0 : decode cX12_toldInt 0 = .ok (.aload_n 0, 1) := by decide +kernel
theorem dX12_toldInt_1 : decode cX12_toldInt 1 = .ok (.invokevirtual 212, 3) := by decide +kernel
theorem dX12_toldInt_4 : decode cX12_toldInt 4 = .ok (.aload_n 0, 1) := by decide +kernel
theorem dX12_toldInt_5 : decode cX12_toldInt 5 = .ok (.iload_n 1, 1) := by decide +kernel
theorem dX12_toldInt_6 : decode cX12_toldInt 6 = .ok (.iload_n 2, 1) := by decide +kernel
theorem dX12_toldInt_7 : decode cX12_toldInt 7 = .ok (.invokevirtual 245, 3) := by decide +kernel
theorem dX12_toldInt_10 : decode cX12_toldInt 10 = .ok (.istore_n 3, 1) := by decide +kernel
theorem dX12_toldInt_11 : decode cX12_toldInt 11 = .ok (.aload_n 0, 1) := by decide +kernel
theorem dX12_toldInt_12 : decode cX12_toldInt 12 = .ok (.iconst 4, 1) := by decide +kernel
theorem dX12_toldInt_13 : decode cX12_toldInt 13 = .ok (.invokevirtual 249, 3) := by decide +kernel
theorem dX12_toldInt_16 : decode cX12_toldInt 16 = .ok (.iload_n 3, 1) := by decide +kernel
theorem dX12_toldInt_17 : decode cX12_toldInt 17 = .ok (.ireturn, 1) := by decide +kernel
set_option maxHeartbeats 4000000 in
set_option maxRecDepth 100000 in
theorem S_X12_toldInt_236 {l : Launch} {D : va_G} {ids : List Nat} {ad : Nat → Nat} {ca : Nat → ClassId} {σ : HS} {x1 : Int32} {x2 : Int32} (hid : ∀ i, i < 277 → i ∈ ids) (hG : GIm σ) : Ki l D ids ad ca yX12_toldInt cX12_toldInt 4 .int 3 64 [.ref (ad 236), .int x1, .int x2] σ (fun r σ1 => (GIm σ1) ∧ (ony [236] σ σ1)) := by
  refine Ki.of (by decide) (Nat.le_of_ble_eq_true rfl) 1 (fun Γ C Rt => ?_)
  show AW ids ad ca Γ 0 [some (.ref (ad 236)), some (.int x1), some (.int x2), none] [] σ
  refine a_aload_n C dX12_toldInt_0 (i := 0) rfl rfl ?_
  refine a_callVv C (i := 236) kd_236 (hid 236 (by decide)) ⟨_, _, rfl⟩ (by decide) (S_X12_goesOn_236 hid hG) mi_X12_goesOn ml_RX12_212 rfl rfl (Nat.le_of_ble_eq_true rfl) (Nat.le_of_ble_eq_true rfl) (Nat.le_of_ble_eq_true rfl) dX12_toldInt_1 (fun σ2 q3 => ?_)
  obtain ⟨hG4, ho5⟩ := q3
  refine a_aload_n C dX12_toldInt_4 (i := 0) rfl rfl ?_
  refine a_iload_n C dX12_toldInt_5 (i := 1) rfl rfl ?_
  refine a_iload_n C dX12_toldInt_6 (i := 2) rfl rfl ?_
  refine a_callVi C (i := 236) kd_236 (hid 236 (by decide)) ⟨_, _, rfl⟩ (by decide) (S_X12_bounded_236 (x1 := x1) (x2 := x2) hid hG4) mi_X12_bounded ml_RX12_245 rfl rfl (Nat.le_of_ble_eq_true rfl) (Nat.le_of_ble_eq_true rfl) (Nat.le_of_ble_eq_true rfl) dX12_toldInt_7 (fun z7 σ8 q9 => ?_)
  obtain ⟨hG10, ho11⟩ := q9
  refine a_istore_n C dX12_toldInt_10 (i := 3) rfl (by decide) rfl (vs1 := [some (.ref (ad 236)), some (.int x1), some (.int x2), some (.int z7)]) rfl ?_
  refine a_aload_n C dX12_toldInt_11 (i := 0) rfl rfl ?_
  refine s_iconst C dX12_toldInt_12 (4) (by decide) (fun z13 h14 => ?_)
  refine a_callVv C (i := 236) kd_236 (hid 236 (by decide)) ⟨_, _, rfl⟩ (by decide) (S_X12_must_236 (x1 := z13) hid hG10) mi_X12_must ml_RX12_249 rfl rfl (Nat.le_of_ble_eq_true rfl) (Nat.le_of_ble_eq_true rfl) (Nat.le_of_ble_eq_true rfl) dX12_toldInt_13 (fun σ16 q17 => ?_)
  obtain ⟨hG18, ho19⟩ := q17
  refine a_iload_n C dX12_toldInt_16 (i := 3) rfl rfl ?_
  exact a_iret Rt dX12_toldInt_17 rfl (⟨hG18, (ony.tr (ony.tr (ony.tr ony.rf (ony.mono ho5 (by decide))) (ony.mono ho11 (by decide))) (ony.mono ho19 (by decide)))⟩)
theorem dX12_thingsSo_17 : decode cX12_thingsSo 17 = .ok (.aload_n 0, 1) := by decide +kernel
theorem dX12_thingsSo_18 : decode cX12_thingsSo 18 = .ok (.getfield 110, 3) := by decide +kernel
theorem dX12_thingsSo_21 : decode cX12_thingsSo 21 = .ok (.iload_n 3, 1) := by decide +kernel
theorem dX12_thingsSo_22 : decode cX12_thingsSo 22 = .ok (.iaload, 1) := by decide +kernel
theorem dX12_thingsSo_23 : decode cX12_thingsSo 23 = .ok (.iload_n 1, 1) := by decide +kernel
theorem dX12_thingsSo_24 : decode cX12_thingsSo 24 = .ok (.if_icmp .ne 9, 3) := by decide +kernel
theorem dX12_thingsSo_27 : decode cX12_thingsSo 27 = .ok (.iload_n 2, 1) := by decide +kernel
theorem dX12_thingsSo_28 : decode cX12_thingsSo 28 = .ok (.iconst 1, 1) := by decide +kernel
theorem dX12_thingsSo_29 : decode cX12_thingsSo 29 = .ok (.iload_n 3, 1) := by decide +kernel
theorem dX12_thingsSo_30 : decode cX12_thingsSo 30 = .ok (.ishl, 1) := by decide +kernel
theorem dX12_thingsSo_31 : decode cX12_thingsSo 31 = .ok (.ior, 1) := by decide +kernel
theorem dX12_thingsSo_32 : decode cX12_thingsSo 32 = .ok (.istore_n 2, 1) := by decide +kernel
theorem dX12_thingsSo_33 : decode cX12_thingsSo 33 = .ok (.iinc 3 1, 3) := by decide +kernel
theorem dX12_thingsSo_36 : decode cX12_thingsSo 36 = .ok (.goto (-32), 3) := by decide +kernel
set_option maxHeartbeats 4000000 in
set_option maxRecDepth 100000 in
theorem S_X12_thingsSo_236 {l : Launch} {D : va_G} {ids : List Nat} {ad : Nat → Nat} {ca : Nat → ClassId} {σ : HS} {x1 : Int32} (hid : ∀ i, i < 277 → i ∈ ids) (hG : GIm σ) : Ki l D ids ad ca yX12_thingsSo cX12_thingsSo 4 .int 0 0 [.ref (ad 236), .int x1] σ (fun r σ1 => (σ1 = σ)) := by
  refine Ki.of (by decide) (Nat.le_of_ble_eq_true rfl) 2 (fun Γ C Rt => ?_)
  show AW ids ad ca Γ 0 [some (.ref (ad 236)), some (.int x1), none, none] [] σ
  have j4 : ∀ (d4 : Nat) (y4_2 : Int32) (y4_3 : Int32), 7 - y4_3.toInt < d4 → 0 ≤ y4_3.toInt ∧ y4_3.toInt ≤ 7 → AW ids ad ca Γ 4 [some (.ref (ad 236)), some (.int x1), some (.int y4_2), some (.int y4_3)] [] σ := by
    intro d4
    induction d4 with
    | zero =>
      intro y4_2 y4_3 hd4 hx4_0
      exfalso
      omega
    | succ d4 ih4 =>
      intro y4_2 y4_3 hd4 hx4_0
      have j33 : ∀ (y33_2 : Int32), 0 ≤ y4_3.toInt ∧ y4_3.toInt ≤ 6 → AW ids ad ca Γ 33 [some (.ref (ad 236)), some (.int x1), some (.int y33_2), some (.int y4_3)] [] σ := by
        intro y33_2 hx33_0
        refine s_iinc C dX12_thingsSo_33 rfl (1) (by decide) (by omega) (by decide) rfl (fun z1 h2 => ?_)
        show AW ids ad ca Γ 36 [some (.ref (ad 236)), some (.int x1), some (.int y33_2), some (.int z1)] _ _
        refine a_goto C dX12_thingsSo_36 (tgt := 4) rfl ?_
        exact ih4 y33_2 z1 (by omega) (by omega)
      refine a_iload_n C dX12_thingsSo_4 (i := 3) rfl rfl ?_
      refine a_aload_n C dX12_thingsSo_5 (i := 0) rfl rfl ?_
      refine a_get C fl_RX12_43 (i := 236) kd_236 (hid 236 (by decide)) (v := .ref (ad 245)) rfl dX12_thingsSo_6 ?_
      refine a_aload_n C dX12_thingsSo_9 (i := 0) rfl rfl ?_
      have g3 := bF_236_18 hG
      refine a_get C fl_RX12_221 (i := 236) kd_236 (hid 236 (by decide)) (v := .int (σ.1 236 18)) rfl dX12_thingsSo_10 ?_
      refine s_iald C (i := 245) kd_245 (hid 245 (by decide)) al_245 (by omega) (by omega) dX12_thingsSo_13 (fun n4 h5 => ?_)
      refine s_val (fun z6 e7 => ?_)
      have g8 := bA_245 hG n4
      rw [e7] at g8
      refine s_ic_ge C dX12_thingsSo_14 (tgt := 39) rfl (fun c9 => ?_) (fun c9 => ?_)
      ·
        refine a_iload_n C dX12_thingsSo_39 (i := 2) rfl rfl ?_
        exact a_iret Rt dX12_thingsSo_40 rfl (rfl)
      ·
        refine a_aload_n C dX12_thingsSo_17 (i := 0) rfl rfl ?_
        refine a_get C fl_RX12_110 (i := 236) kd_236 (hid 236 (by decide)) (v := .ref (ad 267)) rfl dX12_thingsSo_18 ?_
        refine a_iload_n C dX12_thingsSo_21 (i := 3) rfl rfl ?_
        refine s_iald C (i := 267) kd_267 (hid 267 (by decide)) al_267 (by omega) (by omega) dX12_thingsSo_22 (fun n10 h11 => ?_)
        refine s_val (fun z12 e13 => ?_)
        refine a_iload_n C dX12_thingsSo_23 (i := 1) rfl rfl ?_
        refine s_ic_ne C dX12_thingsSo_24 (tgt := 33) rfl (fun c14 => ?_) (fun c14 => ?_)
        ·
          exact j33 y4_2 (by omega)
        ·
          refine a_iload_n C dX12_thingsSo_27 (i := 2) rfl rfl ?_
          refine s_iconst C dX12_thingsSo_28 (1) (by decide) (fun z15 h16 => ?_)
          refine a_iload_n C dX12_thingsSo_29 (i := 3) rfl rfl ?_
          refine s_ishlU C dX12_thingsSo_30 (fun z17 => ?_)
          refine s_iorU C dX12_thingsSo_31 (fun z19 => ?_)
          refine a_istore_n C dX12_thingsSo_32 (i := 2) rfl (by decide) rfl (vs1 := [some (.ref (ad 236)), some (.int x1), some (.int z19), some (.int y4_3)]) rfl ?_
          exact j33 z19 (by omega)
  refine s_iconst C dX12_thingsSo_0 (0) (by decide) (fun z21 h22 => ?_)
  refine a_istore_n C dX12_thingsSo_1 (i := 2) rfl (by decide) rfl (vs1 := [some (.ref (ad 236)), some (.int x1), some (.int z21), none]) rfl ?_
  refine s_iconst C dX12_thingsSo_2 (0) (by decide) (fun z23 h24 => ?_)
  refine a_istore_n C dX12_thingsSo_3 (i := 3) rfl (by decide) rfl (vs1 := [some (.ref (ad 236)), some (.int x1), some (.int z21), some (.int z23)]) rfl ?_
  exact j4 100000 z21 z23 (by omega) (by omega)
theorem dX12_weightsOf_17 : decode cX12_weightsOf 17 = .ok (.iload_n 1, 1) := by decide +kernel
theorem dX12_weightsOf_18 : decode cX12_weightsOf 18 = .ok (.iload_n 3, 1) := by decide +kernel
theorem dX12_weightsOf_19 : decode cX12_weightsOf 19 = .ok (.ishr, 1) := by decide +kernel
theorem dX12_weightsOf_20 : decode cX12_weightsOf 20 = .ok (.iconst 1, 1) := by decide +kernel
theorem dX12_weightsOf_21 : decode cX12_weightsOf 21 = .ok (.iand, 1) := by decide +kernel
theorem dX12_weightsOf_22 : decode cX12_weightsOf 22 = .ok (.iconst 1, 1) := by decide +kernel
theorem dX12_weightsOf_23 : decode cX12_weightsOf 23 = .ok (.if_icmp .ne 20, 3) := by decide +kernel
theorem dX12_weightsOf_26 : decode cX12_weightsOf 26 = .ok (.iload_n 2, 1) := by decide +kernel
theorem dX12_weightsOf_27 : decode cX12_weightsOf 27 = .ok (.aload_n 0, 1) := by decide +kernel
theorem dX12_weightsOf_28 : decode cX12_weightsOf 28 = .ok (.getfield 46, 3) := by decide +kernel
theorem dX12_weightsOf_31 : decode cX12_weightsOf 31 = .ok (.bipush 7, 2) := by decide +kernel
theorem dX12_weightsOf_33 : decode cX12_weightsOf 33 = .ok (.aload_n 0, 1) := by decide +kernel
theorem dX12_weightsOf_34 : decode cX12_weightsOf 34 = .ok (.getfield 221, 3) := by decide +kernel
theorem dX12_weightsOf_37 : decode cX12_weightsOf 37 = .ok (.imul, 1) := by decide +kernel
theorem dX12_weightsOf_38 : decode cX12_weightsOf 38 = .ok (.iload_n 3, 1) := by decide +kernel
theorem dX12_weightsOf_39 : decode cX12_weightsOf 39 = .ok (.iadd, 1) := by decide +kernel
theorem dX12_weightsOf_40 : decode cX12_weightsOf 40 = .ok (.iaload, 1) := by decide +kernel
theorem dX12_weightsOf_41 : decode cX12_weightsOf 41 = .ok (.iadd, 1) := by decide +kernel
theorem dX12_weightsOf_42 : decode cX12_weightsOf 42 = .ok (.istore_n 2, 1) := by decide +kernel
theorem dX12_weightsOf_43 : decode cX12_weightsOf 43 = .ok (.iinc 3 1, 3) := by decide +kernel
theorem dX12_weightsOf_46 : decode cX12_weightsOf 46 = .ok (.goto (-42), 3) := by decide +kernel
set_option maxHeartbeats 4000000 in
set_option maxRecDepth 100000 in
theorem S_X12_weightsOf_236 {l : Launch} {D : va_G} {ids : List Nat} {ad : Nat → Nat} {ca : Nat → ClassId} {σ : HS} {x1 : Int32} (hid : ∀ i, i < 277 → i ∈ ids) (hG : GIm σ) : Ki l D ids ad ca yX12_weightsOf cX12_weightsOf 4 .int 0 0 [.ref (ad 236), .int x1] σ (fun r σ1 => (σ1 = σ)) := by
  refine Ki.of (by decide) (Nat.le_of_ble_eq_true rfl) 2 (fun Γ C Rt => ?_)
  show AW ids ad ca Γ 0 [some (.ref (ad 236)), some (.int x1), none, none] [] σ
  have j4 : ∀ (d4 : Nat) (y4_2 : Int32) (y4_3 : Int32), 7 - y4_3.toInt < d4 → 0 ≤ y4_3.toInt ∧ y4_3.toInt ≤ 7 → AW ids ad ca Γ 4 [some (.ref (ad 236)), some (.int x1), some (.int y4_2), some (.int y4_3)] [] σ := by
    intro d4
    induction d4 with
    | zero =>
      intro y4_2 y4_3 hd4 hx4_0
      exfalso
      omega
    | succ d4 ih4 =>
      intro y4_2 y4_3 hd4 hx4_0
      have j43 : ∀ (y43_2 : Int32), 0 ≤ y4_3.toInt ∧ y4_3.toInt ≤ 6 → AW ids ad ca Γ 43 [some (.ref (ad 236)), some (.int x1), some (.int y43_2), some (.int y4_3)] [] σ := by
        intro y43_2 hx43_0
        refine s_iinc C dX12_weightsOf_43 rfl (1) (by decide) (by omega) (by decide) rfl (fun z1 h2 => ?_)
        show AW ids ad ca Γ 46 [some (.ref (ad 236)), some (.int x1), some (.int y43_2), some (.int z1)] _ _
        refine a_goto C dX12_weightsOf_46 (tgt := 4) rfl ?_
        exact ih4 y43_2 z1 (by omega) (by omega)
      refine a_iload_n C dX12_weightsOf_4 (i := 3) rfl rfl ?_
      refine a_aload_n C dX12_weightsOf_5 (i := 0) rfl rfl ?_
      refine a_get C fl_RX12_43 (i := 236) kd_236 (hid 236 (by decide)) (v := .ref (ad 245)) rfl dX12_weightsOf_6 ?_
      refine a_aload_n C dX12_weightsOf_9 (i := 0) rfl rfl ?_
      have g3 := bF_236_18 hG
      refine a_get C fl_RX12_221 (i := 236) kd_236 (hid 236 (by decide)) (v := .int (σ.1 236 18)) rfl dX12_weightsOf_10 ?_
      refine s_iald C (i := 245) kd_245 (hid 245 (by decide)) al_245 (by omega) (by omega) dX12_weightsOf_13 (fun n4 h5 => ?_)
      refine s_val (fun z6 e7 => ?_)
      have g8 := bA_245 hG n4
      rw [e7] at g8
      refine s_ic_ge C dX12_weightsOf_14 (tgt := 49) rfl (fun c9 => ?_) (fun c9 => ?_)
      ·
        refine a_iload_n C dX12_weightsOf_49 (i := 2) rfl rfl ?_
        exact a_iret Rt dX12_weightsOf_50 rfl (rfl)
      ·
        refine a_iload_n C dX12_weightsOf_17 (i := 1) rfl rfl ?_
        refine a_iload_n C dX12_weightsOf_18 (i := 3) rfl rfl ?_
        refine s_ishrU C dX12_weightsOf_19 (fun z10 => ?_)
        refine s_iconst C dX12_weightsOf_20 (1) (by decide) (fun z12 h13 => ?_)
        refine s_iand C dX12_weightsOf_21 (by omega) (fun z14 h15 => ?_)
        refine s_iconst C dX12_weightsOf_22 (1) (by decide) (fun z16 h17 => ?_)
        refine s_ic_ne C dX12_weightsOf_23 (tgt := 43) rfl (fun c18 => ?_) (fun c18 => ?_)
        ·
          exact j43 y4_2 (by omega)
        ·
          refine a_iload_n C dX12_weightsOf_26 (i := 2) rfl rfl ?_
          refine a_aload_n C dX12_weightsOf_27 (i := 0) rfl rfl ?_
          refine a_get C fl_RX12_46 (i := 236) kd_236 (hid 236 (by decide)) (v := .ref (ad 246)) rfl dX12_weightsOf_28 ?_
          refine s_bipush C dX12_weightsOf_31 (7) (by decide) (fun z19 h20 => ?_)
          refine a_aload_n C dX12_weightsOf_33 (i := 0) rfl rfl ?_
          have g21 := bF_236_18 hG
          refine a_get C fl_RX12_221 (i := 236) kd_236 (hid 236 (by decide)) (v := .int (σ.1 236 18)) rfl dX12_weightsOf_34 ?_
          refine s_imuld C dX12_weightsOf_37 (7) (by omega) (by omega) (fun z22 h23 => ?_)
          refine a_iload_n C dX12_weightsOf_38 (i := 3) rfl rfl ?_
          refine s_iadd C dX12_weightsOf_39 (by omega) (fun z24 h25 => ?_)
          refine s_iald C (i := 246) kd_246 (hid 246 (by decide)) al_246 (by omega) (by omega) dX12_weightsOf_40 (fun n26 h27 => ?_)
          refine s_val (fun z28 e29 => ?_)
          refine s_iaddU C dX12_weightsOf_41 (fun z30 => ?_)
          refine a_istore_n C dX12_weightsOf_42 (i := 2) rfl (by decide) rfl (vs1 := [some (.ref (ad 236)), some (.int x1), some (.int z30), some (.int y4_3)]) rfl ?_
          exact j43 z30 (by omega)
  refine s_iconst C dX12_weightsOf_0 (0) (by decide) (fun z32 h33 => ?_)
  refine a_istore_n C dX12_weightsOf_1 (i := 2) rfl (by decide) rfl (vs1 := [some (.ref (ad 236)), some (.int x1), some (.int z32), none]) rfl ?_
  refine s_iconst C dX12_weightsOf_2 (0) (by decide) (fun z34 h35 => ?_)
  refine a_istore_n C dX12_weightsOf_3 (i := 3) rfl (by decide) rfl (vs1 := [some (.ref (ad 236)), some (.int x1), some (.int z32), some (.int z34)]) rfl ?_
  exact j4 100000 z32 z34 (by omega) (by omega)
set_option maxHeartbeats 4000000 in
set_option maxRecDepth 100000 in
theorem S_X12_copies_236 {l : Launch} {D : va_G} {ids : List Nat} {ad : Nat → Nat} {ca : Nat → ClassId} {σ : HS} (hid : ∀ i, i < 277 → i ∈ ids) (hG : GIm σ) : Kv l D ids ad ca yX12_copies cX12_copies 2 0 0 [.ref (ad 236)] σ (fun σ1 => (GIm σ1) ∧ (ony [236, 267] σ σ1)) := by
  refine Kv.of (by decide) (Nat.le_of_ble_eq_true rfl) 1 (fun Γ C Rt => ?_)
  show AW ids ad ca Γ 0 [some (.ref (ad 236)), none] [] σ
  have j2 : ∀ (d2 : Nat) (σq2 : HS) (y2_1 : Int32), 31 - y2_1.toInt < d2 → GIm σq2 → ony [236, 267] σ σq2 → 0 ≤ y2_1.toInt ∧ y2_1.toInt ≤ 31 → AW ids ad ca Γ 2 [some (.ref (ad 236)), some (.int y2_1)] [] σq2 := by
    intro d2
    induction d2 with
    | zero =>
      intro σq2 y2_1 hd2 hGq2 hoq2 hx2_0
      exfalso
      omega
    | succ d2 ih2 =>
      intro σq2 y2_1 hd2 hGq2 hoq2 hx2_0
      refine a_iload_n C dX12_copies_2 (i := 1) rfl rfl ?_
      refine s_bipush C dX12_copies_3 (29) (by decide) (fun z1 h2 => ?_)
      refine s_ic_ge C dX12_copies_5 (tgt := 26) rfl (fun c3 => ?_) (fun c3 => ?_)
      ·
        refine a_aload_n C dX12_copies_26 (i := 0) rfl rfl ?_
        refine a_aload_n C dX12_copies_27 (i := 0) rfl rfl ?_
        refine a_get C fl_RX12_67 (i := 236) kd_236 (hid 236 (by decide)) (v := .ref (ad 253)) rfl dX12_copies_28 ?_
        refine a_aload_n C dX12_copies_31 (i := 0) rfl rfl ?_
        have g4 := bF_236_18 hGq2
        refine a_get C fl_RX12_221 (i := 236) kd_236 (hid 236 (by decide)) (v := .int (σq2.1 236 18)) rfl dX12_copies_32 ?_
        refine s_iald C (i := 253) kd_253 (hid 253 (by decide)) al_253 (by omega) (by omega) dX12_copies_35 (fun n5 h6 => ?_)
        refine s_val (fun z7 e8 => ?_)
        refine a_put C fp_RX12_305 (i := 236) kd_236 (hid 236 (by decide)) rfl rfl dX12_copies_36 ?_
        have hG9 := wF_236_49 (v := z7) hGq2
        refine a_aload_n C dX12_copies_39 (i := 0) rfl rfl ?_
        refine s_iconst C dX12_copies_40 (0) (by decide) (fun z10 h11 => ?_)
        refine a_put C fp_RX12_308 (i := 236) kd_236 (hid 236 (by decide)) (nar_z (by omega)).1 (nar_z (by omega)).2 dX12_copies_41 ?_
        have hG12 := wF_236_50 (v := z10) hG9
        exact a_vret Rt dX12_copies_44 (⟨hG12, (ony.I (ony.I hoq2 (by decide)) (by decide))⟩)
      ·
        refine a_aload_n C dX12_copies_8 (i := 0) rfl rfl ?_
        refine a_get C fl_RX12_110 (i := 236) kd_236 (hid 236 (by decide)) (v := .ref (ad 267)) rfl dX12_copies_9 ?_
        refine a_iload_n C dX12_copies_12 (i := 1) rfl rfl ?_
        refine a_aload_n C dX12_copies_13 (i := 0) rfl rfl ?_
        refine a_get C fl_RX12_107 (i := 236) kd_236 (hid 236 (by decide)) (v := .ref (ad 266)) rfl dX12_copies_14 ?_
        refine a_iload_n C dX12_copies_17 (i := 1) rfl rfl ?_
        refine s_iald C (i := 266) kd_266 (hid 266 (by decide)) al_266 (by omega) (by omega) dX12_copies_18 (fun n13 h14 => ?_)
        refine s_val (fun z15 e16 => ?_)
        refine s_iast C (i := 267) kd_267 (hid 267 (by decide)) al_267 (by omega) (by omega) dX12_copies_19 (fun n17 h18 => ?_)
        have hG19 := wA_267 (v := z15) (j := n17) hGq2
        refine s_iinc C dX12_copies_20 rfl (1) (by decide) (by omega) (by decide) rfl (fun z20 h21 => ?_)
        show AW ids ad ca Γ 23 [some (.ref (ad 236)), some (.int z20)] _ _
        refine a_goto C dX12_copies_23 (tgt := 2) rfl ?_
        exact ih2 _ z20 (by omega) hG19 (ony.I hoq2 (by decide)) (by omega)
  refine s_iconst C dX12_copies_0 (0) (by decide) (fun z22 h23 => ?_)
  refine a_istore_n C dX12_copies_1 (i := 1) rfl (by decide) rfl (vs1 := [some (.ref (ad 236)), some (.int z22)]) rfl ?_
  exact j2 100000 _ z22 (by omega) hG ony.rf (by omega)
theorem dX12_doesLand_0 : decode cX12_doesLand 0 = .ok (.aload_n 0, 1) := by decide +kernel
theorem dX12_doesLand_1 : decode cX12_doesLand 1 = .ok (.getfield 110, 3) := by decide +kernel
theorem dX12_doesLand_4 : decode cX12_doesLand 4 = .ok (.iload_n 1, 1) := by decide +kernel
theorem dX12_doesLand_5 : decode cX12_doesLand 5 = .ok (.iaload, 1) := by decide +kernel
theorem dX12_doesLand_6 : decode cX12_doesLand 6 = .ok (.ifCond .ne 20, 3) := by decide +kernel
theorem dX12_doesLand_9 : decode cX12_doesLand 9 = .ok (.aload_n 0, 1) := by decide +kernel
theorem dX12_doesLand_10 : decode cX12_doesLand 10 = .ok (.getfield 110, 3) := by decide +kernel
theorem dX12_doesLand_13 : decode cX12_doesLand 13 = .ok (.bipush 7, 2) := by decide +kernel
theorem dX12_doesLand_15 : decode cX12_doesLand 15 = .ok (.iload_n 1, 1) := by decide +kernel
theorem dX12_doesLand_16 : decode cX12_doesLand 16 = .ok (.iadd, 1) := by decide +kernel
theorem dX12_doesLand_17 : decode cX12_doesLand 17 = .ok (.iaload, 1) := by decide +kernel
theorem dX12_doesLand_18 : decode cX12_doesLand 18 = .ok (.iload_n 2, 1) := by decide +kernel
theorem dX12_doesLand_19 : decode cX12_doesLand 19 = .ok (.if_icmp .ne 7, 3) := by decide +kernel
theorem dX12_doesLand_22 : decode cX12_doesLand 22 = .ok (.iconst 1, 1) := by decide +kernel
theorem dX12_doesLand_23 : decode cX12_doesLand 23 = .ok (.goto 4, 3) := by decide +kernel
theorem dX12_doesLand_26 : decode cX12_doesLand 26 = .ok (.iconst 0, 1) := by decide +kernel
theorem dX12_doesLand_27 : decode cX12_doesLand 27 = .ok (.ireturn, 1) := by decide +kernel
set_option maxHeartbeats 4000000 in
set_option maxRecDepth 100000 in
theorem S_X12_doesLand_236 {l : Launch} {D : va_G} {ids : List Nat} {ad : Nat → Nat} {ca : Nat → ClassId} {σ : HS} {x1 : Int32} {x2 : Int32} (hid : ∀ i, i < 277 → i ∈ ids) (hG : GIm σ) (hx1 : 0 ≤ x1.toInt ∧ x1.toInt ≤ 6) : Ki l D ids ad ca yX12_doesLand cX12_doesLand 3 .boolean 0 0 [.ref (ad 236), .int x1, .int x2] σ (fun r σ1 => (σ1 = σ) ∧ (0 ≤ r.toInt ∧ r.toInt ≤ 1)) := by
  refine Ki.of (by decide) (Nat.le_of_ble_eq_true rfl) 0 (fun Γ C Rt => ?_)
  show AW ids ad ca Γ 0 [some (.ref (ad 236)), some (.int x1), some (.int x2)] [] σ
  refine a_aload_n C dX12_doesLand_0 (i := 0) rfl rfl ?_
  refine a_get C fl_RX12_110 (i := 236) kd_236 (hid 236 (by decide)) (v := .ref (ad 267)) rfl dX12_doesLand_1 ?_
  refine a_iload_n C dX12_doesLand_4 (i := 1) rfl rfl ?_
  refine s_iald C (i := 267) kd_267 (hid 267 (by decide)) al_267 (by omega) (by omega) dX12_doesLand_5 (fun n1 h2 => ?_)
  refine s_val (fun z3 e4 => ?_)
  refine s_if_ne C dX12_doesLand_6 (tgt := 26) rfl (fun c5 => ?_) (fun c5 => ?_)
  ·
    refine s_iconst C dX12_doesLand_26 (0) (by decide) (fun z6 h7 => ?_)
    exact a_iret Rt dX12_doesLand_27 (nar_z (by omega)).1 (⟨rfl, (show 0 ≤ z6.toInt ∧ z6.toInt ≤ 1 by intros; omega)⟩)
  ·
    refine a_aload_n C dX12_doesLand_9 (i := 0) rfl rfl ?_
    refine a_get C fl_RX12_110 (i := 236) kd_236 (hid 236 (by decide)) (v := .ref (ad 267)) rfl dX12_doesLand_10 ?_
    refine s_bipush C dX12_doesLand_13 (7) (by decide) (fun z8 h9 => ?_)
    refine a_iload_n C dX12_doesLand_15 (i := 1) rfl rfl ?_
    refine s_iadd C dX12_doesLand_16 (by omega) (fun z10 h11 => ?_)
    refine s_iald C (i := 267) kd_267 (hid 267 (by decide)) al_267 (by omega) (by omega) dX12_doesLand_17 (fun n12 h13 => ?_)
    refine s_val (fun z14 e15 => ?_)
    refine a_iload_n C dX12_doesLand_18 (i := 2) rfl rfl ?_
    refine s_ic_ne C dX12_doesLand_19 (tgt := 26) rfl (fun c16 => ?_) (fun c16 => ?_)
    ·
      refine s_iconst C dX12_doesLand_26 (0) (by decide) (fun z17 h18 => ?_)
      exact a_iret Rt dX12_doesLand_27 (nar_z (by omega)).1 (⟨rfl, (show 0 ≤ z17.toInt ∧ z17.toInt ≤ 1 by intros; omega)⟩)
    ·
      refine s_iconst C dX12_doesLand_22 (1) (by decide) (fun z19 h20 => ?_)
      refine a_goto C dX12_doesLand_23 (tgt := 27) rfl ?_
      exact a_iret Rt dX12_doesLand_27 (nar_z (by omega)).1 (⟨rfl, (show 0 ≤ z19.toInt ∧ z19.toInt ≤ 1 by intros; omega)⟩)
theorem dX12_uses_0 : decode cX12_uses 0 = .ok (.aload_n 0, 1) := by decide +kernel
theorem dX12_uses_1 : decode cX12_uses 1 = .ok (.getfield 110, 3) := by decide +kernel
theorem dX12_uses_4 : decode cX12_uses 4 = .ok (.bipush 26, 2) := by decide +kernel
theorem dX12_uses_6 : decode cX12_uses 6 = .ok (.iload_n 1, 1) := by decide +kernel
theorem dX12_uses_7 : decode cX12_uses 7 = .ok (.iastore, 1) := by decide +kernel
theorem dX12_uses_8 : decode cX12_uses 8 = .ok (.aload_n 0, 1) := by decide +kernel
theorem dX12_uses_9 : decode cX12_uses 9 = .ok (.getfield 110, 3) := by decide +kernel
theorem dX12_uses_12 : decode cX12_uses 12 = .ok (.bipush 27, 2) := by decide +kernel
theorem dX12_uses_14 : decode cX12_uses 14 = .ok (.aload_n 0, 1) := by decide +kernel
theorem dX12_uses_15 : decode cX12_uses 15 = .ok (.getfield 110, 3) := by decide +kernel
theorem dX12_uses_18 : decode cX12_uses 18 = .ok (.bipush 21, 2) := by decide +kernel
theorem dX12_uses_20 : decode cX12_uses 20 = .ok (.iaload, 1) := by decide +kernel
theorem dX12_uses_21 : decode cX12_uses 21 = .ok (.iastore, 1) := by decide +kernel
theorem dX12_uses_22 : decode cX12_uses 22 = .ok (.return_, 1) := by decide +kernel
set_option maxHeartbeats 4000000 in
set_option maxRecDepth 100000 in
theorem S_X12_uses_236 {l : Launch} {D : va_G} {ids : List Nat} {ad : Nat → Nat} {ca : Nat → ClassId} {σ : HS} {x1 : Int32} (hid : ∀ i, i < 277 → i ∈ ids) (hG : GIm σ) : Kv l D ids ad ca yX12_uses cX12_uses 2 0 0 [.ref (ad 236), .int x1] σ (fun σ1 => (GIm σ1) ∧ (ony [267] σ σ1)) := by
  refine Kv.of (by decide) (Nat.le_of_ble_eq_true rfl) 0 (fun Γ C Rt => ?_)
  show AW ids ad ca Γ 0 [some (.ref (ad 236)), some (.int x1)] [] σ
  refine a_aload_n C dX12_uses_0 (i := 0) rfl rfl ?_
  refine a_get C fl_RX12_110 (i := 236) kd_236 (hid 236 (by decide)) (v := .ref (ad 267)) rfl dX12_uses_1 ?_
  refine s_bipush C dX12_uses_4 (26) (by decide) (fun z1 h2 => ?_)
  refine a_iload_n C dX12_uses_6 (i := 1) rfl rfl ?_
  refine s_iast C (i := 267) kd_267 (hid 267 (by decide)) al_267 (by omega) (by omega) dX12_uses_7 (fun n3 h4 => ?_)
  have hG5 := wA_267 (v := x1) (j := n3) hG
  refine a_aload_n C dX12_uses_8 (i := 0) rfl rfl ?_
  refine a_get C fl_RX12_110 (i := 236) kd_236 (hid 236 (by decide)) (v := .ref (ad 267)) rfl dX12_uses_9 ?_
  refine s_bipush C dX12_uses_12 (27) (by decide) (fun z6 h7 => ?_)
  refine a_aload_n C dX12_uses_14 (i := 0) rfl rfl ?_
  refine a_get C fl_RX12_110 (i := 236) kd_236 (hid 236 (by decide)) (v := .ref (ad 267)) rfl dX12_uses_15 ?_
  refine s_bipush C dX12_uses_18 (21) (by decide) (fun z8 h9 => ?_)
  refine s_iald C (i := 267) kd_267 (hid 267 (by decide)) al_267 (by omega) (by omega) dX12_uses_20 (fun n10 h11 => ?_)
  refine s_val (fun z12 e13 => ?_)
  refine s_iast C (i := 267) kd_267 (hid 267 (by decide)) al_267 (by omega) (by omega) dX12_uses_21 (fun n14 h15 => ?_)
  have hG16 := wA_267 (v := z12) (j := n14) hG5
  exact a_vret Rt dX12_uses_22 (⟨hG16, (ony.I (ony.I ony.rf (by decide)) (by decide))⟩)
