theorem dX11_findHands_0 : decode cX11_findHands 0 = .ok (.aload_n 0, 1) := by decide +kernel
theorem dX11_findHands_1 : decode cX11_findHands 1 = .ok (.getfield 58, 3) := by decide +kernel
theorem dX11_findHands_4 : decode cX11_findHands 4 = .ok (.aload_n 0, 1) := by decide +kernel
theorem dX11_findHands_5 : decode cX11_findHands 5 = .ok (.getfield 54, 3) := by decide +kernel
theorem dX11_findHands_8 : decode cX11_findHands 8 = .ok (.invokevirtual 230, 3) := by decide +kernel
theorem dX11_findHands_11 : decode cX11_findHands 11 = .ok (.iconst 0, 1) := by decide +kernel
theorem dX11_findHands_12 : decode cX11_findHands 12 = .ok (.istore_n 2, 1) := by decide +kernel
theorem dX11_findHands_13 : decode cX11_findHands 13 = .ok (.iload_n 2, 1) := by decide +kernel
theorem dX11_findHands_14 : decode cX11_findHands 14 = .ok (.iload_n 1, 1) := by decide +kernel
theorem dX11_findHands_15 : decode cX11_findHands 15 = .ok (.if_icmp .ge 46, 3) := by decide +kernel
theorem dX11_findHands_18 : decode cX11_findHands 18 = .ok (.iload_n 2, 1) := by decide +kernel
theorem dX11_findHands_19 : decode cX11_findHands 19 = .ok (.aload_n 0, 1) := by decide +kernel
theorem dX11_findHands_20 : decode cX11_findHands 20 = .ok (.getfield 69, 3) := by decide +kernel
theorem dX11_findHands_23 : decode cX11_findHands 23 = .ok (.arraylength, 1) := by decide +kernel
theorem dX11_findHands_24 : decode cX11_findHands 24 = .ok (.if_icmp .ge 37, 3) := by decide +kernel
theorem dX11_findHands_27 : decode cX11_findHands 27 = .ok (.aload_n 0, 1) := by decide +kernel
theorem dX11_findHands_28 : decode cX11_findHands 28 = .ok (.getfield 69, 3) := by decide +kernel
theorem dX11_findHands_31 : decode cX11_findHands 31 = .ok (.iload_n 2, 1) := by decide +kernel
theorem dX11_findHands_32 : decode cX11_findHands 32 = .ok (.aload_n 0, 1) := by decide +kernel
theorem dX11_findHands_33 : decode cX11_findHands 33 = .ok (.getfield 58, 3) := by decide +kernel
theorem dX11_findHands_36 : decode cX11_findHands 36 = .ok (.invokevirtual 282, 3) := by decide +kernel
theorem dX11_findHands_39 : decode cX11_findHands 39 = .ok (.iastore, 1) := by decide +kernel
theorem dX11_findHands_40 : decode cX11_findHands 40 = .ok (.aload_n 0, 1) := by decide +kernel
theorem dX11_findHands_41 : decode cX11_findHands 41 = .ok (.getfield 19, 3) := by decide +kernel
theorem dX11_findHands_44 : decode cX11_findHands 44 = .ok (.aload_n 0, 1) := by decide +kernel
theorem dX11_findHands_45 : decode cX11_findHands 45 = .ok (.getfield 82, 3) := by decide +kernel
theorem dX11_findHands_48 : decode cX11_findHands 48 = .ok (.aload_n 0, 1) := by decide +kernel
theorem dX11_findHands_49 : decode cX11_findHands 49 = .ok (.getfield 58, 3) := by decide +kernel
theorem dX11_findHands_52 : decode cX11_findHands 52 = .ok (.invokevirtual 285, 3) := by decide +kernel
theorem dX11_findHands_55 : decode cX11_findHands 55 = .ok (.iinc 2 1, 3) := by decide +kernel
theorem dX11_findHands_58 : decode cX11_findHands 58 = .ok (.goto (-45), 3) := by decide +kernel
theorem dX11_findHands_61 : decode cX11_findHands 61 = .ok (.return_, 1) := by decide +kernel
set_option maxHeartbeats 4000000 in
set_option maxRecDepth 100000 in
theorem k_findHands {l : Launch} {D : va_G} {ids : List Nat} {ad : Nat → Nat} {ca : Nat → ClassId} {σ : HS} {m : Nat} (hid : ∀ i, i < 277 → i ∈ ids) (hm : m ≤ 61) (htx0 : σ.2.2 0 = 30) (h_30_10 : σ.1 30 10 = 1) (h_56_0 : σ.1 56 0 = 0) (h_56_4 : σ.1 56 4 = 0) (h_56_5 : σ.1 56 5 = 0) (h_56_6 : σ.1 56 6 = 0) (h_56_7 : σ.1 56 7 = 0) (h_56_8 : σ.1 56 8 = 0) (h_56_9 : σ.1 56 9 = (-1)) (h_56_10 : σ.1 56 10 = 0) (h_56_11 : σ.1 56 11 = (-1)) : Kv l D ids ad ca yX11_findHands cX11_findHands 3 3 81 [.ref (ad 0), .int (nI m)] σ (fun σ1 => only [60, 61, 62, 63, 27] σ σ1 ∧ (0 < m → σ1.1 27 (m - 1) = -1)) := by
  refine Kv.of (by decide) (Nat.le_of_ble_eq_true rfl) 1 (fun Γ C Rt => ?_)
  show AW ids ad ca Γ 0 [some (.ref (ad 0)), some (.int (nI m)), none] [] σ
  refine a_aload_n C dX11_findHands_0 (i := 0) rfl rfl ?_
  refine a_get C fl_RX11_58 (i := 0) kd_0 (hid 0 (by decide)) (v := .ref (ad 60)) rfl dX11_findHands_1 ?_
  refine a_aload_n C dX11_findHands_4 (i := 0) rfl rfl ?_
  refine a_get C fl_RX11_54 (i := 0) kd_0 (hid 0 (by decide)) (v := .ref (ad 56)) rfl dX11_findHands_5 ?_
  refine a_callVv C (i := 60) kd_60 (hid 60 (by decide)) ⟨_, _, rfl⟩ (by decide) (k_copy_60 hid h_56_0 h_56_4 h_56_5 h_56_6 h_56_7 h_56_8 h_56_9 h_56_10 h_56_11) mi_X0_copy ml_RX11_230 rfl rfl (Nat.le_of_ble_eq_true rfl) (Nat.le_of_ble_eq_true rfl) (Nat.le_of_ble_eq_true rfl) dX11_findHands_8 (fun σ2 q3 => ?_)
  refine a_iconst C dX11_findHands_11 (v := 0) rfl ?_
  refine a_istore_n C dX11_findHands_12 (i := 2) rfl (by decide) rfl (vs1 := [some (.ref (ad 0)), some (.int (nI m)), some (.int 0)]) rfl ?_
  have loop : ∀ (d j : Nat) (σ2 : HS), j + d = m → (only [60, 61, 62, 63, 27] σ σ2 ∧ σ2.1 60 0 = 0 ∧ σ2.1 60 5 = 0 ∧ σ2.1 60 6 = 0 ∧ σ2.1 60 8 = 0 ∧ σ2.1 60 4 = (nI (0 + j))) → (0 < j → σ2.1 27 (j - 1) = -1) → AW ids ad ca Γ 13 [some (.ref (ad 0)), some (.int (nI m)), some (.int (nI j))] [] σ2 := by
    intro d
    induction d with
    | zero =>
      intro j σ2 hj hV hX
      refine a_iload_n C dX11_findHands_13 (i := 2) rfl rfl ?_
      refine a_iload_n C dX11_findHands_14 (i := 1) rfl rfl ?_
      refine a_ic_ge C dX11_findHands_15 (tgt := 61) rfl (fun c4 => ?_) (fun c4 => absurd c4 (fun q => q (nI_le (a := (m)) (b := (j)) (by omega) (by omega))))
      exact a_vret Rt dX11_findHands_61 (⟨(only.tr only.rf (only.mono hV.1 (by decide))), fun h => (show σ2.1 27 (m - 1) = -1 from (show j = m by omega) ▸ hX (by omega))⟩)
    | succ d ih =>
      intro j σ2 hj hV hX
      refine a_iload_n C dX11_findHands_13 (i := 2) rfl rfl ?_
      refine a_iload_n C dX11_findHands_14 (i := 1) rfl rfl ?_
      refine a_ic_ge C dX11_findHands_15 (tgt := 61) rfl (fun c5 => absurd c5 (nI_ge (a := (j)) (b := (m)) (by omega) (by omega))) (fun c5 => ?_)
      refine a_iload_n C dX11_findHands_18 (i := 2) rfl rfl ?_
      refine a_aload_n C dX11_findHands_19 (i := 0) rfl rfl ?_
      refine a_get C fl_RX11_69 (i := 0) kd_0 (hid 0 (by decide)) (v := .ref (ad 27)) rfl dX11_findHands_20 ?_
      refine a_alen C (by rw [kd_27]; decide) (hid 27 (by decide)) (v := 61) (by rw [al_27]; rfl) dX11_findHands_23 ?_
      refine a_ic_ge C dX11_findHands_24 (tgt := 61) rfl (fun c6 => absurd c6 (nI_ge (a := (j)) (b := (61)) (by omega) (by omega))) (fun c6 => ?_)
      refine a_aload_n C dX11_findHands_27 (i := 0) rfl rfl ?_
      refine a_get C fl_RX11_69 (i := 0) kd_0 (hid 0 (by decide)) (v := .ref (ad 27)) rfl dX11_findHands_28 ?_
      refine a_iload_n C dX11_findHands_31 (i := 2) rfl rfl ?_
      refine a_aload_n C dX11_findHands_32 (i := 0) rfl rfl ?_
      refine a_get C fl_RX11_58 (i := 0) kd_0 (hid 0 (by decide)) (v := .ref (ad 60)) rfl dX11_findHands_33 ?_
      refine a_callVi C (i := 60) kd_60 (hid 60 (by decide)) ⟨_, _, rfl⟩ (by decide) (k_firstLanding_60 hid hV.2.1) mi_X0_firstLanding ml_RX11_282 rfl rfl (Nat.le_of_ble_eq_true rfl) (Nat.le_of_ble_eq_true rfl) (Nat.le_of_ble_eq_true rfl) dX11_findHands_36 (fun r7 σ8 q9 => ?_)
      obtain ⟨rfl, q9⟩ := q9
      rw [q9]
      refine a_iast C (i := 27) (j) kd_27 (hid 27 (by decide)) (nI_pos (by omega)) (nI_clamp (by omega)) (by rw [al_27]; omega) dX11_findHands_39 ?_
      refine a_aload_n C dX11_findHands_40 (i := 0) rfl rfl ?_
      refine a_get C fl_RX11_19 (i := 0) kd_0 (hid 0 (by decide)) (v := .ref (ad 8)) rfl dX11_findHands_41 ?_
      refine a_aload_n C dX11_findHands_44 (i := 0) rfl rfl ?_
      refine a_get C fl_RX11_82 (i := 0) kd_0 (hid 0 (by decide)) (v := .ref (ad 30)) (congrArg (fun z => some (Value.ref (ad z))) (Eq.trans (congrArg (fun z => z.2 0) hV.1.2) htx0)) dX11_findHands_45 ?_
      refine a_aload_n C dX11_findHands_48 (i := 0) rfl rfl ?_
      refine a_get C fl_RX11_58 (i := 0) kd_0 (hid 0 (by decide)) (v := .ref (ad 60)) rfl dX11_findHands_49 ?_
      refine a_callVv C (i := 8) kd_8 (hid 8 (by decide)) ⟨_, _, rfl⟩ (by decide) (k_goOnSafely hid (bt := 0 + j) hV.2.2.2.2.2 ((congrFun (hV.1.1 30 (by decide)) 10).trans h_30_10) hV.2.1 hV.2.2.1 hV.2.2.2.1 hV.2.2.2.2.1) mi_X4_goOnSafely ml_RX11_285 rfl rfl (Nat.le_of_ble_eq_true rfl) (Nat.le_of_ble_eq_true rfl) (Nat.le_of_ble_eq_true rfl) dX11_findHands_52 (fun σ11 q12 => ?_)
      refine a_iinc C dX11_findHands_55 rfl (v := (nI (j + 1))) (nI_1 _) (by decide) rfl (vs1 := [some (.ref (ad 0)), some (.int (nI m)), some (.int (nI (j + 1)))]) rfl ?_
      refine a_goto C dX11_findHands_58 (tgt := 13) rfl ?_
      exact ih (j + 1) _ (by omega) ⟨(only.tr (only.I (only.tr only.rf (only.mono hV.1 (by decide))) (by decide)) (only.mono q12.1 (by decide))), q12.2.1, q12.2.2.1, q12.2.2.2.1, q12.2.2.2.2.1, (Eq.trans q12.2.2.2.2.2 (congrArg nI (show 0 + j + 1 = 0 + (j + 1) by omega)))⟩ (fun _ => (congrFun (q12.1.1 27 (by decide)) _).trans hI_s)
  exact loop (m - 0) 0 _ (by omega) ⟨(only.tr only.rf (only.mono q3.1 (by decide))), q3.2.1, q3.2.2.1, q3.2.2.2.1, q3.2.2.2.2.1, (Eq.trans q3.2.2.2.2.2 (congrArg nI (show 0 = 0 + 0 by omega)))⟩ (fun h => absurd h (by omega))
theorem dX11_inHand_0 : decode cX11_inHand 0 = .ok (.iload_n 1, 1) := by decide +kernel
theorem dX11_inHand_1 : decode cX11_inHand 1 = .ok (.ifCond .lt 9, 3) := by decide +kernel
theorem dX11_inHand_4 : decode cX11_inHand 4 = .ok (.iload_n 1, 1) := by decide +kernel
theorem dX11_inHand_5 : decode cX11_inHand 5 = .ok (.bipush 60, 2) := by decide +kernel
theorem dX11_inHand_7 : decode cX11_inHand 7 = .ok (.if_icmp .le 5, 3) := by decide +kernel
theorem dX11_inHand_12 : decode cX11_inHand 12 = .ok (.aload_n 0, 1) := by decide +kernel
theorem dX11_inHand_13 : decode cX11_inHand 13 = .ok (.iload_n 1, 1) := by decide +kernel
theorem dX11_inHand_14 : decode cX11_inHand 14 = .ok (.iconst 1, 1) := by decide +kernel
theorem dX11_inHand_15 : decode cX11_inHand 15 = .ok (.iadd, 1) := by decide +kernel
theorem dX11_inHand_16 : decode cX11_inHand 16 = .ok (.invokevirtual 279, 3) := by decide +kernel
theorem dX11_inHand_19 : decode cX11_inHand 19 = .ok (.aload_n 0, 1) := by decide +kernel
theorem dX11_inHand_20 : decode cX11_inHand 20 = .ok (.getfield 69, 3) := by decide +kernel
theorem dX11_inHand_23 : decode cX11_inHand 23 = .ok (.iload_n 1, 1) := by decide +kernel
theorem dX11_inHand_24 : decode cX11_inHand 24 = .ok (.iaload, 1) := by decide +kernel
theorem dX11_inHand_25 : decode cX11_inHand 25 = .ok (.iconst (-1), 1) := by decide +kernel
theorem dX11_inHand_26 : decode cX11_inHand 26 = .ok (.if_icmp .ne 8, 3) := by decide +kernel
theorem dX11_inHand_29 : decode cX11_inHand 29 = .ok (.bipush (-2), 2) := by decide +kernel
theorem dX11_inHand_31 : decode cX11_inHand 31 = .ok (.goto 9, 3) := by decide +kernel
theorem dX11_inHand_40 : decode cX11_inHand 40 = .ok (.ireturn, 1) := by decide +kernel
set_option maxHeartbeats 4000000 in
set_option maxRecDepth 100000 in
theorem p_inHand_in {l : Launch} {D : va_G} {ids : List Nat} {ad : Nat → Nat} {ca : Nat → ClassId} {σ : HS} {m : Nat} (hid : ∀ i, i < 277 → i ∈ ids) (hm : m ≤ 60) (htx0 : σ.2.2 0 = 30) (h_30_10 : σ.1 30 10 = 1) (h_56_0 : σ.1 56 0 = 0) (h_56_4 : σ.1 56 4 = 0) (h_56_5 : σ.1 56 5 = 0) (h_56_6 : σ.1 56 6 = 0) (h_56_7 : σ.1 56 7 = 0) (h_56_8 : σ.1 56 8 = 0) (h_56_9 : σ.1 56 9 = (-1)) (h_56_10 : σ.1 56 10 = 0) (h_56_11 : σ.1 56 11 = (-1)) : Ki l D ids ad ca yX11_inHand cX11_inHand 2 .int 4 103 [.ref (ad 0), .int (nI m)] σ (fun r σ1 => r = (-2) ∧ keepM σ σ1) := by
  refine Ki.of (by decide) (Nat.le_of_ble_eq_true rfl) 0 (fun Γ C Rt => ?_)
  show AW ids ad ca Γ 0 [some (.ref (ad 0)), some (.int (nI m))] [] σ
  refine a_iload_n C dX11_inHand_0 (i := 1) rfl rfl ?_
  refine a_if_lt C dX11_inHand_1 (tgt := 10) rfl (fun c1 => absurd c1 (nI_nlt (a := (m)) (b := (0)) (by omega) (by omega))) (fun c1 => ?_)
  refine a_iload_n C dX11_inHand_4 (i := 1) rfl rfl ?_
  refine a_bipush C dX11_inHand_5 (v := 60) rfl ?_
  refine a_ic_le C dX11_inHand_7 (tgt := 12) rfl (fun c2 => ?_) (fun c2 => absurd c2 (fun q => q (nI_le (a := (m)) (b := (60)) (by omega) (by omega))))
  refine a_aload_n C dX11_inHand_12 (i := 0) rfl rfl ?_
  refine a_iload_n C dX11_inHand_13 (i := 1) rfl rfl ?_
  refine a_iconst C dX11_inHand_14 (v := 1) rfl ?_
  refine a_iadd C dX11_inHand_15 ?_
  rw [show ((nI m) + 1 : Int32) = nI (m + 1) from nI_add _ _]
  refine a_callVv C (i := 0) kd_0 (hid 0 (by decide)) ⟨_, _, rfl⟩ (by decide) (k_findHands hid (m := m + 1) (by omega) htx0 h_30_10 h_56_0 h_56_4 h_56_5 h_56_6 h_56_7 h_56_8 h_56_9 h_56_10 h_56_11) mi_X11_findHands ml_RX11_279 rfl rfl (Nat.le_of_ble_eq_true rfl) (Nat.le_of_ble_eq_true rfl) (Nat.le_of_ble_eq_true rfl) dX11_inHand_16 (fun σ4 q5 => ?_)
  refine a_aload_n C dX11_inHand_19 (i := 0) rfl rfl ?_
  refine a_get C fl_RX11_69 (i := 0) kd_0 (hid 0 (by decide)) (v := .ref (ad 27)) rfl dX11_inHand_20 ?_
  refine a_iload_n C dX11_inHand_23 (i := 1) rfl rfl ?_
  refine a_iald C (i := 27) (m) kd_27 (hid 27 (by decide)) (nI_pos (by omega)) (nI_clamp (by omega)) (by rw [al_27]; omega) dX11_inHand_24 (v := (-1)) (q5.2 (by omega)) ?_
  refine a_iconst C dX11_inHand_25 (v := (-1)) rfl ?_
  refine a_ic_ne C dX11_inHand_26 (tgt := 34) rfl (fun h => absurd h (by decide)) (fun _ => ?_)
  refine a_bipush C dX11_inHand_29 (v := (-2)) rfl ?_
  refine a_goto C dX11_inHand_31 (tgt := 40) rfl ?_
  exact a_iret Rt dX11_inHand_40 rfl (⟨rfl, (keepM.tr keepM.rf (only.keepM q5.1 (by decide)))⟩)
theorem dX11_inHand_10 : decode cX11_inHand 10 = .ok (.iconst (-1), 1) := by decide +kernel
theorem dX11_inHand_11 : decode cX11_inHand 11 = .ok (.ireturn, 1) := by decide +kernel
set_option maxHeartbeats 4000000 in
set_option maxRecDepth 100000 in
theorem p_inHand_out {l : Launch} {D : va_G} {ids : List Nat} {ad : Nat → Nat} {ca : Nat → ClassId} {σ : HS} {p0 : Int32} (hid : ∀ i, i < 277 → i ∈ ids) (ho : p0 < 0 ∨ 60 < p0) : Ki l D ids ad ca yX11_inHand cX11_inHand 2 .int 0 0 [.ref (ad 0), .int p0] σ (fun r σ1 => r = (-1) ∧ keepM σ σ1) := by
  refine Ki.of (by decide) (Nat.le_of_ble_eq_true rfl) 0 (fun Γ C Rt => ?_)
  show AW ids ad ca Γ 0 [some (.ref (ad 0)), some (.int p0)] [] σ
  refine a_iload_n C dX11_inHand_0 (i := 1) rfl rfl ?_
  refine a_if_lt C dX11_inHand_1 (tgt := 10) rfl (fun c1 => ?_) (fun c1 => ?_)
  ·
    refine a_iconst C dX11_inHand_10 (v := (-1)) rfl ?_
    exact a_iret Rt dX11_inHand_11 rfl (⟨rfl, keepM.rf⟩)
  ·
    refine a_iload_n C dX11_inHand_4 (i := 1) rfl rfl ?_
    refine a_bipush C dX11_inHand_5 (v := 60) rfl ?_
    refine a_ic_le C dX11_inHand_7 (tgt := 12) rfl (fun c2 => absurd c2 (Int32.not_le.mpr (ho.resolve_left c1))) (fun c2 => ?_)
    refine a_iconst C dX11_inHand_10 (v := (-1)) rfl ?_
    exact a_iret Rt dX11_inHand_11 rfl (⟨rfl, keepM.rf⟩)
theorem dX11_firstClash_0 : decode cX11_firstClash 0 = .ok (.iconst 0, 1) := by decide +kernel
theorem dX11_firstClash_1 : decode cX11_firstClash 1 = .ok (.istore_n 2, 1) := by decide +kernel
theorem dX11_firstClash_2 : decode cX11_firstClash 2 = .ok (.iload_n 2, 1) := by decide +kernel
theorem dX11_firstClash_3 : decode cX11_firstClash 3 = .ok (.iload_n 1, 1) := by decide +kernel
theorem dX11_firstClash_4 : decode cX11_firstClash 4 = .ok (.if_icmp .gt 37, 3) := by decide +kernel
theorem dX11_firstClash_7 : decode cX11_firstClash 7 = .ok (.aload_n 0, 1) := by decide +kernel
theorem dX11_firstClash_8 : decode cX11_firstClash 8 = .ok (.getfield 58, 3) := by decide +kernel
theorem dX11_firstClash_11 : decode cX11_firstClash 11 = .ok (.invokevirtual 292, 3) := by decide +kernel
theorem dX11_firstClash_14 : decode cX11_firstClash 14 = .ok (.iconst 1, 1) := by decide +kernel
theorem dX11_firstClash_15 : decode cX11_firstClash 15 = .ok (.if_icmp .le 5, 3) := by decide +kernel
theorem dX11_firstClash_20 : decode cX11_firstClash 20 = .ok (.aload_n 0, 1) := by decide +kernel
theorem dX11_firstClash_21 : decode cX11_firstClash 21 = .ok (.getfield 19, 3) := by decide +kernel
theorem dX11_firstClash_24 : decode cX11_firstClash 24 = .ok (.aload_n 0, 1) := by decide +kernel
theorem dX11_firstClash_25 : decode cX11_firstClash 25 = .ok (.getfield 82, 3) := by decide +kernel
theorem dX11_firstClash_28 : decode cX11_firstClash 28 = .ok (.aload_n 0, 1) := by decide +kernel
theorem dX11_firstClash_29 : decode cX11_firstClash 29 = .ok (.getfield 58, 3) := by decide +kernel
theorem dX11_firstClash_32 : decode cX11_firstClash 32 = .ok (.invokevirtual 285, 3) := by decide +kernel
theorem dX11_firstClash_35 : decode cX11_firstClash 35 = .ok (.iinc 2 1, 3) := by decide +kernel
theorem dX11_firstClash_38 : decode cX11_firstClash 38 = .ok (.goto (-36), 3) := by decide +kernel
theorem dX11_firstClash_41 : decode cX11_firstClash 41 = .ok (.bipush (-2), 2) := by decide +kernel
theorem dX11_firstClash_43 : decode cX11_firstClash 43 = .ok (.ireturn, 1) := by decide +kernel
set_option maxHeartbeats 4000000 in
set_option maxRecDepth 100000 in
theorem k_firstClash {l : Launch} {D : va_G} {ids : List Nat} {ad : Nat → Nat} {ca : Nat → ClassId} {σ : HS} (hid : ∀ i, i < 277 → i ∈ ids) (htx0 : σ.2.2 0 = 30) (h_30_10 : σ.1 30 10 = 1) (h_60_0 : σ.1 60 0 = 0) (h_60_4 : σ.1 60 4 = 0) (h_60_5 : σ.1 60 5 = 0) (h_60_6 : σ.1 60 6 = 0) (h_60_8 : σ.1 60 8 = 0) : Ki l D ids ad ca yX11_firstClash cX11_firstClash 3 .int 3 68 [.ref (ad 0), .int 60] σ (fun r σ1 => r = (-2) ∧ only [60] σ σ1) := by
  refine Ki.of (by decide) (Nat.le_of_ble_eq_true rfl) 1 (fun Γ C Rt => ?_)
  show AW ids ad ca Γ 0 [some (.ref (ad 0)), some (.int 60), none] [] σ
  refine a_iconst C dX11_firstClash_0 (v := 0) rfl ?_
  refine a_istore_n C dX11_firstClash_1 (i := 2) rfl (by decide) rfl (vs1 := [some (.ref (ad 0)), some (.int 60), some (.int 0)]) rfl ?_
  have loop : ∀ (d j : Nat) (σ2 : HS), j + d = 61 → (only [60] σ σ2 ∧ σ2.1 60 0 = 0 ∧ σ2.1 60 5 = 0 ∧ σ2.1 60 6 = 0 ∧ σ2.1 60 8 = 0 ∧ σ2.1 60 4 = (nI (0 + j))) → AW ids ad ca Γ 2 [some (.ref (ad 0)), some (.int 60), some (.int (nI j))] [] σ2 := by
    intro d
    induction d with
    | zero =>
      intro j σ2 hj hV
      refine a_iload_n C dX11_firstClash_2 (i := 2) rfl rfl ?_
      refine a_iload_n C dX11_firstClash_3 (i := 1) rfl rfl ?_
      refine a_ic_gt C dX11_firstClash_4 (tgt := 41) rfl (fun c1 => ?_) (fun c1 => absurd c1 (fun q => q (nI_lt (a := (60)) (b := (j)) (by omega) (by omega))))
      refine a_bipush C dX11_firstClash_41 (v := (-2)) rfl ?_
      exact a_iret Rt dX11_firstClash_43 rfl (⟨rfl, (only.tr only.rf (only.mono hV.1 (by decide)))⟩)
    | succ d ih =>
      intro j σ2 hj hV
      refine a_iload_n C dX11_firstClash_2 (i := 2) rfl rfl ?_
      refine a_iload_n C dX11_firstClash_3 (i := 1) rfl rfl ?_
      refine a_ic_gt C dX11_firstClash_4 (tgt := 41) rfl (fun c2 => absurd c2 (nI_nlt (a := (60)) (b := (j)) (by omega) (by omega))) (fun c2 => ?_)
      refine a_aload_n C dX11_firstClash_7 (i := 0) rfl rfl ?_
      refine a_get C fl_RX11_58 (i := 0) kd_0 (hid 0 (by decide)) (v := .ref (ad 60)) rfl dX11_firstClash_8 ?_
      refine a_callVi C (i := 60) kd_60 (hid 60 (by decide)) ⟨_, _, rfl⟩ (by decide) (k_howManyLand_60 hid hV.2.1) mi_X0_howManyLand ml_RX11_292 rfl rfl (Nat.le_of_ble_eq_true rfl) (Nat.le_of_ble_eq_true rfl) (Nat.le_of_ble_eq_true rfl) dX11_firstClash_11 (fun r3 σ4 q5 => ?_)
      obtain ⟨rfl, q5⟩ := q5
      rw [q5]
      refine a_iconst C dX11_firstClash_14 (v := 1) rfl ?_
      refine a_ic_le C dX11_firstClash_15 (tgt := 20) rfl (fun _ => ?_) (fun h => absurd h (by decide))
      refine a_aload_n C dX11_firstClash_20 (i := 0) rfl rfl ?_
      refine a_get C fl_RX11_19 (i := 0) kd_0 (hid 0 (by decide)) (v := .ref (ad 8)) rfl dX11_firstClash_21 ?_
      refine a_aload_n C dX11_firstClash_24 (i := 0) rfl rfl ?_
      refine a_get C fl_RX11_82 (i := 0) kd_0 (hid 0 (by decide)) (v := .ref (ad 30)) (congrArg (fun z => some (Value.ref (ad z))) (Eq.trans (congrArg (fun z => z.2 0) hV.1.2) htx0)) dX11_firstClash_25 ?_
      refine a_aload_n C dX11_firstClash_28 (i := 0) rfl rfl ?_
      refine a_get C fl_RX11_58 (i := 0) kd_0 (hid 0 (by decide)) (v := .ref (ad 60)) rfl dX11_firstClash_29 ?_
      refine a_callVv C (i := 8) kd_8 (hid 8 (by decide)) ⟨_, _, rfl⟩ (by decide) (k_goOnSafely hid (bt := 0 + j) hV.2.2.2.2.2 ((congrFun (hV.1.1 30 (by decide)) 10).trans h_30_10) hV.2.1 hV.2.2.1 hV.2.2.2.1 hV.2.2.2.2.1) mi_X4_goOnSafely ml_RX11_285 rfl rfl (Nat.le_of_ble_eq_true rfl) (Nat.le_of_ble_eq_true rfl) (Nat.le_of_ble_eq_true rfl) dX11_firstClash_32 (fun σ7 q8 => ?_)
      refine a_iinc C dX11_firstClash_35 rfl (v := (nI (j + 1))) (nI_1 _) (by decide) rfl (vs1 := [some (.ref (ad 0)), some (.int 60), some (.int (nI (j + 1)))]) rfl ?_
      refine a_goto C dX11_firstClash_38 (tgt := 2) rfl ?_
      exact ih (j + 1) _ (by omega) ⟨(only.tr (only.tr only.rf (only.mono hV.1 (by decide))) (only.mono q8.1 (by decide))), q8.2.1, q8.2.2.1, q8.2.2.2.1, q8.2.2.2.2.1, (Eq.trans q8.2.2.2.2.2 (congrArg nI (show 0 + j + 1 = 0 + (j + 1) by omega)))⟩
  exact loop (61 - 0) 0 _ (by omega) ⟨only.rf, h_60_0, h_60_5, h_60_6, h_60_8, (Eq.trans h_60_4 (congrArg nI (show 0 = 0 + 0 by omega)))⟩
theorem dX11_clash_0 : decode cX11_clash 0 = .ok (.aload_n 0, 1) := by decide +kernel
theorem dX11_clash_1 : decode cX11_clash 1 = .ok (.getfield 58, 3) := by decide +kernel
theorem dX11_clash_4 : decode cX11_clash 4 = .ok (.aload_n 0, 1) := by decide +kernel
theorem dX11_clash_5 : decode cX11_clash 5 = .ok (.getfield 54, 3) := by decide +kernel
theorem dX11_clash_8 : decode cX11_clash 8 = .ok (.invokevirtual 230, 3) := by decide +kernel
theorem dX11_clash_11 : decode cX11_clash 11 = .ok (.aload_n 0, 1) := by decide +kernel
theorem dX11_clash_12 : decode cX11_clash 12 = .ok (.bipush 60, 2) := by decide +kernel
theorem dX11_clash_14 : decode cX11_clash 14 = .ok (.invokevirtual 289, 3) := by decide +kernel
theorem dX11_clash_17 : decode cX11_clash 17 = .ok (.ireturn, 1) := by decide +kernel
set_option maxHeartbeats 4000000 in
set_option maxRecDepth 100000 in
theorem p_clash {l : Launch} {D : va_G} {ids : List Nat} {ad : Nat → Nat} {ca : Nat → ClassId} {σ : HS} (hid : ∀ i, i < 277 → i ∈ ids) (htx0 : σ.2.2 0 = 30) (h_30_10 : σ.1 30 10 = 1) (h_56_0 : σ.1 56 0 = 0) (h_56_4 : σ.1 56 4 = 0) (h_56_5 : σ.1 56 5 = 0) (h_56_6 : σ.1 56 6 = 0) (h_56_7 : σ.1 56 7 = 0) (h_56_8 : σ.1 56 8 = 0) (h_56_9 : σ.1 56 9 = (-1)) (h_56_10 : σ.1 56 10 = 0) (h_56_11 : σ.1 56 11 = (-1)) : Ki l D ids ad ca yX11_clash cX11_clash 1 .int 4 90 [.ref (ad 0)] σ (fun r σ1 => r = (-2) ∧ keepM σ σ1) := by
  refine Ki.of (by decide) (Nat.le_of_ble_eq_true rfl) 0 (fun Γ C Rt => ?_)
  show AW ids ad ca Γ 0 [some (.ref (ad 0))] [] σ
  refine a_aload_n C dX11_clash_0 (i := 0) rfl rfl ?_
  refine a_get C fl_RX11_58 (i := 0) kd_0 (hid 0 (by decide)) (v := .ref (ad 60)) rfl dX11_clash_1 ?_
  refine a_aload_n C dX11_clash_4 (i := 0) rfl rfl ?_
  refine a_get C fl_RX11_54 (i := 0) kd_0 (hid 0 (by decide)) (v := .ref (ad 56)) rfl dX11_clash_5 ?_
  refine a_callVv C (i := 60) kd_60 (hid 60 (by decide)) ⟨_, _, rfl⟩ (by decide) (k_copy_60 hid h_56_0 h_56_4 h_56_5 h_56_6 h_56_7 h_56_8 h_56_9 h_56_10 h_56_11) mi_X0_copy ml_RX11_230 rfl rfl (Nat.le_of_ble_eq_true rfl) (Nat.le_of_ble_eq_true rfl) (Nat.le_of_ble_eq_true rfl) dX11_clash_8 (fun σ2 q3 => ?_)
  refine a_aload_n C dX11_clash_11 (i := 0) rfl rfl ?_
  refine a_bipush C dX11_clash_12 (v := 60) rfl ?_
  refine a_callVi C (i := 0) kd_0 (hid 0 (by decide)) ⟨_, _, rfl⟩ (by decide) (k_firstClash hid (Eq.trans (congrArg (fun z => z.2 0) q3.1.2) htx0) ((congrFun (q3.1.1 30 (by decide)) 10).trans h_30_10) q3.2.1 q3.2.2.2.2.2 q3.2.2.1 q3.2.2.2.1 q3.2.2.2.2.1) mi_X11_firstClash ml_RX11_289 rfl rfl (Nat.le_of_ble_eq_true rfl) (Nat.le_of_ble_eq_true rfl) (Nat.le_of_ble_eq_true rfl) dX11_clash_14 (fun r4 σ5 q6 => ?_)
  obtain ⟨rfl, q6⟩ := q6
  exact a_iret Rt dX11_clash_17 rfl (⟨rfl, (keepM.tr (keepM.tr keepM.rf (only.keepM q3.1 (by decide))) (only.keepM q6 (by decide)))⟩)
theorem dX11_limit_0 : decode cX11_limit 0 = .ok (.iload_n 1, 1) := by decide +kernel
theorem dX11_limit_1 : decode cX11_limit 1 = .ok (.ifCond .lt 10, 3) := by decide +kernel
theorem dX11_limit_4 : decode cX11_limit 4 = .ok (.iload_n 1, 1) := by decide +kernel
theorem dX11_limit_5 : decode cX11_limit 5 = .ok (.sipush 999, 3) := by decide +kernel
theorem dX11_limit_8 : decode cX11_limit 8 = .ok (.if_icmp .le 5, 3) := by decide +kernel
theorem dX11_limit_13 : decode cX11_limit 13 = .ok (.aload_n 0, 1) := by decide +kernel
theorem dX11_limit_14 : decode cX11_limit 14 = .ok (.getfield 58, 3) := by decide +kernel
theorem dX11_limit_17 : decode cX11_limit 17 = .ok (.aload_n 0, 1) := by decide +kernel
theorem dX11_limit_18 : decode cX11_limit 18 = .ok (.getfield 54, 3) := by decide +kernel
theorem dX11_limit_21 : decode cX11_limit 21 = .ok (.invokevirtual 230, 3) := by decide +kernel
theorem dX11_limit_24 : decode cX11_limit 24 = .ok (.iconst 0, 1) := by decide +kernel
theorem dX11_limit_25 : decode cX11_limit 25 = .ok (.istore_n 2, 1) := by decide +kernel
theorem dX11_limit_26 : decode cX11_limit 26 = .ok (.iload_n 2, 1) := by decide +kernel
theorem dX11_limit_27 : decode cX11_limit 27 = .ok (.sipush 200, 3) := by decide +kernel
theorem dX11_limit_30 : decode cX11_limit 30 = .ok (.if_icmp .gt 45, 3) := by decide +kernel
theorem dX11_limit_33 : decode cX11_limit 33 = .ok (.aload_n 0, 1) := by decide +kernel
theorem dX11_limit_34 : decode cX11_limit 34 = .ok (.getfield 58, 3) := by decide +kernel
theorem dX11_limit_37 : decode cX11_limit 37 = .ok (.getfield 177, 3) := by decide +kernel
theorem dX11_limit_40 : decode cX11_limit 40 = .ok (.iload_n 1, 1) := by decide +kernel
theorem dX11_limit_41 : decode cX11_limit 41 = .ok (.if_icmp .lt 5, 3) := by decide +kernel
theorem dX11_limit_44 : decode cX11_limit 44 = .ok (.iload_n 2, 1) := by decide +kernel
theorem dX11_limit_45 : decode cX11_limit 45 = .ok (.ireturn, 1) := by decide +kernel
set_option maxHeartbeats 4000000 in
set_option maxRecDepth 100000 in
theorem p_limit_0 {l : Launch} {D : va_G} {ids : List Nat} {ad : Nat → Nat} {ca : Nat → ClassId} {σ : HS} (hid : ∀ i, i < 277 → i ∈ ids) (h_56_0 : σ.1 56 0 = 0) (h_56_4 : σ.1 56 4 = 0) (h_56_5 : σ.1 56 5 = 0) (h_56_6 : σ.1 56 6 = 0) (h_56_7 : σ.1 56 7 = 0) (h_56_8 : σ.1 56 8 = 0) (h_56_9 : σ.1 56 9 = (-1)) (h_56_10 : σ.1 56 10 = 0) (h_56_11 : σ.1 56 11 = (-1)) : Ki l D ids ad ca yX11_limit cX11_limit 3 .int 2 81 [.ref (ad 0), .int 0] σ (fun r σ1 => r = 0 ∧ keepM σ σ1) := by
  refine Ki.of (by decide) (Nat.le_of_ble_eq_true rfl) 1 (fun Γ C Rt => ?_)
  show AW ids ad ca Γ 0 [some (.ref (ad 0)), some (.int 0), none] [] σ
  refine a_iload_n C dX11_limit_0 (i := 1) rfl rfl ?_
  refine a_if_lt C dX11_limit_1 (tgt := 11) rfl (fun h => absurd h (by decide)) (fun _ => ?_)
  refine a_iload_n C dX11_limit_4 (i := 1) rfl rfl ?_
  refine a_sipush C dX11_limit_5 (v := 999) rfl ?_
  refine a_ic_le C dX11_limit_8 (tgt := 13) rfl (fun _ => ?_) (fun h => absurd h (by decide))
  refine a_aload_n C dX11_limit_13 (i := 0) rfl rfl ?_
  refine a_get C fl_RX11_58 (i := 0) kd_0 (hid 0 (by decide)) (v := .ref (ad 60)) rfl dX11_limit_14 ?_
  refine a_aload_n C dX11_limit_17 (i := 0) rfl rfl ?_
  refine a_get C fl_RX11_54 (i := 0) kd_0 (hid 0 (by decide)) (v := .ref (ad 56)) rfl dX11_limit_18 ?_
  refine a_callVv C (i := 60) kd_60 (hid 60 (by decide)) ⟨_, _, rfl⟩ (by decide) (k_copy_60 hid h_56_0 h_56_4 h_56_5 h_56_6 h_56_7 h_56_8 h_56_9 h_56_10 h_56_11) mi_X0_copy ml_RX11_230 rfl rfl (Nat.le_of_ble_eq_true rfl) (Nat.le_of_ble_eq_true rfl) (Nat.le_of_ble_eq_true rfl) dX11_limit_21 (fun σ2 q3 => ?_)
  refine a_iconst C dX11_limit_24 (v := 0) rfl ?_
  refine a_istore_n C dX11_limit_25 (i := 2) rfl (by decide) rfl (vs1 := [some (.ref (ad 0)), some (.int 0), some (.int 0)]) rfl ?_
  refine a_iload_n C dX11_limit_26 (i := 2) rfl rfl ?_
  refine a_sipush C dX11_limit_27 (v := 200) rfl ?_
  refine a_ic_gt C dX11_limit_30 (tgt := 75) rfl (fun h => absurd h (by decide)) (fun _ => ?_)
  refine a_aload_n C dX11_limit_33 (i := 0) rfl rfl ?_
  refine a_get C fl_RX11_58 (i := 0) kd_0 (hid 0 (by decide)) (v := .ref (ad 60)) rfl dX11_limit_34 ?_
  refine a_get C fl_RX11_177 (i := 60) kd_60 (hid 60 (by decide)) (v := .int 0) (congrArg (fun z => some (Value.int z)) q3.2.2.1) dX11_limit_37 ?_
  refine a_iload_n C dX11_limit_40 (i := 1) rfl rfl ?_
  refine a_ic_lt C dX11_limit_41 (tgt := 46) rfl (fun h => absurd h (by decide)) (fun _ => ?_)
  refine a_iload_n C dX11_limit_44 (i := 2) rfl rfl ?_
  exact a_iret Rt dX11_limit_45 rfl (⟨rfl, (keepM.tr keepM.rf (only.keepM q3.1 (by decide)))⟩)
theorem dX11_limit_46 : decode cX11_limit 46 = .ok (.aload_n 0, 1) := by decide +kernel
theorem dX11_limit_47 : decode cX11_limit 47 = .ok (.getfield 19, 3) := by decide +kernel
theorem dX11_limit_50 : decode cX11_limit 50 = .ok (.aload_n 0, 1) := by decide +kernel
theorem dX11_limit_51 : decode cX11_limit 51 = .ok (.getfield 82, 3) := by decide +kernel
theorem dX11_limit_54 : decode cX11_limit 54 = .ok (.aload_n 0, 1) := by decide +kernel
theorem dX11_limit_55 : decode cX11_limit 55 = .ok (.getfield 58, 3) := by decide +kernel
theorem dX11_limit_58 : decode cX11_limit 58 = .ok (.iconst 1, 1) := by decide +kernel
theorem dX11_limit_59 : decode cX11_limit 59 = .ok (.aload_n 0, 1) := by decide +kernel
theorem dX11_limit_60 : decode cX11_limit 60 = .ok (.getfield 82, 3) := by decide +kernel
theorem dX11_limit_63 : decode cX11_limit 63 = .ok (.getfield 220, 3) := by decide +kernel
theorem dX11_limit_66 : decode cX11_limit 66 = .ok (.invokevirtual 223, 3) := by decide +kernel
theorem dX11_limit_69 : decode cX11_limit 69 = .ok (.iinc 2 1, 3) := by decide +kernel
theorem dX11_limit_72 : decode cX11_limit 72 = .ok (.goto (-46), 3) := by decide +kernel
theorem dX11_limit_75 : decode cX11_limit 75 = .ok (.bipush (-2), 2) := by decide +kernel
theorem dX11_limit_77 : decode cX11_limit 77 = .ok (.ireturn, 1) := by decide +kernel
set_option maxHeartbeats 4000000 in
set_option maxRecDepth 100000 in
theorem p_limit_in {l : Launch} {D : va_G} {ids : List Nat} {ad : Nat → Nat} {ca : Nat → ClassId} {σ : HS} {p0 : Int32} (hid : ∀ i, i < 277 → i ∈ ids) (h1 : 0 < p0) (h2 : p0 ≤ 999) (htx0 : σ.2.2 0 = 30) (h_30_10 : σ.1 30 10 = 1) (h_30_11 : σ.1 30 11 = 0) (h_56_0 : σ.1 56 0 = 0) (h_56_4 : σ.1 56 4 = 0) (h_56_5 : σ.1 56 5 = 0) (h_56_6 : σ.1 56 6 = 0) (h_56_7 : σ.1 56 7 = 0) (h_56_8 : σ.1 56 8 = 0) (h_56_9 : σ.1 56 9 = (-1)) (h_56_10 : σ.1 56 10 = 0) (h_56_11 : σ.1 56 11 = (-1)) : Ki l D ids ad ca yX11_limit cX11_limit 3 .int 3 81 [.ref (ad 0), .int p0] σ (fun r σ1 => r = (-2) ∧ keepM σ σ1) := by
  refine Ki.of (by decide) (Nat.le_of_ble_eq_true rfl) 1 (fun Γ C Rt => ?_)
  show AW ids ad ca Γ 0 [some (.ref (ad 0)), some (.int p0), none] [] σ
  refine a_iload_n C dX11_limit_0 (i := 1) rfl rfl ?_
  refine a_if_lt C dX11_limit_1 (tgt := 11) rfl (fun c1 => absurd c1 (Int32.not_lt.mpr (Int32.le_of_lt h1))) (fun c1 => ?_)
  refine a_iload_n C dX11_limit_4 (i := 1) rfl rfl ?_
  refine a_sipush C dX11_limit_5 (v := 999) rfl ?_
  refine a_ic_le C dX11_limit_8 (tgt := 13) rfl (fun c2 => ?_) (fun c2 => absurd c2 (fun q => q h2))
  refine a_aload_n C dX11_limit_13 (i := 0) rfl rfl ?_
  refine a_get C fl_RX11_58 (i := 0) kd_0 (hid 0 (by decide)) (v := .ref (ad 60)) rfl dX11_limit_14 ?_
  refine a_aload_n C dX11_limit_17 (i := 0) rfl rfl ?_
  refine a_get C fl_RX11_54 (i := 0) kd_0 (hid 0 (by decide)) (v := .ref (ad 56)) rfl dX11_limit_18 ?_
  refine a_callVv C (i := 60) kd_60 (hid 60 (by decide)) ⟨_, _, rfl⟩ (by decide) (k_copy_60 hid h_56_0 h_56_4 h_56_5 h_56_6 h_56_7 h_56_8 h_56_9 h_56_10 h_56_11) mi_X0_copy ml_RX11_230 rfl rfl (Nat.le_of_ble_eq_true rfl) (Nat.le_of_ble_eq_true rfl) (Nat.le_of_ble_eq_true rfl) dX11_limit_21 (fun σ4 q5 => ?_)
  refine a_iconst C dX11_limit_24 (v := 0) rfl ?_
  refine a_istore_n C dX11_limit_25 (i := 2) rfl (by decide) rfl (vs1 := [some (.ref (ad 0)), some (.int p0), some (.int 0)]) rfl ?_
  have loop : ∀ (d j : Nat) (σ2 : HS), j + d = 201 → (only [60, 61, 62, 63] σ σ2 ∧ σ2.1 60 0 = 0 ∧ σ2.1 60 5 = 0 ∧ σ2.1 60 6 = 0 ∧ σ2.1 60 8 = 0 ∧ σ2.1 60 4 = (nI (0 + j))) → AW ids ad ca Γ 26 [some (.ref (ad 0)), some (.int p0), some (.int (nI j))] [] σ2 := by
    intro d
    induction d with
    | zero =>
      intro j σ2 hj hV
      refine a_iload_n C dX11_limit_26 (i := 2) rfl rfl ?_
      refine a_sipush C dX11_limit_27 (v := 200) rfl ?_
      refine a_ic_gt C dX11_limit_30 (tgt := 75) rfl (fun c6 => ?_) (fun c6 => absurd c6 (fun q => q (nI_lt (a := (200)) (b := (j)) (by omega) (by omega))))
      refine a_bipush C dX11_limit_75 (v := (-2)) rfl ?_
      exact a_iret Rt dX11_limit_77 rfl (⟨rfl, (keepM.tr keepM.rf (only.keepM hV.1 (by decide)))⟩)
    | succ d ih =>
      intro j σ2 hj hV
      refine a_iload_n C dX11_limit_26 (i := 2) rfl rfl ?_
      refine a_sipush C dX11_limit_27 (v := 200) rfl ?_
      refine a_ic_gt C dX11_limit_30 (tgt := 75) rfl (fun c7 => absurd c7 (nI_nlt (a := (200)) (b := (j)) (by omega) (by omega))) (fun c7 => ?_)
      refine a_aload_n C dX11_limit_33 (i := 0) rfl rfl ?_
      refine a_get C fl_RX11_58 (i := 0) kd_0 (hid 0 (by decide)) (v := .ref (ad 60)) rfl dX11_limit_34 ?_
      refine a_get C fl_RX11_177 (i := 60) kd_60 (hid 60 (by decide)) (v := .int 0) (congrArg (fun z => some (Value.int z)) hV.2.2.1) dX11_limit_37 ?_
      refine a_iload_n C dX11_limit_40 (i := 1) rfl rfl ?_
      refine a_ic_lt C dX11_limit_41 (tgt := 46) rfl (fun c8 => ?_) (fun c8 => absurd c8 (fun q => q h1))
      refine a_aload_n C dX11_limit_46 (i := 0) rfl rfl ?_
      refine a_get C fl_RX11_19 (i := 0) kd_0 (hid 0 (by decide)) (v := .ref (ad 8)) rfl dX11_limit_47 ?_
      refine a_aload_n C dX11_limit_50 (i := 0) rfl rfl ?_
      refine a_get C fl_RX11_82 (i := 0) kd_0 (hid 0 (by decide)) (v := .ref (ad 30)) (congrArg (fun z => some (Value.ref (ad z))) (Eq.trans (congrArg (fun z => z.2 0) hV.1.2) htx0)) dX11_limit_51 ?_
      refine a_aload_n C dX11_limit_54 (i := 0) rfl rfl ?_
      refine a_get C fl_RX11_58 (i := 0) kd_0 (hid 0 (by decide)) (v := .ref (ad 60)) rfl dX11_limit_55 ?_
      refine a_iconst C dX11_limit_58 (v := 1) rfl ?_
      refine a_aload_n C dX11_limit_59 (i := 0) rfl rfl ?_
      refine a_get C fl_RX11_82 (i := 0) kd_0 (hid 0 (by decide)) (v := .ref (ad 30)) (congrArg (fun z => some (Value.ref (ad z))) (Eq.trans (congrArg (fun z => z.2 0) hV.1.2) htx0)) dX11_limit_60 ?_
      refine a_get C fl_RX11_220 (i := 30) kd_30 (hid 30 (by decide)) (v := .int 0) (congrArg (fun z => some (Value.int z)) ((congrFun (hV.1.1 30 (by decide)) 11).trans h_30_11)) dX11_limit_63 ?_
      refine a_callVv C (i := 8) kd_8 (hid 8 (by decide)) ⟨_, _, rfl⟩ (by decide) (k_goOn_60 hid (bt := 0 + j) (m := 1) hV.2.2.2.2.2 (by omega) ((congrFun (hV.1.1 30 (by decide)) 10).trans h_30_10) hV.2.1 hV.2.2.1 hV.2.2.2.1 hV.2.2.2.2.1) mi_X4_goOn ml_RX11_223 rfl rfl (Nat.le_of_ble_eq_true rfl) (Nat.le_of_ble_eq_true rfl) (Nat.le_of_ble_eq_true rfl) dX11_limit_66 (fun σ10 q11 => ?_)
      refine a_iinc C dX11_limit_69 rfl (v := (nI (j + 1))) (nI_1 _) (by decide) rfl (vs1 := [some (.ref (ad 0)), some (.int p0), some (.int (nI (j + 1)))]) rfl ?_
      refine a_goto C dX11_limit_72 (tgt := 26) rfl ?_
      exact ih (j + 1) _ (by omega) ⟨(only.tr (only.tr only.rf (only.mono hV.1 (by decide))) (only.mono q11.1 (by decide))), q11.2.1, q11.2.2.1, q11.2.2.2.1, q11.2.2.2.2.1, (Eq.trans q11.2.2.2.2.2 (congrArg nI (show 0 + j + 1 = 0 + (j + 1) by omega)))⟩
  exact loop (201 - 0) 0 _ (by omega) ⟨(only.tr only.rf (only.mono q5.1 (by decide))), q5.2.1, q5.2.2.1, q5.2.2.2.1, q5.2.2.2.2.1, (Eq.trans q5.2.2.2.2.2 (congrArg nI (show 0 = 0 + 0 by omega)))⟩
theorem dX11_limit_11 : decode cX11_limit 11 = .ok (.iconst (-1), 1) := by decide +kernel
theorem dX11_limit_12 : decode cX11_limit 12 = .ok (.ireturn, 1) := by decide +kernel
set_option maxHeartbeats 4000000 in
set_option maxRecDepth 100000 in
theorem p_limit_out {l : Launch} {D : va_G} {ids : List Nat} {ad : Nat → Nat} {ca : Nat → ClassId} {σ : HS} {p0 : Int32} (hid : ∀ i, i < 277 → i ∈ ids) (ho : p0 < 0 ∨ 999 < p0) : Ki l D ids ad ca yX11_limit cX11_limit 3 .int 0 0 [.ref (ad 0), .int p0] σ (fun r σ1 => r = (-1) ∧ keepM σ σ1) := by
  refine Ki.of (by decide) (Nat.le_of_ble_eq_true rfl) 1 (fun Γ C Rt => ?_)
  show AW ids ad ca Γ 0 [some (.ref (ad 0)), some (.int p0), none] [] σ
  refine a_iload_n C dX11_limit_0 (i := 1) rfl rfl ?_
  refine a_if_lt C dX11_limit_1 (tgt := 11) rfl (fun c1 => ?_) (fun c1 => ?_)
  ·
    refine a_iconst C dX11_limit_11 (v := (-1)) rfl ?_
    exact a_iret Rt dX11_limit_12 rfl (⟨rfl, keepM.rf⟩)
  ·
    refine a_iload_n C dX11_limit_4 (i := 1) rfl rfl ?_
    refine a_sipush C dX11_limit_5 (v := 999) rfl ?_
    refine a_ic_le C dX11_limit_8 (tgt := 13) rfl (fun c2 => absurd c2 (Int32.not_le.mpr (ho.resolve_left c1))) (fun c2 => ?_)
    refine a_iconst C dX11_limit_11 (v := (-1)) rfl ?_
    exact a_iret Rt dX11_limit_12 rfl (⟨rfl, keepM.rf⟩)
theorem dX11_isSpan_0 : decode cX11_isSpan 0 = .ok (.iload_n 0, 1) := by decide +kernel
theorem dX11_isSpan_1 : decode cX11_isSpan 1 = .ok (.iconst 1, 1) := by decide +kernel
theorem dX11_isSpan_2 : decode cX11_isSpan 2 = .ok (.if_icmp .lt 13, 3) := by decide +kernel
theorem dX11_isSpan_5 : decode cX11_isSpan 5 = .ok (.iload_n 0, 1) := by decide +kernel
theorem dX11_isSpan_6 : decode cX11_isSpan 6 = .ok (.bipush 60, 2) := by decide +kernel
theorem dX11_isSpan_8 : decode cX11_isSpan 8 = .ok (.if_icmp .gt 7, 3) := by decide +kernel
theorem dX11_isSpan_11 : decode cX11_isSpan 11 = .ok (.iconst 1, 1) := by decide +kernel
theorem dX11_isSpan_12 : decode cX11_isSpan 12 = .ok (.goto 4, 3) := by decide +kernel
theorem dX11_isSpan_16 : decode cX11_isSpan 16 = .ok (.ireturn, 1) := by decide +kernel
set_option maxHeartbeats 4000000 in
set_option maxRecDepth 100000 in
theorem k_isSpan_in {l : Launch} {D : va_G} {ids : List Nat} {ad : Nat → Nat} {ca : Nat → ClassId} {σ : HS} {m : Nat} (hid : ∀ i, i < 277 → i ∈ ids) (h1 : 1 ≤ m) (hm : m ≤ 60) : Ki l D ids ad ca yX11_isSpan cX11_isSpan 1 .boolean 0 0 [.int (nI m)] σ (fun r σ1 => r = 1 ∧ σ1 = σ) := by
  refine Ki.of (by decide) (Nat.le_of_ble_eq_true rfl) 0 (fun Γ C Rt => ?_)
  show AW ids ad ca Γ 0 [some (.int (nI m))] [] σ
  refine a_iload_n C dX11_isSpan_0 (i := 0) rfl rfl ?_
  refine a_iconst C dX11_isSpan_1 (v := 1) rfl ?_
  refine a_ic_lt C dX11_isSpan_2 (tgt := 15) rfl (fun c1 => absurd c1 (nI_nlt (a := (m)) (b := (1)) (by omega) (by omega))) (fun c1 => ?_)
  refine a_iload_n C dX11_isSpan_5 (i := 0) rfl rfl ?_
  refine a_bipush C dX11_isSpan_6 (v := 60) rfl ?_
  refine a_ic_gt C dX11_isSpan_8 (tgt := 15) rfl (fun c2 => absurd c2 (nI_nlt (a := (60)) (b := (m)) (by omega) (by omega))) (fun c2 => ?_)
  refine a_iconst C dX11_isSpan_11 (v := 1) rfl ?_
  refine a_goto C dX11_isSpan_12 (tgt := 16) rfl ?_
  exact a_iret Rt dX11_isSpan_16 rfl (⟨rfl, rfl⟩)
theorem dX11_isSpan_15 : decode cX11_isSpan 15 = .ok (.iconst 0, 1) := by decide +kernel
set_option maxHeartbeats 4000000 in
set_option maxRecDepth 100000 in
theorem k_isSpan_out {l : Launch} {D : va_G} {ids : List Nat} {ad : Nat → Nat} {ca : Nat → ClassId} {σ : HS} {p0 : Int32} (hid : ∀ i, i < 277 → i ∈ ids) (ho : p0 < 1 ∨ 60 < p0) : Ki l D ids ad ca yX11_isSpan cX11_isSpan 1 .boolean 0 0 [.int p0] σ (fun r σ1 => r = 0 ∧ σ1 = σ) := by
  refine Ki.of (by decide) (Nat.le_of_ble_eq_true rfl) 0 (fun Γ C Rt => ?_)
  show AW ids ad ca Γ 0 [some (.int p0)] [] σ
  refine a_iload_n C dX11_isSpan_0 (i := 0) rfl rfl ?_
  refine a_iconst C dX11_isSpan_1 (v := 1) rfl ?_
  refine a_ic_lt C dX11_isSpan_2 (tgt := 15) rfl (fun c1 => ?_) (fun c1 => ?_)
  ·
    refine a_iconst C dX11_isSpan_15 (v := 0) rfl ?_
    exact a_iret Rt dX11_isSpan_16 rfl (⟨rfl, rfl⟩)
  ·
    refine a_iload_n C dX11_isSpan_5 (i := 0) rfl rfl ?_
    refine a_bipush C dX11_isSpan_6 (v := 60) rfl ?_
    refine a_ic_gt C dX11_isSpan_8 (tgt := 15) rfl (fun c2 => ?_) (fun c2 => absurd c2 (fun q => q (ho.resolve_left c1)))
    refine a_iconst C dX11_isSpan_15 (v := 0) rfl ?_
    exact a_iret Rt dX11_isSpan_16 rfl (⟨rfl, rfl⟩)
theorem dJ7_fill_53178_0 : decode cJ7_fill_53178 0 = .ok (.iconst 0, 1) := by decide +kernel
theorem dJ7_fill_53178_1 : decode cJ7_fill_53178 1 = .ok (.istore_n 2, 1) := by decide +kernel
theorem dJ7_fill_53178_2 : decode cJ7_fill_53178 2 = .ok (.aload_n 0, 1) := by decide +kernel
theorem dJ7_fill_53178_3 : decode cJ7_fill_53178 3 = .ok (.arraylength, 1) := by decide +kernel
theorem dJ7_fill_53178_4 : decode cJ7_fill_53178 4 = .ok (.istore_n 3, 1) := by decide +kernel
theorem dJ7_fill_53178_5 : decode cJ7_fill_53178 5 = .ok (.iload_n 2, 1) := by decide +kernel
theorem dJ7_fill_53178_6 : decode cJ7_fill_53178 6 = .ok (.iload_n 3, 1) := by decide +kernel
theorem dJ7_fill_53178_7 : decode cJ7_fill_53178 7 = .ok (.if_icmp .ge 13, 3) := by decide +kernel
theorem dJ7_fill_53178_10 : decode cJ7_fill_53178 10 = .ok (.aload_n 0, 1) := by decide +kernel
theorem dJ7_fill_53178_11 : decode cJ7_fill_53178 11 = .ok (.iload_n 2, 1) := by decide +kernel
theorem dJ7_fill_53178_12 : decode cJ7_fill_53178 12 = .ok (.iload_n 1, 1) := by decide +kernel
theorem dJ7_fill_53178_13 : decode cJ7_fill_53178 13 = .ok (.iastore, 1) := by decide +kernel
theorem dJ7_fill_53178_14 : decode cJ7_fill_53178 14 = .ok (.iinc 2 1, 3) := by decide +kernel
theorem dJ7_fill_53178_17 : decode cJ7_fill_53178 17 = .ok (.goto (-12), 3) := by decide +kernel
theorem dJ7_fill_53178_20 : decode cJ7_fill_53178 20 = .ok (.return_, 1) := by decide +kernel
set_option maxHeartbeats 4000000 in
set_option maxRecDepth 100000 in
theorem k_fill {l : Launch} {D : va_G} {ids : List Nat} {ad : Nat → Nat} {ca : Nat → ClassId} {σ : HS} (hid : ∀ i, i < 277 → i ∈ ids) : Kv l D ids ad ca yJ7_fill_53178 cJ7_fill_53178 4 0 0 [.ref (ad 28), .int 0] σ (fun σ1 => only [28] σ σ1 ∧ σ1.1 28 0 = 0 ∧ σ1.1 28 1 = 0 ∧ σ1.1 28 2 = 0 ∧ σ1.1 28 3 = 0 ∧ σ1.1 28 4 = 0 ∧ σ1.1 28 5 = 0 ∧ σ1.1 28 6 = 0) := by
  refine Kv.of (by decide) (Nat.le_of_ble_eq_true rfl) 2 (fun Γ C Rt => ?_)
  show AW ids ad ca Γ 0 [some (.ref (ad 28)), some (.int 0), none, none] [] σ
  refine a_iconst C dJ7_fill_53178_0 (v := 0) rfl ?_
  refine a_istore_n C dJ7_fill_53178_1 (i := 2) rfl (by decide) rfl (vs1 := [some (.ref (ad 28)), some (.int 0), some (.int 0), none]) rfl ?_
  refine a_aload_n C dJ7_fill_53178_2 (i := 0) rfl rfl ?_
  refine a_alen C (by rw [kd_28]; decide) (hid 28 (by decide)) (v := 7) (by rw [al_28]; rfl) dJ7_fill_53178_3 ?_
  refine a_istore_n C dJ7_fill_53178_4 (i := 3) rfl (by decide) rfl (vs1 := [some (.ref (ad 28)), some (.int 0), some (.int 0), some (.int 7)]) rfl ?_
  refine a_iload_n C dJ7_fill_53178_5 (i := 2) rfl rfl ?_
  refine a_iload_n C dJ7_fill_53178_6 (i := 3) rfl rfl ?_
  refine a_ic_ge C dJ7_fill_53178_7 (tgt := 20) rfl (fun h => absurd h (by decide)) (fun _ => ?_)
  refine a_aload_n C dJ7_fill_53178_10 (i := 0) rfl rfl ?_
  refine a_iload_n C dJ7_fill_53178_11 (i := 2) rfl rfl ?_
  refine a_iload_n C dJ7_fill_53178_12 (i := 1) rfl rfl ?_
  refine a_iast C (i := 28) 0 kd_28 (hid 28 (by decide)) (by decide) rfl (by rw [al_28]; decide) dJ7_fill_53178_13 ?_
  refine a_iinc C dJ7_fill_53178_14 rfl (v := 1) rfl (by decide) rfl (vs1 := [some (.ref (ad 28)), some (.int 0), some (.int 1), some (.int 7)]) rfl ?_
  refine a_goto C dJ7_fill_53178_17 (tgt := 5) rfl ?_
  refine a_iload_n C dJ7_fill_53178_5 (i := 2) rfl rfl ?_
  refine a_iload_n C dJ7_fill_53178_6 (i := 3) rfl rfl ?_
  refine a_ic_ge C dJ7_fill_53178_7 (tgt := 20) rfl (fun h => absurd h (by decide)) (fun _ => ?_)
  refine a_aload_n C dJ7_fill_53178_10 (i := 0) rfl rfl ?_
  refine a_iload_n C dJ7_fill_53178_11 (i := 2) rfl rfl ?_
  refine a_iload_n C dJ7_fill_53178_12 (i := 1) rfl rfl ?_
  refine a_iast C (i := 28) 1 kd_28 (hid 28 (by decide)) (by decide) rfl (by rw [al_28]; decide) dJ7_fill_53178_13 ?_
  refine a_iinc C dJ7_fill_53178_14 rfl (v := 2) rfl (by decide) rfl (vs1 := [some (.ref (ad 28)), some (.int 0), some (.int 2), some (.int 7)]) rfl ?_
  refine a_goto C dJ7_fill_53178_17 (tgt := 5) rfl ?_
  refine a_iload_n C dJ7_fill_53178_5 (i := 2) rfl rfl ?_
  refine a_iload_n C dJ7_fill_53178_6 (i := 3) rfl rfl ?_
  refine a_ic_ge C dJ7_fill_53178_7 (tgt := 20) rfl (fun h => absurd h (by decide)) (fun _ => ?_)
  refine a_aload_n C dJ7_fill_53178_10 (i := 0) rfl rfl ?_
  refine a_iload_n C dJ7_fill_53178_11 (i := 2) rfl rfl ?_
  refine a_iload_n C dJ7_fill_53178_12 (i := 1) rfl rfl ?_
  refine a_iast C (i := 28) 2 kd_28 (hid 28 (by decide)) (by decide) rfl (by rw [al_28]; decide) dJ7_fill_53178_13 ?_
  refine a_iinc C dJ7_fill_53178_14 rfl (v := 3) rfl (by decide) rfl (vs1 := [some (.ref (ad 28)), some (.int 0), some (.int 3), some (.int 7)]) rfl ?_
  refine a_goto C dJ7_fill_53178_17 (tgt := 5) rfl ?_
  refine a_iload_n C dJ7_fill_53178_5 (i := 2) rfl rfl ?_
  refine a_iload_n C dJ7_fill_53178_6 (i := 3) rfl rfl ?_
  refine a_ic_ge C dJ7_fill_53178_7 (tgt := 20) rfl (fun h => absurd h (by decide)) (fun _ => ?_)
  refine a_aload_n C dJ7_fill_53178_10 (i := 0) rfl rfl ?_
  refine a_iload_n C dJ7_fill_53178_11 (i := 2) rfl rfl ?_
  refine a_iload_n C dJ7_fill_53178_12 (i := 1) rfl rfl ?_
  refine a_iast C (i := 28) 3 kd_28 (hid 28 (by decide)) (by decide) rfl (by rw [al_28]; decide) dJ7_fill_53178_13 ?_
  refine a_iinc C dJ7_fill_53178_14 rfl (v := 4) rfl (by decide) rfl (vs1 := [some (.ref (ad 28)), some (.int 0), some (.int 4), some (.int 7)]) rfl ?_
  refine a_goto C dJ7_fill_53178_17 (tgt := 5) rfl ?_
  refine a_iload_n C dJ7_fill_53178_5 (i := 2) rfl rfl ?_
  refine a_iload_n C dJ7_fill_53178_6 (i := 3) rfl rfl ?_
  refine a_ic_ge C dJ7_fill_53178_7 (tgt := 20) rfl (fun h => absurd h (by decide)) (fun _ => ?_)
  refine a_aload_n C dJ7_fill_53178_10 (i := 0) rfl rfl ?_
  refine a_iload_n C dJ7_fill_53178_11 (i := 2) rfl rfl ?_
  refine a_iload_n C dJ7_fill_53178_12 (i := 1) rfl rfl ?_
  refine a_iast C (i := 28) 4 kd_28 (hid 28 (by decide)) (by decide) rfl (by rw [al_28]; decide) dJ7_fill_53178_13 ?_
  refine a_iinc C dJ7_fill_53178_14 rfl (v := 5) rfl (by decide) rfl (vs1 := [some (.ref (ad 28)), some (.int 0), some (.int 5), some (.int 7)]) rfl ?_
  refine a_goto C dJ7_fill_53178_17 (tgt := 5) rfl ?_
  refine a_iload_n C dJ7_fill_53178_5 (i := 2) rfl rfl ?_
  refine a_iload_n C dJ7_fill_53178_6 (i := 3) rfl rfl ?_
  refine a_ic_ge C dJ7_fill_53178_7 (tgt := 20) rfl (fun h => absurd h (by decide)) (fun _ => ?_)
  refine a_aload_n C dJ7_fill_53178_10 (i := 0) rfl rfl ?_
  refine a_iload_n C dJ7_fill_53178_11 (i := 2) rfl rfl ?_
  refine a_iload_n C dJ7_fill_53178_12 (i := 1) rfl rfl ?_
  refine a_iast C (i := 28) 5 kd_28 (hid 28 (by decide)) (by decide) rfl (by rw [al_28]; decide) dJ7_fill_53178_13 ?_
  refine a_iinc C dJ7_fill_53178_14 rfl (v := 6) rfl (by decide) rfl (vs1 := [some (.ref (ad 28)), some (.int 0), some (.int 6), some (.int 7)]) rfl ?_
  refine a_goto C dJ7_fill_53178_17 (tgt := 5) rfl ?_
  refine a_iload_n C dJ7_fill_53178_5 (i := 2) rfl rfl ?_
  refine a_iload_n C dJ7_fill_53178_6 (i := 3) rfl rfl ?_
  refine a_ic_ge C dJ7_fill_53178_7 (tgt := 20) rfl (fun h => absurd h (by decide)) (fun _ => ?_)
  refine a_aload_n C dJ7_fill_53178_10 (i := 0) rfl rfl ?_
  refine a_iload_n C dJ7_fill_53178_11 (i := 2) rfl rfl ?_
  refine a_iload_n C dJ7_fill_53178_12 (i := 1) rfl rfl ?_
  refine a_iast C (i := 28) 6 kd_28 (hid 28 (by decide)) (by decide) rfl (by rw [al_28]; decide) dJ7_fill_53178_13 ?_
  refine a_iinc C dJ7_fill_53178_14 rfl (v := 7) rfl (by decide) rfl (vs1 := [some (.ref (ad 28)), some (.int 0), some (.int 7), some (.int 7)]) rfl ?_
  refine a_goto C dJ7_fill_53178_17 (tgt := 5) rfl ?_
  refine a_iload_n C dJ7_fill_53178_5 (i := 2) rfl rfl ?_
  refine a_iload_n C dJ7_fill_53178_6 (i := 3) rfl rfl ?_
  refine a_ic_ge C dJ7_fill_53178_7 (tgt := 20) rfl (fun _ => ?_) (fun h => absurd h (by decide))
  exact a_vret Rt dJ7_fill_53178_20 (⟨(only.I (only.I (only.I (only.I (only.I (only.I (only.I only.rf (by decide)) (by decide)) (by decide)) (by decide)) (by decide)) (by decide)) (by decide)), rfl, rfl, rfl, rfl, rfl, rfl, rfl⟩)
theorem dX11_busiest_0 : decode cX11_busiest 0 = .ok (.iload_n 1, 1) := by decide +kernel
theorem dX11_busiest_1 : decode cX11_busiest 1 = .ok (.invokestatic 307, 3) := by decide +kernel
theorem dX11_busiest_4 : decode cX11_busiest 4 = .ok (.ifCond .eq 12, 3) := by decide +kernel
theorem dX11_busiest_7 : decode cX11_busiest 7 = .ok (.iload_n 2, 1) := by decide +kernel
theorem dX11_busiest_8 : decode cX11_busiest 8 = .ok (.ifCond .lt 8, 3) := by decide +kernel
theorem dX11_busiest_11 : decode cX11_busiest 11 = .ok (.iload_n 2, 1) := by decide +kernel
theorem dX11_busiest_12 : decode cX11_busiest 12 = .ok (.iconst 1, 1) := by decide +kernel
theorem dX11_busiest_13 : decode cX11_busiest 13 = .ok (.if_icmp .le 5, 3) := by decide +kernel
theorem dX11_busiest_18 : decode cX11_busiest 18 = .ok (.aload_n 0, 1) := by decide +kernel
theorem dX11_busiest_19 : decode cX11_busiest 19 = .ok (.iload_n 1, 1) := by decide +kernel
theorem dX11_busiest_20 : decode cX11_busiest 20 = .ok (.invokevirtual 279, 3) := by decide +kernel
theorem dX11_busiest_23 : decode cX11_busiest 23 = .ok (.aload_n 0, 1) := by decide +kernel
theorem dX11_busiest_24 : decode cX11_busiest 24 = .ok (.getfield 73, 3) := by decide +kernel
theorem dX11_busiest_27 : decode cX11_busiest 27 = .ok (.iconst 0, 1) := by decide +kernel
theorem dX11_busiest_28 : decode cX11_busiest 28 = .ok (.invokestatic 310, 3) := by decide +kernel
theorem dX11_busiest_31 : decode cX11_busiest 31 = .ok (.iconst 0, 1) := by decide +kernel
theorem dX11_busiest_32 : decode cX11_busiest 32 = .ok (.istore_n 3, 1) := by decide +kernel
theorem dX11_busiest_33 : decode cX11_busiest 33 = .ok (.iload_n 3, 1) := by decide +kernel
theorem dX11_busiest_34 : decode cX11_busiest 34 = .ok (.iload_n 1, 1) := by decide +kernel
theorem dX11_busiest_35 : decode cX11_busiest 35 = .ok (.if_icmp .ge 40, 3) := by decide +kernel
theorem dX11_busiest_38 : decode cX11_busiest 38 = .ok (.aload_n 0, 1) := by decide +kernel
theorem dX11_busiest_39 : decode cX11_busiest 39 = .ok (.getfield 82, 3) := by decide +kernel
theorem dX11_busiest_42 : decode cX11_busiest 42 = .ok (.aload_n 0, 1) := by decide +kernel
theorem dX11_busiest_43 : decode cX11_busiest 43 = .ok (.getfield 69, 3) := by decide +kernel
theorem dX11_busiest_46 : decode cX11_busiest 46 = .ok (.iload_n 3, 1) := by decide +kernel
theorem dX11_busiest_47 : decode cX11_busiest 47 = .ok (.iaload, 1) := by decide +kernel
theorem dX11_busiest_48 : decode cX11_busiest 48 = .ok (.invokevirtual 121, 3) := by decide +kernel
theorem dX11_busiest_51 : decode cX11_busiest 51 = .ok (.ifCond .eq 18, 3) := by decide +kernel
theorem dX11_busiest_69 : decode cX11_busiest 69 = .ok (.iinc 3 1, 3) := by decide +kernel
theorem dX11_busiest_72 : decode cX11_busiest 72 = .ok (.goto (-39), 3) := by decide +kernel
theorem dX11_busiest_75 : decode cX11_busiest 75 = .ok (.iconst 0, 1) := by decide +kernel
theorem dX11_busiest_76 : decode cX11_busiest 76 = .ok (.istore_n 3, 1) := by decide +kernel
theorem dX11_busiest_77 : decode cX11_busiest 77 = .ok (.iconst 1, 1) := by decide +kernel
theorem dX11_busiest_78 : decode cX11_busiest 78 = .ok (.istore 4, 2) := by decide +kernel
theorem dX11_busiest_80 : decode cX11_busiest 80 = .ok (.iload 4, 2) := by decide +kernel
theorem dX11_busiest_82 : decode cX11_busiest 82 = .ok (.bipush 7, 2) := by decide +kernel
theorem dX11_busiest_84 : decode cX11_busiest 84 = .ok (.if_icmp .ge 28, 3) := by decide +kernel
theorem dX11_busiest_87 : decode cX11_busiest 87 = .ok (.aload_n 0, 1) := by decide +kernel
theorem dX11_busiest_88 : decode cX11_busiest 88 = .ok (.getfield 73, 3) := by decide +kernel
theorem dX11_busiest_91 : decode cX11_busiest 91 = .ok (.iload 4, 2) := by decide +kernel
theorem dX11_busiest_93 : decode cX11_busiest 93 = .ok (.iaload, 1) := by decide +kernel
theorem dX11_busiest_94 : decode cX11_busiest 94 = .ok (.aload_n 0, 1) := by decide +kernel
theorem dX11_busiest_95 : decode cX11_busiest 95 = .ok (.getfield 73, 3) := by decide +kernel
theorem dX11_busiest_98 : decode cX11_busiest 98 = .ok (.iload_n 3, 1) := by decide +kernel
theorem dX11_busiest_99 : decode cX11_busiest 99 = .ok (.iaload, 1) := by decide +kernel
theorem dX11_busiest_100 : decode cX11_busiest 100 = .ok (.if_icmp .le 6, 3) := by decide +kernel
theorem dX11_busiest_106 : decode cX11_busiest 106 = .ok (.iinc 4 1, 3) := by decide +kernel
theorem dX11_busiest_109 : decode cX11_busiest 109 = .ok (.goto (-29), 3) := by decide +kernel
theorem dX11_busiest_112 : decode cX11_busiest 112 = .ok (.aload_n 0, 1) := by decide +kernel
theorem dX11_busiest_113 : decode cX11_busiest 113 = .ok (.getfield 73, 3) := by decide +kernel
theorem dX11_busiest_116 : decode cX11_busiest 116 = .ok (.iload_n 3, 1) := by decide +kernel
theorem dX11_busiest_117 : decode cX11_busiest 117 = .ok (.iaload, 1) := by decide +kernel
theorem dX11_busiest_118 : decode cX11_busiest 118 = .ok (.ifCond .ne 6, 3) := by decide +kernel
theorem dX11_busiest_121 : decode cX11_busiest 121 = .ok (.bipush (-2), 2) := by decide +kernel
theorem dX11_busiest_123 : decode cX11_busiest 123 = .ok (.ireturn, 1) := by decide +kernel
set_option maxHeartbeats 4000000 in
set_option maxRecDepth 100000 in
theorem p_busiest_in {l : Launch} {D : va_G} {ids : List Nat} {ad : Nat → Nat} {ca : Nat → ClassId} {σ : HS} {m : Nat} {p1 : Int32} (hid : ∀ i, i < 277 → i ∈ ids) (h1 : 1 ≤ m) (hm : m ≤ 60) (w1 : ¬ p1 < 0) (w2 : p1 ≤ 1) (htx0 : σ.2.2 0 = 30) (h_30_0 : σ.1 30 0 = 0) (h_30_10 : σ.1 30 10 = 1) (h_56_0 : σ.1 56 0 = 0) (h_56_4 : σ.1 56 4 = 0) (h_56_5 : σ.1 56 5 = 0) (h_56_6 : σ.1 56 6 = 0) (h_56_7 : σ.1 56 7 = 0) (h_56_8 : σ.1 56 8 = 0) (h_56_9 : σ.1 56 9 = (-1)) (h_56_10 : σ.1 56 10 = 0) (h_56_11 : σ.1 56 11 = (-1)) : Ki l D ids ad ca yX11_busiest cX11_busiest 5 .int 4 103 [.ref (ad 0), .int (nI m), .int p1] σ (fun r σ1 => r = (-2) ∧ keepM σ σ1) := by
  refine Ki.of (by decide) (Nat.le_of_ble_eq_true rfl) 2 (fun Γ C Rt => ?_)
  show AW ids ad ca Γ 0 [some (.ref (ad 0)), some (.int (nI m)), some (.int p1), none, none] [] σ
  refine a_iload_n C dX11_busiest_0 (i := 1) rfl rfl ?_
  refine a_callSi C (k_isSpan_in hid h1 hm) ms_X11_isSpan ml_RX11_307 rfl rfl (Nat.le_of_ble_eq_true rfl) (Nat.le_of_ble_eq_true rfl) (Nat.le_of_ble_eq_true rfl) dX11_busiest_1 (fun r1 σ2 q3 => ?_)
  obtain ⟨rfl, q3⟩ := q3
  rw [q3]
  refine a_if_eq C dX11_busiest_4 (tgt := 16) rfl (fun h => absurd h (by decide)) (fun _ => ?_)
  refine a_iload_n C dX11_busiest_7 (i := 2) rfl rfl ?_
  refine a_if_lt C dX11_busiest_8 (tgt := 16) rfl (fun c4 => absurd c4 (w1)) (fun c4 => ?_)
  refine a_iload_n C dX11_busiest_11 (i := 2) rfl rfl ?_
  refine a_iconst C dX11_busiest_12 (v := 1) rfl ?_
  refine a_ic_le C dX11_busiest_13 (tgt := 18) rfl (fun c5 => ?_) (fun c5 => absurd c5 (fun q => q w2))
  refine a_aload_n C dX11_busiest_18 (i := 0) rfl rfl ?_
  refine a_iload_n C dX11_busiest_19 (i := 1) rfl rfl ?_
  refine a_callVv C (i := 0) kd_0 (hid 0 (by decide)) ⟨_, _, rfl⟩ (by decide) (k_findHands hid (m := m) (by omega) htx0 h_30_10 h_56_0 h_56_4 h_56_5 h_56_6 h_56_7 h_56_8 h_56_9 h_56_10 h_56_11) mi_X11_findHands ml_RX11_279 rfl rfl (Nat.le_of_ble_eq_true rfl) (Nat.le_of_ble_eq_true rfl) (Nat.le_of_ble_eq_true rfl) dX11_busiest_20 (fun σ7 q8 => ?_)
  refine a_aload_n C dX11_busiest_23 (i := 0) rfl rfl ?_
  refine a_get C fl_RX11_73 (i := 0) kd_0 (hid 0 (by decide)) (v := .ref (ad 28)) rfl dX11_busiest_24 ?_
  refine a_iconst C dX11_busiest_27 (v := 0) rfl ?_
  refine a_callSv C (k_fill hid) ms_J7_fill_53178 ml_RX11_310 rfl rfl (Nat.le_of_ble_eq_true rfl) (Nat.le_of_ble_eq_true rfl) (Nat.le_of_ble_eq_true rfl) dX11_busiest_28 (fun σ10 q11 => ?_)
  refine a_iconst C dX11_busiest_31 (v := 0) rfl ?_
  refine a_istore_n C dX11_busiest_32 (i := 3) rfl (by decide) rfl (vs1 := [some (.ref (ad 0)), some (.int (nI m)), some (.int p1), some (.int 0), none]) rfl ?_
  have loop : ∀ (d j : Nat) (σ2 : HS), j + d = m → (only [60, 61, 62, 63, 27, 28] σ σ2 ∧ σ2.1 28 0 = 0 ∧ σ2.1 28 1 = 0 ∧ σ2.1 28 2 = 0 ∧ σ2.1 28 3 = 0 ∧ σ2.1 28 4 = 0 ∧ σ2.1 28 5 = 0 ∧ σ2.1 28 6 = 0) → AW ids ad ca Γ 33 [some (.ref (ad 0)), some (.int (nI m)), some (.int p1), some (.int (nI j)), none] [] σ2 := by
    intro d
    induction d with
    | zero =>
      intro j σ2 hj hV
      refine a_iload_n C dX11_busiest_33 (i := 3) rfl rfl ?_
      refine a_iload_n C dX11_busiest_34 (i := 1) rfl rfl ?_
      refine a_ic_ge C dX11_busiest_35 (tgt := 75) rfl (fun c12 => ?_) (fun c12 => absurd c12 (fun q => q (nI_le (a := (m)) (b := (j)) (by omega) (by omega))))
      refine a_iconst C dX11_busiest_75 (v := 0) rfl ?_
      refine a_istore_n C dX11_busiest_76 (i := 3) rfl (by decide) rfl (vs1 := [some (.ref (ad 0)), some (.int (nI m)), some (.int p1), some (.int 0), none]) rfl ?_
      refine a_iconst C dX11_busiest_77 (v := 1) rfl ?_
      refine a_istore C dX11_busiest_78 (by decide) rfl (vs1 := [some (.ref (ad 0)), some (.int (nI m)), some (.int p1), some (.int 0), some (.int 1)]) rfl ?_
      refine a_iload C dX11_busiest_80 rfl ?_
      refine a_bipush C dX11_busiest_82 (v := 7) rfl ?_
      refine a_ic_ge C dX11_busiest_84 (tgt := 112) rfl (fun h => absurd h (by decide)) (fun _ => ?_)
      refine a_aload_n C dX11_busiest_87 (i := 0) rfl rfl ?_
      refine a_get C fl_RX11_73 (i := 0) kd_0 (hid 0 (by decide)) (v := .ref (ad 28)) rfl dX11_busiest_88 ?_
      refine a_iload C dX11_busiest_91 rfl ?_
      refine a_iald C (i := 28) 1 kd_28 (hid 28 (by decide)) (by decide) rfl (by rw [al_28]; decide) dX11_busiest_93 (v := 0) hV.2.2.1 ?_
      refine a_aload_n C dX11_busiest_94 (i := 0) rfl rfl ?_
      refine a_get C fl_RX11_73 (i := 0) kd_0 (hid 0 (by decide)) (v := .ref (ad 28)) rfl dX11_busiest_95 ?_
      refine a_iload_n C dX11_busiest_98 (i := 3) rfl rfl ?_
      refine a_iald C (i := 28) 0 kd_28 (hid 28 (by decide)) (by decide) rfl (by rw [al_28]; decide) dX11_busiest_99 (v := 0) hV.2.1 ?_
      refine a_ic_le C dX11_busiest_100 (tgt := 106) rfl (fun _ => ?_) (fun h => absurd h (by decide))
      refine a_iinc C dX11_busiest_106 rfl (v := 2) rfl (by decide) rfl (vs1 := [some (.ref (ad 0)), some (.int (nI m)), some (.int p1), some (.int 0), some (.int 2)]) rfl ?_
      refine a_goto C dX11_busiest_109 (tgt := 80) rfl ?_
      refine a_iload C dX11_busiest_80 rfl ?_
      refine a_bipush C dX11_busiest_82 (v := 7) rfl ?_
      refine a_ic_ge C dX11_busiest_84 (tgt := 112) rfl (fun h => absurd h (by decide)) (fun _ => ?_)
      refine a_aload_n C dX11_busiest_87 (i := 0) rfl rfl ?_
      refine a_get C fl_RX11_73 (i := 0) kd_0 (hid 0 (by decide)) (v := .ref (ad 28)) rfl dX11_busiest_88 ?_
      refine a_iload C dX11_busiest_91 rfl ?_
      refine a_iald C (i := 28) 2 kd_28 (hid 28 (by decide)) (by decide) rfl (by rw [al_28]; decide) dX11_busiest_93 (v := 0) hV.2.2.2.1 ?_
      refine a_aload_n C dX11_busiest_94 (i := 0) rfl rfl ?_
      refine a_get C fl_RX11_73 (i := 0) kd_0 (hid 0 (by decide)) (v := .ref (ad 28)) rfl dX11_busiest_95 ?_
      refine a_iload_n C dX11_busiest_98 (i := 3) rfl rfl ?_
      refine a_iald C (i := 28) 0 kd_28 (hid 28 (by decide)) (by decide) rfl (by rw [al_28]; decide) dX11_busiest_99 (v := 0) hV.2.1 ?_
      refine a_ic_le C dX11_busiest_100 (tgt := 106) rfl (fun _ => ?_) (fun h => absurd h (by decide))
      refine a_iinc C dX11_busiest_106 rfl (v := 3) rfl (by decide) rfl (vs1 := [some (.ref (ad 0)), some (.int (nI m)), some (.int p1), some (.int 0), some (.int 3)]) rfl ?_
      refine a_goto C dX11_busiest_109 (tgt := 80) rfl ?_
      refine a_iload C dX11_busiest_80 rfl ?_
      refine a_bipush C dX11_busiest_82 (v := 7) rfl ?_
      refine a_ic_ge C dX11_busiest_84 (tgt := 112) rfl (fun h => absurd h (by decide)) (fun _ => ?_)
      refine a_aload_n C dX11_busiest_87 (i := 0) rfl rfl ?_
      refine a_get C fl_RX11_73 (i := 0) kd_0 (hid 0 (by decide)) (v := .ref (ad 28)) rfl dX11_busiest_88 ?_
      refine a_iload C dX11_busiest_91 rfl ?_
      refine a_iald C (i := 28) 3 kd_28 (hid 28 (by decide)) (by decide) rfl (by rw [al_28]; decide) dX11_busiest_93 (v := 0) hV.2.2.2.2.1 ?_
      refine a_aload_n C dX11_busiest_94 (i := 0) rfl rfl ?_
      refine a_get C fl_RX11_73 (i := 0) kd_0 (hid 0 (by decide)) (v := .ref (ad 28)) rfl dX11_busiest_95 ?_
      refine a_iload_n C dX11_busiest_98 (i := 3) rfl rfl ?_
      refine a_iald C (i := 28) 0 kd_28 (hid 28 (by decide)) (by decide) rfl (by rw [al_28]; decide) dX11_busiest_99 (v := 0) hV.2.1 ?_
      refine a_ic_le C dX11_busiest_100 (tgt := 106) rfl (fun _ => ?_) (fun h => absurd h (by decide))
      refine a_iinc C dX11_busiest_106 rfl (v := 4) rfl (by decide) rfl (vs1 := [some (.ref (ad 0)), some (.int (nI m)), some (.int p1), some (.int 0), some (.int 4)]) rfl ?_
      refine a_goto C dX11_busiest_109 (tgt := 80) rfl ?_
      refine a_iload C dX11_busiest_80 rfl ?_
      refine a_bipush C dX11_busiest_82 (v := 7) rfl ?_
      refine a_ic_ge C dX11_busiest_84 (tgt := 112) rfl (fun h => absurd h (by decide)) (fun _ => ?_)
      refine a_aload_n C dX11_busiest_87 (i := 0) rfl rfl ?_
      refine a_get C fl_RX11_73 (i := 0) kd_0 (hid 0 (by decide)) (v := .ref (ad 28)) rfl dX11_busiest_88 ?_
      refine a_iload C dX11_busiest_91 rfl ?_
      refine a_iald C (i := 28) 4 kd_28 (hid 28 (by decide)) (by decide) rfl (by rw [al_28]; decide) dX11_busiest_93 (v := 0) hV.2.2.2.2.2.1 ?_
      refine a_aload_n C dX11_busiest_94 (i := 0) rfl rfl ?_
      refine a_get C fl_RX11_73 (i := 0) kd_0 (hid 0 (by decide)) (v := .ref (ad 28)) rfl dX11_busiest_95 ?_
      refine a_iload_n C dX11_busiest_98 (i := 3) rfl rfl ?_
      refine a_iald C (i := 28) 0 kd_28 (hid 28 (by decide)) (by decide) rfl (by rw [al_28]; decide) dX11_busiest_99 (v := 0) hV.2.1 ?_
      refine a_ic_le C dX11_busiest_100 (tgt := 106) rfl (fun _ => ?_) (fun h => absurd h (by decide))
      refine a_iinc C dX11_busiest_106 rfl (v := 5) rfl (by decide) rfl (vs1 := [some (.ref (ad 0)), some (.int (nI m)), some (.int p1), some (.int 0), some (.int 5)]) rfl ?_
      refine a_goto C dX11_busiest_109 (tgt := 80) rfl ?_
      refine a_iload C dX11_busiest_80 rfl ?_
      refine a_bipush C dX11_busiest_82 (v := 7) rfl ?_
      refine a_ic_ge C dX11_busiest_84 (tgt := 112) rfl (fun h => absurd h (by decide)) (fun _ => ?_)
      refine a_aload_n C dX11_busiest_87 (i := 0) rfl rfl ?_
      refine a_get C fl_RX11_73 (i := 0) kd_0 (hid 0 (by decide)) (v := .ref (ad 28)) rfl dX11_busiest_88 ?_
      refine a_iload C dX11_busiest_91 rfl ?_
      refine a_iald C (i := 28) 5 kd_28 (hid 28 (by decide)) (by decide) rfl (by rw [al_28]; decide) dX11_busiest_93 (v := 0) hV.2.2.2.2.2.2.1 ?_
      refine a_aload_n C dX11_busiest_94 (i := 0) rfl rfl ?_
      refine a_get C fl_RX11_73 (i := 0) kd_0 (hid 0 (by decide)) (v := .ref (ad 28)) rfl dX11_busiest_95 ?_
      refine a_iload_n C dX11_busiest_98 (i := 3) rfl rfl ?_
      refine a_iald C (i := 28) 0 kd_28 (hid 28 (by decide)) (by decide) rfl (by rw [al_28]; decide) dX11_busiest_99 (v := 0) hV.2.1 ?_
      refine a_ic_le C dX11_busiest_100 (tgt := 106) rfl (fun _ => ?_) (fun h => absurd h (by decide))
      refine a_iinc C dX11_busiest_106 rfl (v := 6) rfl (by decide) rfl (vs1 := [some (.ref (ad 0)), some (.int (nI m)), some (.int p1), some (.int 0), some (.int 6)]) rfl ?_
      refine a_goto C dX11_busiest_109 (tgt := 80) rfl ?_
      refine a_iload C dX11_busiest_80 rfl ?_
      refine a_bipush C dX11_busiest_82 (v := 7) rfl ?_
      refine a_ic_ge C dX11_busiest_84 (tgt := 112) rfl (fun h => absurd h (by decide)) (fun _ => ?_)
      refine a_aload_n C dX11_busiest_87 (i := 0) rfl rfl ?_
      refine a_get C fl_RX11_73 (i := 0) kd_0 (hid 0 (by decide)) (v := .ref (ad 28)) rfl dX11_busiest_88 ?_
      refine a_iload C dX11_busiest_91 rfl ?_
      refine a_iald C (i := 28) 6 kd_28 (hid 28 (by decide)) (by decide) rfl (by rw [al_28]; decide) dX11_busiest_93 (v := 0) hV.2.2.2.2.2.2.2 ?_
      refine a_aload_n C dX11_busiest_94 (i := 0) rfl rfl ?_
      refine a_get C fl_RX11_73 (i := 0) kd_0 (hid 0 (by decide)) (v := .ref (ad 28)) rfl dX11_busiest_95 ?_
      refine a_iload_n C dX11_busiest_98 (i := 3) rfl rfl ?_
      refine a_iald C (i := 28) 0 kd_28 (hid 28 (by decide)) (by decide) rfl (by rw [al_28]; decide) dX11_busiest_99 (v := 0) hV.2.1 ?_
      refine a_ic_le C dX11_busiest_100 (tgt := 106) rfl (fun _ => ?_) (fun h => absurd h (by decide))
      refine a_iinc C dX11_busiest_106 rfl (v := 7) rfl (by decide) rfl (vs1 := [some (.ref (ad 0)), some (.int (nI m)), some (.int p1), some (.int 0), some (.int 7)]) rfl ?_
      refine a_goto C dX11_busiest_109 (tgt := 80) rfl ?_
      refine a_iload C dX11_busiest_80 rfl ?_
      refine a_bipush C dX11_busiest_82 (v := 7) rfl ?_
      refine a_ic_ge C dX11_busiest_84 (tgt := 112) rfl (fun _ => ?_) (fun h => absurd h (by decide))
      refine a_aload_n C dX11_busiest_112 (i := 0) rfl rfl ?_
      refine a_get C fl_RX11_73 (i := 0) kd_0 (hid 0 (by decide)) (v := .ref (ad 28)) rfl dX11_busiest_113 ?_
      refine a_iload_n C dX11_busiest_116 (i := 3) rfl rfl ?_
      refine a_iald C (i := 28) 0 kd_28 (hid 28 (by decide)) (by decide) rfl (by rw [al_28]; decide) dX11_busiest_117 (v := 0) hV.2.1 ?_
      refine a_if_ne C dX11_busiest_118 (tgt := 124) rfl (fun h => absurd h (by decide)) (fun _ => ?_)
      refine a_bipush C dX11_busiest_121 (v := (-2)) rfl ?_
      exact a_iret Rt dX11_busiest_123 rfl (⟨rfl, (keepM.tr keepM.rf (only.keepM hV.1 (by decide)))⟩)
    | succ d ih =>
      intro j σ2 hj hV
      refine a_iload_n C dX11_busiest_33 (i := 3) rfl rfl ?_
      refine a_iload_n C dX11_busiest_34 (i := 1) rfl rfl ?_
      refine a_ic_ge C dX11_busiest_35 (tgt := 75) rfl (fun c13 => absurd c13 (nI_ge (a := (j)) (b := (m)) (by omega) (by omega))) (fun c13 => ?_)
      refine a_aload_n C dX11_busiest_38 (i := 0) rfl rfl ?_
      refine a_get C fl_RX11_82 (i := 0) kd_0 (hid 0 (by decide)) (v := .ref (ad 30)) (congrArg (fun z => some (Value.ref (ad z))) (Eq.trans (congrArg (fun z => z.2 0) hV.1.2) htx0)) dX11_busiest_39 ?_
      refine a_aload_n C dX11_busiest_42 (i := 0) rfl rfl ?_
      refine a_get C fl_RX11_69 (i := 0) kd_0 (hid 0 (by decide)) (v := .ref (ad 27)) rfl dX11_busiest_43 ?_
      refine a_iload_n C dX11_busiest_46 (i := 3) rfl rfl ?_
      refine a_iald C (i := 27) (j) kd_27 (hid 27 (by decide)) (nI_pos (by omega)) (nI_clamp (by omega)) (by rw [al_27]; omega) dX11_busiest_47 (v := (σ2.1 27 (j))) rfl ?_
      refine a_callVi C (i := 30) kd_30 (hid 30 (by decide)) ⟨_, _, rfl⟩ (by decide) (k_hasThing hid ((congrFun (hV.1.1 30 (by decide)) 0).trans h_30_0)) mi_X10_hasThing ml_RX11_121 rfl rfl (Nat.le_of_ble_eq_true rfl) (Nat.le_of_ble_eq_true rfl) (Nat.le_of_ble_eq_true rfl) dX11_busiest_48 (fun r14 σ15 q16 => ?_)
      obtain ⟨rfl, q16⟩ := q16
      rw [q16]
      refine a_if_eq C dX11_busiest_51 (tgt := 69) rfl (fun _ => ?_) (fun h => absurd h (by decide))
      refine a_iinc C dX11_busiest_69 rfl (v := (nI (j + 1))) (nI_1 _) (by decide) rfl (vs1 := [some (.ref (ad 0)), some (.int (nI m)), some (.int p1), some (.int (nI (j + 1))), none]) rfl ?_
      refine a_goto C dX11_busiest_72 (tgt := 33) rfl ?_
      exact ih (j + 1) _ (by omega) ⟨(only.tr only.rf (only.mono hV.1 (by decide))), hV.2.1, hV.2.2.1, hV.2.2.2.1, hV.2.2.2.2.1, hV.2.2.2.2.2.1, hV.2.2.2.2.2.2.1, hV.2.2.2.2.2.2.2⟩
  exact loop (m - 0) 0 _ (by omega) ⟨(only.tr (only.tr only.rf (only.mono q8.1 (by decide))) (only.mono q11.1 (by decide))), q11.2.1, q11.2.2.1, q11.2.2.2.1, q11.2.2.2.2.1, q11.2.2.2.2.2.1, q11.2.2.2.2.2.2.1, q11.2.2.2.2.2.2.2⟩
theorem dX11_busiest_16 : decode cX11_busiest 16 = .ok (.iconst (-1), 1) := by decide +kernel
theorem dX11_busiest_17 : decode cX11_busiest 17 = .ok (.ireturn, 1) := by decide +kernel
set_option maxHeartbeats 4000000 in
set_option maxRecDepth 100000 in
theorem p_busiest_w {l : Launch} {D : va_G} {ids : List Nat} {ad : Nat → Nat} {ca : Nat → ClassId} {σ : HS} {m : Nat} {p1 : Int32} (hid : ∀ i, i < 277 → i ∈ ids) (h1 : 1 ≤ m) (hm : m ≤ 60) (ho : p1 < 0 ∨ 1 < p1) : Ki l D ids ad ca yX11_busiest cX11_busiest 5 .int 1 20 [.ref (ad 0), .int (nI m), .int p1] σ (fun r σ1 => r = (-1) ∧ keepM σ σ1) := by
  refine Ki.of (by decide) (Nat.le_of_ble_eq_true rfl) 2 (fun Γ C Rt => ?_)
  show AW ids ad ca Γ 0 [some (.ref (ad 0)), some (.int (nI m)), some (.int p1), none, none] [] σ
  refine a_iload_n C dX11_busiest_0 (i := 1) rfl rfl ?_
  refine a_callSi C (k_isSpan_in hid h1 hm) ms_X11_isSpan ml_RX11_307 rfl rfl (Nat.le_of_ble_eq_true rfl) (Nat.le_of_ble_eq_true rfl) (Nat.le_of_ble_eq_true rfl) dX11_busiest_1 (fun r1 σ2 q3 => ?_)
  obtain ⟨rfl, q3⟩ := q3
  rw [q3]
  refine a_if_eq C dX11_busiest_4 (tgt := 16) rfl (fun h => absurd h (by decide)) (fun _ => ?_)
  refine a_iload_n C dX11_busiest_7 (i := 2) rfl rfl ?_
  refine a_if_lt C dX11_busiest_8 (tgt := 16) rfl (fun c4 => ?_) (fun c4 => ?_)
  ·
    refine a_iconst C dX11_busiest_16 (v := (-1)) rfl ?_
    exact a_iret Rt dX11_busiest_17 rfl (⟨rfl, keepM.rf⟩)
  ·
    refine a_iload_n C dX11_busiest_11 (i := 2) rfl rfl ?_
    refine a_iconst C dX11_busiest_12 (v := 1) rfl ?_
    refine a_ic_le C dX11_busiest_13 (tgt := 18) rfl (fun c5 => absurd c5 (Int32.not_le.mpr (ho.resolve_left c4))) (fun c5 => ?_)
    refine a_iconst C dX11_busiest_16 (v := (-1)) rfl ?_
    exact a_iret Rt dX11_busiest_17 rfl (⟨rfl, keepM.rf⟩)
theorem dX11_load_0 : decode cX11_load 0 = .ok (.iload_n 1, 1) := by decide +kernel
theorem dX11_load_1 : decode cX11_load 1 = .ok (.invokestatic 307, 3) := by decide +kernel
theorem dX11_load_4 : decode cX11_load 4 = .ok (.ifCond .ne 5, 3) := by decide +kernel
theorem dX11_load_9 : decode cX11_load 9 = .ok (.aload_n 0, 1) := by decide +kernel
theorem dX11_load_10 : decode cX11_load 10 = .ok (.iload_n 1, 1) := by decide +kernel
theorem dX11_load_11 : decode cX11_load 11 = .ok (.invokevirtual 279, 3) := by decide +kernel
theorem dX11_load_14 : decode cX11_load 14 = .ok (.iconst 0, 1) := by decide +kernel
theorem dX11_load_15 : decode cX11_load 15 = .ok (.istore_n 2, 1) := by decide +kernel
theorem dX11_load_16 : decode cX11_load 16 = .ok (.iconst 0, 1) := by decide +kernel
theorem dX11_load_17 : decode cX11_load 17 = .ok (.istore_n 3, 1) := by decide +kernel
theorem dX11_load_18 : decode cX11_load 18 = .ok (.iload_n 3, 1) := by decide +kernel
theorem dX11_load_19 : decode cX11_load 19 = .ok (.iload_n 1, 1) := by decide +kernel
theorem dX11_load_20 : decode cX11_load 20 = .ok (.if_icmp .ge 42, 3) := by decide +kernel
theorem dX11_load_23 : decode cX11_load 23 = .ok (.aload_n 0, 1) := by decide +kernel
theorem dX11_load_24 : decode cX11_load 24 = .ok (.getfield 82, 3) := by decide +kernel
theorem dX11_load_27 : decode cX11_load 27 = .ok (.aload_n 0, 1) := by decide +kernel
theorem dX11_load_28 : decode cX11_load 28 = .ok (.getfield 69, 3) := by decide +kernel
theorem dX11_load_31 : decode cX11_load 31 = .ok (.iload_n 3, 1) := by decide +kernel
theorem dX11_load_32 : decode cX11_load 32 = .ok (.iaload, 1) := by decide +kernel
theorem dX11_load_33 : decode cX11_load 33 = .ok (.invokevirtual 121, 3) := by decide +kernel
theorem dX11_load_36 : decode cX11_load 36 = .ok (.ifCond .eq 20, 3) := by decide +kernel
theorem dX11_load_56 : decode cX11_load 56 = .ok (.iinc 3 1, 3) := by decide +kernel
theorem dX11_load_59 : decode cX11_load 59 = .ok (.goto (-41), 3) := by decide +kernel
theorem dX11_load_62 : decode cX11_load 62 = .ok (.iload_n 2, 1) := by decide +kernel
theorem dX11_load_63 : decode cX11_load 63 = .ok (.ireturn, 1) := by decide +kernel
set_option maxHeartbeats 4000000 in
set_option maxRecDepth 100000 in
theorem p_load_in {l : Launch} {D : va_G} {ids : List Nat} {ad : Nat → Nat} {ca : Nat → ClassId} {σ : HS} {m : Nat} (hid : ∀ i, i < 277 → i ∈ ids) (h1 : 1 ≤ m) (hm : m ≤ 60) (htx0 : σ.2.2 0 = 30) (h_30_0 : σ.1 30 0 = 0) (h_30_10 : σ.1 30 10 = 1) (h_56_0 : σ.1 56 0 = 0) (h_56_4 : σ.1 56 4 = 0) (h_56_5 : σ.1 56 5 = 0) (h_56_6 : σ.1 56 6 = 0) (h_56_7 : σ.1 56 7 = 0) (h_56_8 : σ.1 56 8 = 0) (h_56_9 : σ.1 56 9 = (-1)) (h_56_10 : σ.1 56 10 = 0) (h_56_11 : σ.1 56 11 = (-1)) : Ki l D ids ad ca yX11_load cX11_load 4 .int 4 103 [.ref (ad 0), .int (nI m)] σ (fun r σ1 => r = 0 ∧ keepM σ σ1) := by
  refine Ki.of (by decide) (Nat.le_of_ble_eq_true rfl) 2 (fun Γ C Rt => ?_)
  show AW ids ad ca Γ 0 [some (.ref (ad 0)), some (.int (nI m)), none, none] [] σ
  refine a_iload_n C dX11_load_0 (i := 1) rfl rfl ?_
  refine a_callSi C (k_isSpan_in hid h1 hm) ms_X11_isSpan ml_RX11_307 rfl rfl (Nat.le_of_ble_eq_true rfl) (Nat.le_of_ble_eq_true rfl) (Nat.le_of_ble_eq_true rfl) dX11_load_1 (fun r1 σ2 q3 => ?_)
  obtain ⟨rfl, q3⟩ := q3
  rw [q3]
  refine a_if_ne C dX11_load_4 (tgt := 9) rfl (fun _ => ?_) (fun h => absurd h (by decide))
  refine a_aload_n C dX11_load_9 (i := 0) rfl rfl ?_
  refine a_iload_n C dX11_load_10 (i := 1) rfl rfl ?_
  refine a_callVv C (i := 0) kd_0 (hid 0 (by decide)) ⟨_, _, rfl⟩ (by decide) (k_findHands hid (m := m) (by omega) htx0 h_30_10 h_56_0 h_56_4 h_56_5 h_56_6 h_56_7 h_56_8 h_56_9 h_56_10 h_56_11) mi_X11_findHands ml_RX11_279 rfl rfl (Nat.le_of_ble_eq_true rfl) (Nat.le_of_ble_eq_true rfl) (Nat.le_of_ble_eq_true rfl) dX11_load_11 (fun σ5 q6 => ?_)
  refine a_iconst C dX11_load_14 (v := 0) rfl ?_
  refine a_istore_n C dX11_load_15 (i := 2) rfl (by decide) rfl (vs1 := [some (.ref (ad 0)), some (.int (nI m)), some (.int 0), none]) rfl ?_
  refine a_iconst C dX11_load_16 (v := 0) rfl ?_
  refine a_istore_n C dX11_load_17 (i := 3) rfl (by decide) rfl (vs1 := [some (.ref (ad 0)), some (.int (nI m)), some (.int 0), some (.int 0)]) rfl ?_
  have loop : ∀ (d j : Nat) (σ2 : HS), j + d = m → (only [60, 61, 62, 63, 27] σ σ2) → AW ids ad ca Γ 18 [some (.ref (ad 0)), some (.int (nI m)), some (.int 0), some (.int (nI j))] [] σ2 := by
    intro d
    induction d with
    | zero =>
      intro j σ2 hj hV
      refine a_iload_n C dX11_load_18 (i := 3) rfl rfl ?_
      refine a_iload_n C dX11_load_19 (i := 1) rfl rfl ?_
      refine a_ic_ge C dX11_load_20 (tgt := 62) rfl (fun c7 => ?_) (fun c7 => absurd c7 (fun q => q (nI_le (a := (m)) (b := (j)) (by omega) (by omega))))
      refine a_iload_n C dX11_load_62 (i := 2) rfl rfl ?_
      exact a_iret Rt dX11_load_63 rfl (⟨rfl, (keepM.tr keepM.rf (only.keepM hV (by decide)))⟩)
    | succ d ih =>
      intro j σ2 hj hV
      refine a_iload_n C dX11_load_18 (i := 3) rfl rfl ?_
      refine a_iload_n C dX11_load_19 (i := 1) rfl rfl ?_
      refine a_ic_ge C dX11_load_20 (tgt := 62) rfl (fun c8 => absurd c8 (nI_ge (a := (j)) (b := (m)) (by omega) (by omega))) (fun c8 => ?_)
      refine a_aload_n C dX11_load_23 (i := 0) rfl rfl ?_
      refine a_get C fl_RX11_82 (i := 0) kd_0 (hid 0 (by decide)) (v := .ref (ad 30)) (congrArg (fun z => some (Value.ref (ad z))) (Eq.trans (congrArg (fun z => z.2 0) hV.2) htx0)) dX11_load_24 ?_
      refine a_aload_n C dX11_load_27 (i := 0) rfl rfl ?_
      refine a_get C fl_RX11_69 (i := 0) kd_0 (hid 0 (by decide)) (v := .ref (ad 27)) rfl dX11_load_28 ?_
      refine a_iload_n C dX11_load_31 (i := 3) rfl rfl ?_
      refine a_iald C (i := 27) (j) kd_27 (hid 27 (by decide)) (nI_pos (by omega)) (nI_clamp (by omega)) (by rw [al_27]; omega) dX11_load_32 (v := (σ2.1 27 (j))) rfl ?_
      refine a_callVi C (i := 30) kd_30 (hid 30 (by decide)) ⟨_, _, rfl⟩ (by decide) (k_hasThing hid ((congrFun (hV.1 30 (by decide)) 0).trans h_30_0)) mi_X10_hasThing ml_RX11_121 rfl rfl (Nat.le_of_ble_eq_true rfl) (Nat.le_of_ble_eq_true rfl) (Nat.le_of_ble_eq_true rfl) dX11_load_33 (fun r9 σ10 q11 => ?_)
      obtain ⟨rfl, q11⟩ := q11
      rw [q11]
      refine a_if_eq C dX11_load_36 (tgt := 56) rfl (fun _ => ?_) (fun h => absurd h (by decide))
      refine a_iinc C dX11_load_56 rfl (v := (nI (j + 1))) (nI_1 _) (by decide) rfl (vs1 := [some (.ref (ad 0)), some (.int (nI m)), some (.int 0), some (.int (nI (j + 1)))]) rfl ?_
      refine a_goto C dX11_load_59 (tgt := 18) rfl ?_
      exact ih (j + 1) _ (by omega) (only.tr only.rf (only.mono hV (by decide)))
  exact loop (m - 0) 0 _ (by omega) (only.tr only.rf (only.mono q6.1 (by decide)))
theorem dX11_rule_0 : decode cX11_rule 0 = .ok (.iload_n 1, 1) := by decide +kernel
theorem dX11_rule_1 : decode cX11_rule 1 = .ok (.invokestatic 307, 3) := by decide +kernel
theorem dX11_rule_4 : decode cX11_rule 4 = .ok (.ifCond .ne 7, 3) := by decide +kernel
theorem dX11_rule_11 : decode cX11_rule 11 = .ok (.aload_n 0, 1) := by decide +kernel
theorem dX11_rule_12 : decode cX11_rule 12 = .ok (.getfield 58, 3) := by decide +kernel
theorem dX11_rule_15 : decode cX11_rule 15 = .ok (.aload_n 0, 1) := by decide +kernel
theorem dX11_rule_16 : decode cX11_rule 16 = .ok (.getfield 54, 3) := by decide +kernel
theorem dX11_rule_19 : decode cX11_rule 19 = .ok (.invokevirtual 230, 3) := by decide +kernel
theorem dX11_rule_22 : decode cX11_rule 22 = .ok (.iconst 0, 1) := by decide +kernel
theorem dX11_rule_23 : decode cX11_rule 23 = .ok (.istore_n 2, 1) := by decide +kernel
theorem dX11_rule_24 : decode cX11_rule 24 = .ok (.iconst 0, 1) := by decide +kernel
theorem dX11_rule_25 : decode cX11_rule 25 = .ok (.istore_n 3, 1) := by decide +kernel
theorem dX11_rule_26 : decode cX11_rule 26 = .ok (.iload_n 3, 1) := by decide +kernel
theorem dX11_rule_27 : decode cX11_rule 27 = .ok (.iload_n 1, 1) := by decide +kernel
theorem dX11_rule_28 : decode cX11_rule 28 = .ok (.if_icmp .ge 42, 3) := by decide +kernel
theorem dX11_rule_31 : decode cX11_rule 31 = .ok (.iload_n 2, 1) := by decide +kernel
theorem dX11_rule_32 : decode cX11_rule 32 = .ok (.aload_n 0, 1) := by decide +kernel
theorem dX11_rule_33 : decode cX11_rule 33 = .ok (.getfield 19, 3) := by decide +kernel
theorem dX11_rule_36 : decode cX11_rule 36 = .ok (.aload_n 0, 1) := by decide +kernel
theorem dX11_rule_37 : decode cX11_rule 37 = .ok (.getfield 82, 3) := by decide +kernel
theorem dX11_rule_40 : decode cX11_rule 40 = .ok (.aload_n 0, 1) := by decide +kernel
theorem dX11_rule_41 : decode cX11_rule 41 = .ok (.getfield 58, 3) := by decide +kernel
theorem dX11_rule_44 : decode cX11_rule 44 = .ok (.invokevirtual 317, 3) := by decide +kernel
theorem dX11_rule_47 : decode cX11_rule 47 = .ok (.iadd, 1) := by decide +kernel
theorem dX11_rule_48 : decode cX11_rule 48 = .ok (.istore_n 2, 1) := by decide +kernel
theorem dX11_rule_49 : decode cX11_rule 49 = .ok (.aload_n 0, 1) := by decide +kernel
theorem dX11_rule_50 : decode cX11_rule 50 = .ok (.getfield 19, 3) := by decide +kernel
theorem dX11_rule_53 : decode cX11_rule 53 = .ok (.aload_n 0, 1) := by decide +kernel
theorem dX11_rule_54 : decode cX11_rule 54 = .ok (.getfield 82, 3) := by decide +kernel
theorem dX11_rule_57 : decode cX11_rule 57 = .ok (.aload_n 0, 1) := by decide +kernel
theorem dX11_rule_58 : decode cX11_rule 58 = .ok (.getfield 58, 3) := by decide +kernel
theorem dX11_rule_61 : decode cX11_rule 61 = .ok (.invokevirtual 285, 3) := by decide +kernel
theorem dX11_rule_64 : decode cX11_rule 64 = .ok (.iinc 3 1, 3) := by decide +kernel
theorem dX11_rule_67 : decode cX11_rule 67 = .ok (.goto (-41), 3) := by decide +kernel
theorem dX11_rule_70 : decode cX11_rule 70 = .ok (.iload_n 2, 1) := by decide +kernel
theorem dX11_rule_71 : decode cX11_rule 71 = .ok (.ireturn, 1) := by decide +kernel
set_option maxHeartbeats 4000000 in
set_option maxRecDepth 100000 in
theorem p_rule_in {l : Launch} {D : va_G} {ids : List Nat} {ad : Nat → Nat} {ca : Nat → ClassId} {σ : HS} {m : Nat} (hid : ∀ i, i < 277 → i ∈ ids) (h1 : 1 ≤ m) (hm : m ≤ 60) (htx0 : σ.2.2 0 = 30) (h_30_10 : σ.1 30 10 = 1) (h_56_0 : σ.1 56 0 = 0) (h_56_4 : σ.1 56 4 = 0) (h_56_5 : σ.1 56 5 = 0) (h_56_6 : σ.1 56 6 = 0) (h_56_7 : σ.1 56 7 = 0) (h_56_8 : σ.1 56 8 = 0) (h_56_9 : σ.1 56 9 = (-1)) (h_56_10 : σ.1 56 10 = 0) (h_56_11 : σ.1 56 11 = (-1)) : Ki l D ids ad ca yX11_rule cX11_rule 4 .int 3 81 [.ref (ad 0), .int (nI m)] σ (fun r σ1 => r = 0 ∧ keepM σ σ1) := by
  refine Ki.of (by decide) (Nat.le_of_ble_eq_true rfl) 2 (fun Γ C Rt => ?_)
  show AW ids ad ca Γ 0 [some (.ref (ad 0)), some (.int (nI m)), none, none] [] σ
  refine a_iload_n C dX11_rule_0 (i := 1) rfl rfl ?_
  refine a_callSi C (k_isSpan_in hid h1 hm) ms_X11_isSpan ml_RX11_307 rfl rfl (Nat.le_of_ble_eq_true rfl) (Nat.le_of_ble_eq_true rfl) (Nat.le_of_ble_eq_true rfl) dX11_rule_1 (fun r1 σ2 q3 => ?_)
  obtain ⟨rfl, q3⟩ := q3
  rw [q3]
  refine a_if_ne C dX11_rule_4 (tgt := 11) rfl (fun _ => ?_) (fun h => absurd h (by decide))
  refine a_aload_n C dX11_rule_11 (i := 0) rfl rfl ?_
  refine a_get C fl_RX11_58 (i := 0) kd_0 (hid 0 (by decide)) (v := .ref (ad 60)) rfl dX11_rule_12 ?_
  refine a_aload_n C dX11_rule_15 (i := 0) rfl rfl ?_
  refine a_get C fl_RX11_54 (i := 0) kd_0 (hid 0 (by decide)) (v := .ref (ad 56)) rfl dX11_rule_16 ?_
  refine a_callVv C (i := 60) kd_60 (hid 60 (by decide)) ⟨_, _, rfl⟩ (by decide) (k_copy_60 hid h_56_0 h_56_4 h_56_5 h_56_6 h_56_7 h_56_8 h_56_9 h_56_10 h_56_11) mi_X0_copy ml_RX11_230 rfl rfl (Nat.le_of_ble_eq_true rfl) (Nat.le_of_ble_eq_true rfl) (Nat.le_of_ble_eq_true rfl) dX11_rule_19 (fun σ5 q6 => ?_)
  refine a_iconst C dX11_rule_22 (v := 0) rfl ?_
  refine a_istore_n C dX11_rule_23 (i := 2) rfl (by decide) rfl (vs1 := [some (.ref (ad 0)), some (.int (nI m)), some (.int 0), none]) rfl ?_
  refine a_iconst C dX11_rule_24 (v := 0) rfl ?_
  refine a_istore_n C dX11_rule_25 (i := 3) rfl (by decide) rfl (vs1 := [some (.ref (ad 0)), some (.int (nI m)), some (.int 0), some (.int 0)]) rfl ?_
  have loop : ∀ (d j : Nat) (σ2 : HS), j + d = m → (only [60, 61, 62, 63] σ σ2 ∧ σ2.1 60 0 = 0 ∧ σ2.1 60 5 = 0 ∧ σ2.1 60 6 = 0 ∧ σ2.1 60 8 = 0 ∧ σ2.1 60 4 = (nI (0 + j))) → AW ids ad ca Γ 26 [some (.ref (ad 0)), some (.int (nI m)), some (.int 0), some (.int (nI j))] [] σ2 := by
    intro d
    induction d with
    | zero =>
      intro j σ2 hj hV
      refine a_iload_n C dX11_rule_26 (i := 3) rfl rfl ?_
      refine a_iload_n C dX11_rule_27 (i := 1) rfl rfl ?_
      refine a_ic_ge C dX11_rule_28 (tgt := 70) rfl (fun c7 => ?_) (fun c7 => absurd c7 (fun q => q (nI_le (a := (m)) (b := (j)) (by omega) (by omega))))
      refine a_iload_n C dX11_rule_70 (i := 2) rfl rfl ?_
      exact a_iret Rt dX11_rule_71 rfl (⟨rfl, (keepM.tr keepM.rf (only.keepM hV.1 (by decide)))⟩)
    | succ d ih =>
      intro j σ2 hj hV
      refine a_iload_n C dX11_rule_26 (i := 3) rfl rfl ?_
      refine a_iload_n C dX11_rule_27 (i := 1) rfl rfl ?_
      refine a_ic_ge C dX11_rule_28 (tgt := 70) rfl (fun c8 => absurd c8 (nI_ge (a := (j)) (b := (m)) (by omega) (by omega))) (fun c8 => ?_)
      refine a_iload_n C dX11_rule_31 (i := 2) rfl rfl ?_
      refine a_aload_n C dX11_rule_32 (i := 0) rfl rfl ?_
      refine a_get C fl_RX11_19 (i := 0) kd_0 (hid 0 (by decide)) (v := .ref (ad 8)) rfl dX11_rule_33 ?_
      refine a_aload_n C dX11_rule_36 (i := 0) rfl rfl ?_
      refine a_get C fl_RX11_82 (i := 0) kd_0 (hid 0 (by decide)) (v := .ref (ad 30)) (congrArg (fun z => some (Value.ref (ad z))) (Eq.trans (congrArg (fun z => z.2 0) hV.1.2) htx0)) dX11_rule_37 ?_
      refine a_aload_n C dX11_rule_40 (i := 0) rfl rfl ?_
      refine a_get C fl_RX11_58 (i := 0) kd_0 (hid 0 (by decide)) (v := .ref (ad 60)) rfl dX11_rule_41 ?_
      refine a_callVi C (i := 8) kd_8 (hid 8 (by decide)) ⟨_, _, rfl⟩ (by decide) (k_inForce hid hV.2.1) mi_X4_inForce ml_RX11_317 rfl rfl (Nat.le_of_ble_eq_true rfl) (Nat.le_of_ble_eq_true rfl) (Nat.le_of_ble_eq_true rfl) dX11_rule_44 (fun r9 σ10 q11 => ?_)
      obtain ⟨rfl, q11⟩ := q11
      rw [q11]
      refine a_iadd C dX11_rule_47 ?_
      refine a_istore_n C dX11_rule_48 (i := 2) rfl (by decide) rfl (vs1 := [some (.ref (ad 0)), some (.int (nI m)), some (.int 0), some (.int (nI j))]) rfl ?_
      refine a_aload_n C dX11_rule_49 (i := 0) rfl rfl ?_
      refine a_get C fl_RX11_19 (i := 0) kd_0 (hid 0 (by decide)) (v := .ref (ad 8)) rfl dX11_rule_50 ?_
      refine a_aload_n C dX11_rule_53 (i := 0) rfl rfl ?_
      refine a_get C fl_RX11_82 (i := 0) kd_0 (hid 0 (by decide)) (v := .ref (ad 30)) (congrArg (fun z => some (Value.ref (ad z))) (Eq.trans (congrArg (fun z => z.2 0) hV.1.2) htx0)) dX11_rule_54 ?_
      refine a_aload_n C dX11_rule_57 (i := 0) rfl rfl ?_
      refine a_get C fl_RX11_58 (i := 0) kd_0 (hid 0 (by decide)) (v := .ref (ad 60)) rfl dX11_rule_58 ?_
      refine a_callVv C (i := 8) kd_8 (hid 8 (by decide)) ⟨_, _, rfl⟩ (by decide) (k_goOnSafely hid (bt := 0 + j) hV.2.2.2.2.2 ((congrFun (hV.1.1 30 (by decide)) 10).trans h_30_10) hV.2.1 hV.2.2.1 hV.2.2.2.1 hV.2.2.2.2.1) mi_X4_goOnSafely ml_RX11_285 rfl rfl (Nat.le_of_ble_eq_true rfl) (Nat.le_of_ble_eq_true rfl) (Nat.le_of_ble_eq_true rfl) dX11_rule_61 (fun σ13 q14 => ?_)
      refine a_iinc C dX11_rule_64 rfl (v := (nI (j + 1))) (nI_1 _) (by decide) rfl (vs1 := [some (.ref (ad 0)), some (.int (nI m)), some (.int 0), some (.int (nI (j + 1)))]) rfl ?_
      refine a_goto C dX11_rule_67 (tgt := 26) rfl ?_
      exact ih (j + 1) _ (by omega) ⟨(only.tr (only.tr only.rf (only.mono hV.1 (by decide))) (only.mono q14.1 (by decide))), q14.2.1, q14.2.2.1, q14.2.2.2.1, q14.2.2.2.2.1, (Eq.trans q14.2.2.2.2.2 (congrArg nI (show 0 + j + 1 = 0 + (j + 1) by omega)))⟩
  exact loop (m - 0) 0 _ (by omega) ⟨(only.tr only.rf (only.mono q6.1 (by decide))), q6.2.1, q6.2.2.1, q6.2.2.2.1, q6.2.2.2.2.1, (Eq.trans q6.2.2.2.2.2 (congrArg nI (show 0 = 0 + 0 by omega)))⟩
theorem dX11_light_0 : decode cX11_light 0 = .ok (.iload_n 1, 1) := by decide +kernel
theorem dX11_light_1 : decode cX11_light 1 = .ok (.invokestatic 307, 3) := by decide +kernel
theorem dX11_light_4 : decode cX11_light 4 = .ok (.ifCond .eq 12, 3) := by decide +kernel
theorem dX11_light_7 : decode cX11_light 7 = .ok (.iload_n 2, 1) := by decide +kernel
theorem dX11_light_8 : decode cX11_light 8 = .ok (.ifCond .lt 8, 3) := by decide +kernel
theorem dX11_light_11 : decode cX11_light 11 = .ok (.iload_n 2, 1) := by decide +kernel
theorem dX11_light_12 : decode cX11_light 12 = .ok (.iconst 1, 1) := by decide +kernel
theorem dX11_light_13 : decode cX11_light 13 = .ok (.if_icmp .le 5, 3) := by decide +kernel
theorem dX11_light_18 : decode cX11_light 18 = .ok (.bipush (-2), 2) := by decide +kernel
theorem dX11_light_20 : decode cX11_light 20 = .ok (.istore_n 3, 1) := by decide +kernel
theorem dX11_light_21 : decode cX11_light 21 = .ok (.bipush (-2), 2) := by decide +kernel
theorem dX11_light_23 : decode cX11_light 23 = .ok (.istore 4, 2) := by decide +kernel
theorem dX11_light_25 : decode cX11_light 25 = .ok (.iconst 0, 1) := by decide +kernel
theorem dX11_light_26 : decode cX11_light 26 = .ok (.istore 5, 2) := by decide +kernel
theorem dX11_light_28 : decode cX11_light 28 = .ok (.iload 5, 2) := by decide +kernel
theorem dX11_light_30 : decode cX11_light 30 = .ok (.aload_n 0, 1) := by decide +kernel
theorem dX11_light_31 : decode cX11_light 31 = .ok (.getfield 82, 3) := by decide +kernel
theorem dX11_light_34 : decode cX11_light 34 = .ok (.getfield 171, 3) := by decide +kernel
theorem dX11_light_37 : decode cX11_light 37 = .ok (.if_icmp .ge 116, 3) := by decide +kernel
theorem dX11_light_153 : decode cX11_light 153 = .ok (.iload_n 2, 1) := by decide +kernel
theorem dX11_light_154 : decode cX11_light 154 = .ok (.ifCond .ne 7, 3) := by decide +kernel
theorem dX11_light_157 : decode cX11_light 157 = .ok (.iload_n 3, 1) := by decide +kernel
theorem dX11_light_158 : decode cX11_light 158 = .ok (.goto 5, 3) := by decide +kernel
theorem dX11_light_161 : decode cX11_light 161 = .ok (.iload 4, 2) := by decide +kernel
theorem dX11_light_163 : decode cX11_light 163 = .ok (.ireturn, 1) := by decide +kernel
set_option maxHeartbeats 4000000 in
set_option maxRecDepth 100000 in
theorem p_light_in {l : Launch} {D : va_G} {ids : List Nat} {ad : Nat → Nat} {ca : Nat → ClassId} {σ : HS} {m : Nat} {p1 : Int32} (hid : ∀ i, i < 277 → i ∈ ids) (h1 : 1 ≤ m) (hm : m ≤ 60) (w1 : ¬ p1 < 0) (w2 : p1 ≤ 1) (htx0 : σ.2.2 0 = 30) (h_30_4 : σ.1 30 4 = 0) : Ki l D ids ad ca yX11_light cX11_light 6 .int 1 20 [.ref (ad 0), .int (nI m), .int p1] σ (fun r σ1 => r = (-2) ∧ keepM σ σ1) := by
  refine Ki.of (by decide) (Nat.le_of_ble_eq_true rfl) 3 (fun Γ C Rt => ?_)
  show AW ids ad ca Γ 0 [some (.ref (ad 0)), some (.int (nI m)), some (.int p1), none, none, none] [] σ
  refine a_iload_n C dX11_light_0 (i := 1) rfl rfl ?_
  refine a_callSi C (k_isSpan_in hid h1 hm) ms_X11_isSpan ml_RX11_307 rfl rfl (Nat.le_of_ble_eq_true rfl) (Nat.le_of_ble_eq_true rfl) (Nat.le_of_ble_eq_true rfl) dX11_light_1 (fun r1 σ2 q3 => ?_)
  obtain ⟨rfl, q3⟩ := q3
  rw [q3]
  refine a_if_eq C dX11_light_4 (tgt := 16) rfl (fun h => absurd h (by decide)) (fun _ => ?_)
  refine a_iload_n C dX11_light_7 (i := 2) rfl rfl ?_
  refine a_if_lt C dX11_light_8 (tgt := 16) rfl (fun c4 => absurd c4 (w1)) (fun c4 => ?_)
  refine a_iload_n C dX11_light_11 (i := 2) rfl rfl ?_
  refine a_iconst C dX11_light_12 (v := 1) rfl ?_
  refine a_ic_le C dX11_light_13 (tgt := 18) rfl (fun c5 => ?_) (fun c5 => absurd c5 (fun q => q w2))
  refine a_bipush C dX11_light_18 (v := (-2)) rfl ?_
  refine a_istore_n C dX11_light_20 (i := 3) rfl (by decide) rfl (vs1 := [some (.ref (ad 0)), some (.int (nI m)), some (.int p1), some (.int (-2)), none, none]) rfl ?_
  refine a_bipush C dX11_light_21 (v := (-2)) rfl ?_
  refine a_istore C dX11_light_23 (by decide) rfl (vs1 := [some (.ref (ad 0)), some (.int (nI m)), some (.int p1), some (.int (-2)), some (.int (-2)), none]) rfl ?_
  refine a_iconst C dX11_light_25 (v := 0) rfl ?_
  refine a_istore C dX11_light_26 (by decide) rfl (vs1 := [some (.ref (ad 0)), some (.int (nI m)), some (.int p1), some (.int (-2)), some (.int (-2)), some (.int 0)]) rfl ?_
  refine a_iload C dX11_light_28 rfl ?_
  refine a_aload_n C dX11_light_30 (i := 0) rfl rfl ?_
  refine a_get C fl_RX11_82 (i := 0) kd_0 (hid 0 (by decide)) (v := .ref (ad 30)) (congrArg (fun z => some (Value.ref (ad z))) htx0) dX11_light_31 ?_
  refine a_get C fl_RX11_171 (i := 30) kd_30 (hid 30 (by decide)) (v := .int 0) (congrArg (fun z => some (Value.int z)) h_30_4) dX11_light_34 ?_
  refine a_ic_ge C dX11_light_37 (tgt := 153) rfl (fun _ => ?_) (fun h => absurd h (by decide))
  refine a_iload_n C dX11_light_153 (i := 2) rfl rfl ?_
  refine a_if_ne C dX11_light_154 (tgt := 161) rfl (fun c6 => ?_) (fun c6 => ?_)
  ·
    refine a_iload C dX11_light_161 rfl ?_
    exact a_iret Rt dX11_light_163 rfl (⟨rfl, keepM.rf⟩)
  ·
    refine a_iload_n C dX11_light_157 (i := 3) rfl rfl ?_
    refine a_goto C dX11_light_158 (tgt := 163) rfl ?_
    exact a_iret Rt dX11_light_163 rfl (⟨rfl, keepM.rf⟩)
theorem dX11_light_16 : decode cX11_light 16 = .ok (.iconst (-1), 1) := by decide +kernel
theorem dX11_light_17 : decode cX11_light 17 = .ok (.ireturn, 1) := by decide +kernel
set_option maxHeartbeats 4000000 in
set_option maxRecDepth 100000 in
theorem p_light_w {l : Launch} {D : va_G} {ids : List Nat} {ad : Nat → Nat} {ca : Nat → ClassId} {σ : HS} {m : Nat} {p1 : Int32} (hid : ∀ i, i < 277 → i ∈ ids) (h1 : 1 ≤ m) (hm : m ≤ 60) (ho : p1 < 0 ∨ 1 < p1) : Ki l D ids ad ca yX11_light cX11_light 6 .int 1 20 [.ref (ad 0), .int (nI m), .int p1] σ (fun r σ1 => r = (-1) ∧ keepM σ σ1) := by
  refine Ki.of (by decide) (Nat.le_of_ble_eq_true rfl) 3 (fun Γ C Rt => ?_)
  show AW ids ad ca Γ 0 [some (.ref (ad 0)), some (.int (nI m)), some (.int p1), none, none, none] [] σ
  refine a_iload_n C dX11_light_0 (i := 1) rfl rfl ?_
  refine a_callSi C (k_isSpan_in hid h1 hm) ms_X11_isSpan ml_RX11_307 rfl rfl (Nat.le_of_ble_eq_true rfl) (Nat.le_of_ble_eq_true rfl) (Nat.le_of_ble_eq_true rfl) dX11_light_1 (fun r1 σ2 q3 => ?_)
  obtain ⟨rfl, q3⟩ := q3
  rw [q3]
  refine a_if_eq C dX11_light_4 (tgt := 16) rfl (fun h => absurd h (by decide)) (fun _ => ?_)
  refine a_iload_n C dX11_light_7 (i := 2) rfl rfl ?_
  refine a_if_lt C dX11_light_8 (tgt := 16) rfl (fun c4 => ?_) (fun c4 => ?_)
  ·
    refine a_iconst C dX11_light_16 (v := (-1)) rfl ?_
    exact a_iret Rt dX11_light_17 rfl (⟨rfl, keepM.rf⟩)
  ·
    refine a_iload_n C dX11_light_11 (i := 2) rfl rfl ?_
    refine a_iconst C dX11_light_12 (v := 1) rfl ?_
    refine a_ic_le C dX11_light_13 (tgt := 18) rfl (fun c5 => absurd c5 (Int32.not_le.mpr (ho.resolve_left c4))) (fun c5 => ?_)
    refine a_iconst C dX11_light_16 (v := (-1)) rfl ?_
    exact a_iret Rt dX11_light_17 rfl (⟨rfl, keepM.rf⟩)
set_option maxHeartbeats 4000000 in
set_option maxRecDepth 100000 in
theorem p_busiest_out {l : Launch} {D : va_G} {ids : List Nat} {ad : Nat → Nat} {ca : Nat → ClassId} {σ : HS} {p0 : Int32} {p1 : Int32} (hid : ∀ i, i < 277 → i ∈ ids) (ho : p0 < 1 ∨ 60 < p0) : Ki l D ids ad ca yX11_busiest cX11_busiest 5 .int 1 20 [.ref (ad 0), .int p0, .int p1] σ (fun r σ1 => r = (-1) ∧ keepM σ σ1) := by
  refine Ki.of (by decide) (Nat.le_of_ble_eq_true rfl) 2 (fun Γ C Rt => ?_)
  show AW ids ad ca Γ 0 [some (.ref (ad 0)), some (.int p0), some (.int p1), none, none] [] σ
  refine a_iload_n C dX11_busiest_0 (i := 1) rfl rfl ?_
  refine a_callSi C (k_isSpan_out hid ho) ms_X11_isSpan ml_RX11_307 rfl rfl (Nat.le_of_ble_eq_true rfl) (Nat.le_of_ble_eq_true rfl) (Nat.le_of_ble_eq_true rfl) dX11_busiest_1 (fun r1 σ2 q3 => ?_)
  obtain ⟨rfl, q3⟩ := q3
  rw [q3]
  refine a_if_eq C dX11_busiest_4 (tgt := 16) rfl (fun _ => ?_) (fun h => absurd h (by decide))
  refine a_iconst C dX11_busiest_16 (v := (-1)) rfl ?_
  exact a_iret Rt dX11_busiest_17 rfl (⟨rfl, keepM.rf⟩)
set_option maxHeartbeats 4000000 in
set_option maxRecDepth 100000 in
theorem p_light_out {l : Launch} {D : va_G} {ids : List Nat} {ad : Nat → Nat} {ca : Nat → ClassId} {σ : HS} {p0 : Int32} {p1 : Int32} (hid : ∀ i, i < 277 → i ∈ ids) (ho : p0 < 1 ∨ 60 < p0) : Ki l D ids ad ca yX11_light cX11_light 6 .int 1 20 [.ref (ad 0), .int p0, .int p1] σ (fun r σ1 => r = (-1) ∧ keepM σ σ1) := by
  refine Ki.of (by decide) (Nat.le_of_ble_eq_true rfl) 3 (fun Γ C Rt => ?_)
  show AW ids ad ca Γ 0 [some (.ref (ad 0)), some (.int p0), some (.int p1), none, none, none] [] σ
  refine a_iload_n C dX11_light_0 (i := 1) rfl rfl ?_
  refine a_callSi C (k_isSpan_out hid ho) ms_X11_isSpan ml_RX11_307 rfl rfl (Nat.le_of_ble_eq_true rfl) (Nat.le_of_ble_eq_true rfl) (Nat.le_of_ble_eq_true rfl) dX11_light_1 (fun r1 σ2 q3 => ?_)
  obtain ⟨rfl, q3⟩ := q3
  rw [q3]
  refine a_if_eq C dX11_light_4 (tgt := 16) rfl (fun _ => ?_) (fun h => absurd h (by decide))
  refine a_iconst C dX11_light_16 (v := (-1)) rfl ?_
  exact a_iret Rt dX11_light_17 rfl (⟨rfl, keepM.rf⟩)
theorem dX11_load_7 : decode cX11_load 7 = .ok (.iconst (-1), 1) := by decide +kernel
theorem dX11_load_8 : decode cX11_load 8 = .ok (.ireturn, 1) := by decide +kernel
set_option maxHeartbeats 4000000 in
set_option maxRecDepth 100000 in
theorem p_load_out {l : Launch} {D : va_G} {ids : List Nat} {ad : Nat → Nat} {ca : Nat → ClassId} {σ : HS} {p0 : Int32} (hid : ∀ i, i < 277 → i ∈ ids) (ho : p0 < 1 ∨ 60 < p0) : Ki l D ids ad ca yX11_load cX11_load 4 .int 1 20 [.ref (ad 0), .int p0] σ (fun r σ1 => r = (-1) ∧ keepM σ σ1) := by
  refine Ki.of (by decide) (Nat.le_of_ble_eq_true rfl) 2 (fun Γ C Rt => ?_)
  show AW ids ad ca Γ 0 [some (.ref (ad 0)), some (.int p0), none, none] [] σ
  refine a_iload_n C dX11_load_0 (i := 1) rfl rfl ?_
  refine a_callSi C (k_isSpan_out hid ho) ms_X11_isSpan ml_RX11_307 rfl rfl (Nat.le_of_ble_eq_true rfl) (Nat.le_of_ble_eq_true rfl) (Nat.le_of_ble_eq_true rfl) dX11_load_1 (fun r1 σ2 q3 => ?_)
  obtain ⟨rfl, q3⟩ := q3
  rw [q3]
  refine a_if_ne C dX11_load_4 (tgt := 9) rfl (fun h => absurd h (by decide)) (fun _ => ?_)
  refine a_iconst C dX11_load_7 (v := (-1)) rfl ?_
  exact a_iret Rt dX11_load_8 rfl (⟨rfl, keepM.rf⟩)
theorem dX11_rule_7 : decode cX11_rule 7 = .ok (.ldc_w 316, 3) := by decide +kernel
theorem dX11_rule_10 : decode cX11_rule 10 = .ok (.ireturn, 1) := by decide +kernel
set_option maxHeartbeats 4000000 in
set_option maxRecDepth 100000 in
theorem p_rule_out {l : Launch} {D : va_G} {ids : List Nat} {ad : Nat → Nat} {ca : Nat → ClassId} {σ : HS} {p0 : Int32} (hid : ∀ i, i < 277 → i ∈ ids) (ho : p0 < 1 ∨ 60 < p0) : Ki l D ids ad ca yX11_rule cX11_rule 4 .int 1 20 [.ref (ad 0), .int p0] σ (fun r σ1 => r = (-100000) ∧ keepM σ σ1) := by
  refine Ki.of (by decide) (Nat.le_of_ble_eq_true rfl) 2 (fun Γ C Rt => ?_)
  show AW ids ad ca Γ 0 [some (.ref (ad 0)), some (.int p0), none, none] [] σ
  refine a_iload_n C dX11_rule_0 (i := 1) rfl rfl ?_
  refine a_callSi C (k_isSpan_out hid ho) ms_X11_isSpan ml_RX11_307 rfl rfl (Nat.le_of_ble_eq_true rfl) (Nat.le_of_ble_eq_true rfl) (Nat.le_of_ble_eq_true rfl) dX11_rule_1 (fun r1 σ2 q3 => ?_)
  obtain ⟨rfl, q3⟩ := q3
  rw [q3]
  refine a_if_ne C dX11_rule_4 (tgt := 11) rfl (fun h => absurd h (by decide)) (fun _ => ?_)
  refine a_ldcw C dX11_rule_7 ko_RX11_316 ?_
  exact a_iret Rt dX11_rule_10 rfl (⟨rfl, keepM.rf⟩)
theorem dX11_order_0 : decode cX11_order 0 = .ok (.iload_n 1, 1) := by decide +kernel
theorem dX11_order_1 : decode cX11_order 1 = .ok (.ifCond .lt 9, 3) := by decide +kernel
theorem dX11_order_4 : decode cX11_order 4 = .ok (.iload_n 1, 1) := by decide +kernel
theorem dX11_order_5 : decode cX11_order 5 = .ok (.bipush 7, 2) := by decide +kernel
theorem dX11_order_7 : decode cX11_order 7 = .ok (.if_icmp .lt 5, 3) := by decide +kernel
theorem dX11_order_10 : decode cX11_order 10 = .ok (.iconst (-1), 1) := by decide +kernel
theorem dX11_order_11 : decode cX11_order 11 = .ok (.ireturn, 1) := by decide +kernel
set_option maxHeartbeats 4000000 in
set_option maxRecDepth 100000 in
theorem p_order_out {l : Launch} {D : va_G} {ids : List Nat} {ad : Nat → Nat} {ca : Nat → ClassId} {σ : HS} {p0 : Int32} (hid : ∀ i, i < 277 → i ∈ ids) (ho : p0 < 0 ∨ 7 ≤ p0) : Ki l D ids ad ca yX11_order cX11_order 5 .int 0 0 [.ref (ad 0), .int p0] σ (fun r σ1 => r = (-1) ∧ keepM σ σ1) := by
  refine Ki.of (by decide) (Nat.le_of_ble_eq_true rfl) 3 (fun Γ C Rt => ?_)
  show AW ids ad ca Γ 0 [some (.ref (ad 0)), some (.int p0), none, none, none] [] σ
  refine a_iload_n C dX11_order_0 (i := 1) rfl rfl ?_
  refine a_if_lt C dX11_order_1 (tgt := 10) rfl (fun c1 => ?_) (fun c1 => ?_)
  ·
    refine a_iconst C dX11_order_10 (v := (-1)) rfl ?_
    exact a_iret Rt dX11_order_11 rfl (⟨rfl, keepM.rf⟩)
  ·
    refine a_iload_n C dX11_order_4 (i := 1) rfl rfl ?_
    refine a_bipush C dX11_order_5 (v := 7) rfl ?_
    refine a_ic_lt C dX11_order_7 (tgt := 12) rfl (fun c2 => absurd c2 (Int32.not_lt.mpr (ho.resolve_left c1))) (fun c2 => ?_)
    refine a_iconst C dX11_order_10 (v := (-1)) rfl ?_
    exact a_iret Rt dX11_order_11 rfl (⟨rfl, keepM.rf⟩)
theorem dX11_order_12 : decode cX11_order 12 = .ok (.iconst 0, 1) := by decide +kernel
theorem dX11_order_13 : decode cX11_order 13 = .ok (.istore_n 2, 1) := by decide +kernel
theorem dX11_order_14 : decode cX11_order 14 = .ok (.iconst 0, 1) := by decide +kernel
theorem dX11_order_15 : decode cX11_order 15 = .ok (.istore_n 3, 1) := by decide +kernel
theorem dX11_order_16 : decode cX11_order 16 = .ok (.iload_n 3, 1) := by decide +kernel
theorem dX11_order_17 : decode cX11_order 17 = .ok (.bipush 9, 2) := by decide +kernel
theorem dX11_order_19 : decode cX11_order 19 = .ok (.if_icmp .gt 67, 3) := by decide +kernel
theorem dX11_order_22 : decode cX11_order 22 = .ok (.iconst 0, 1) := by decide +kernel
theorem dX11_order_23 : decode cX11_order 23 = .ok (.istore 4, 2) := by decide +kernel
theorem dX11_order_25 : decode cX11_order 25 = .ok (.iload 4, 2) := by decide +kernel
theorem dX11_order_27 : decode cX11_order 27 = .ok (.aload_n 0, 1) := by decide +kernel
theorem dX11_order_28 : decode cX11_order 28 = .ok (.getfield 54, 3) := by decide +kernel
theorem dX11_order_31 : decode cX11_order 31 = .ok (.getfield 321, 3) := by decide +kernel
theorem dX11_order_34 : decode cX11_order 34 = .ok (.if_icmp .ge 46, 3) := by decide +kernel
theorem dX11_order_80 : decode cX11_order 80 = .ok (.iinc 3 1, 3) := by decide +kernel
theorem dX11_order_83 : decode cX11_order 83 = .ok (.goto (-67), 3) := by decide +kernel
theorem dX11_order_86 : decode cX11_order 86 = .ok (.iconst (-1), 1) := by decide +kernel
theorem dX11_order_87 : decode cX11_order 87 = .ok (.ireturn, 1) := by decide +kernel
set_option maxHeartbeats 4000000 in
set_option maxRecDepth 100000 in
theorem p_order_in {l : Launch} {D : va_G} {ids : List Nat} {ad : Nat → Nat} {ca : Nat → ClassId} {σ : HS} {p0 : Int32} (hid : ∀ i, i < 277 → i ∈ ids) (h1 : ¬ p0 < 0) (h2 : p0 < 7) (h_56_0 : σ.1 56 0 = 0) : Ki l D ids ad ca yX11_order cX11_order 5 .int 0 0 [.ref (ad 0), .int p0] σ (fun r σ1 => r = (-1) ∧ keepM σ σ1) := by
  refine Ki.of (by decide) (Nat.le_of_ble_eq_true rfl) 3 (fun Γ C Rt => ?_)
  show AW ids ad ca Γ 0 [some (.ref (ad 0)), some (.int p0), none, none, none] [] σ
  refine a_iload_n C dX11_order_0 (i := 1) rfl rfl ?_
  refine a_if_lt C dX11_order_1 (tgt := 10) rfl (fun c1 => absurd c1 (h1)) (fun c1 => ?_)
  refine a_iload_n C dX11_order_4 (i := 1) rfl rfl ?_
  refine a_bipush C dX11_order_5 (v := 7) rfl ?_
  refine a_ic_lt C dX11_order_7 (tgt := 12) rfl (fun c2 => ?_) (fun c2 => absurd c2 (fun q => q h2))
  refine a_iconst C dX11_order_12 (v := 0) rfl ?_
  refine a_istore_n C dX11_order_13 (i := 2) rfl (by decide) rfl (vs1 := [some (.ref (ad 0)), some (.int p0), some (.int 0), none, none]) rfl ?_
  refine a_iconst C dX11_order_14 (v := 0) rfl ?_
  refine a_istore_n C dX11_order_15 (i := 3) rfl (by decide) rfl (vs1 := [some (.ref (ad 0)), some (.int p0), some (.int 0), some (.int 0), none]) rfl ?_
  refine a_iload_n C dX11_order_16 (i := 3) rfl rfl ?_
  refine a_bipush C dX11_order_17 (v := 9) rfl ?_
  refine a_ic_gt C dX11_order_19 (tgt := 86) rfl (fun h => absurd h (by decide)) (fun _ => ?_)
  refine a_iconst C dX11_order_22 (v := 0) rfl ?_
  refine a_istore C dX11_order_23 (by decide) rfl (vs1 := [some (.ref (ad 0)), some (.int p0), some (.int 0), some (.int 0), some (.int 0)]) rfl ?_
  refine a_iload C dX11_order_25 rfl ?_
  refine a_aload_n C dX11_order_27 (i := 0) rfl rfl ?_
  refine a_get C fl_RX11_54 (i := 0) kd_0 (hid 0 (by decide)) (v := .ref (ad 56)) rfl dX11_order_28 ?_
  refine a_get C fl_RX11_321 (i := 56) kd_56 (hid 56 (by decide)) (v := .int 0) (congrArg (fun z => some (Value.int z)) h_56_0) dX11_order_31 ?_
  refine a_ic_ge C dX11_order_34 (tgt := 80) rfl (fun _ => ?_) (fun h => absurd h (by decide))
  refine a_iinc C dX11_order_80 rfl (v := 1) rfl (by decide) rfl (vs1 := [some (.ref (ad 0)), some (.int p0), some (.int 0), some (.int 1), some (.int 0)]) rfl ?_
  refine a_goto C dX11_order_83 (tgt := 16) rfl ?_
  refine a_iload_n C dX11_order_16 (i := 3) rfl rfl ?_
  refine a_bipush C dX11_order_17 (v := 9) rfl ?_
  refine a_ic_gt C dX11_order_19 (tgt := 86) rfl (fun h => absurd h (by decide)) (fun _ => ?_)
  refine a_iconst C dX11_order_22 (v := 0) rfl ?_
  refine a_istore C dX11_order_23 (by decide) rfl (vs1 := [some (.ref (ad 0)), some (.int p0), some (.int 0), some (.int 1), some (.int 0)]) rfl ?_
  refine a_iload C dX11_order_25 rfl ?_
  refine a_aload_n C dX11_order_27 (i := 0) rfl rfl ?_
  refine a_get C fl_RX11_54 (i := 0) kd_0 (hid 0 (by decide)) (v := .ref (ad 56)) rfl dX11_order_28 ?_
  refine a_get C fl_RX11_321 (i := 56) kd_56 (hid 56 (by decide)) (v := .int 0) (congrArg (fun z => some (Value.int z)) h_56_0) dX11_order_31 ?_
  refine a_ic_ge C dX11_order_34 (tgt := 80) rfl (fun _ => ?_) (fun h => absurd h (by decide))
  refine a_iinc C dX11_order_80 rfl (v := 2) rfl (by decide) rfl (vs1 := [some (.ref (ad 0)), some (.int p0), some (.int 0), some (.int 2), some (.int 0)]) rfl ?_
  refine a_goto C dX11_order_83 (tgt := 16) rfl ?_
  refine a_iload_n C dX11_order_16 (i := 3) rfl rfl ?_
  refine a_bipush C dX11_order_17 (v := 9) rfl ?_
  refine a_ic_gt C dX11_order_19 (tgt := 86) rfl (fun h => absurd h (by decide)) (fun _ => ?_)
  refine a_iconst C dX11_order_22 (v := 0) rfl ?_
  refine a_istore C dX11_order_23 (by decide) rfl (vs1 := [some (.ref (ad 0)), some (.int p0), some (.int 0), some (.int 2), some (.int 0)]) rfl ?_
  refine a_iload C dX11_order_25 rfl ?_
  refine a_aload_n C dX11_order_27 (i := 0) rfl rfl ?_
  refine a_get C fl_RX11_54 (i := 0) kd_0 (hid 0 (by decide)) (v := .ref (ad 56)) rfl dX11_order_28 ?_
  refine a_get C fl_RX11_321 (i := 56) kd_56 (hid 56 (by decide)) (v := .int 0) (congrArg (fun z => some (Value.int z)) h_56_0) dX11_order_31 ?_
  refine a_ic_ge C dX11_order_34 (tgt := 80) rfl (fun _ => ?_) (fun h => absurd h (by decide))
  refine a_iinc C dX11_order_80 rfl (v := 3) rfl (by decide) rfl (vs1 := [some (.ref (ad 0)), some (.int p0), some (.int 0), some (.int 3), some (.int 0)]) rfl ?_
  refine a_goto C dX11_order_83 (tgt := 16) rfl ?_
  refine a_iload_n C dX11_order_16 (i := 3) rfl rfl ?_
  refine a_bipush C dX11_order_17 (v := 9) rfl ?_
  refine a_ic_gt C dX11_order_19 (tgt := 86) rfl (fun h => absurd h (by decide)) (fun _ => ?_)
  refine a_iconst C dX11_order_22 (v := 0) rfl ?_
  refine a_istore C dX11_order_23 (by decide) rfl (vs1 := [some (.ref (ad 0)), some (.int p0), some (.int 0), some (.int 3), some (.int 0)]) rfl ?_
  refine a_iload C dX11_order_25 rfl ?_
  refine a_aload_n C dX11_order_27 (i := 0) rfl rfl ?_
  refine a_get C fl_RX11_54 (i := 0) kd_0 (hid 0 (by decide)) (v := .ref (ad 56)) rfl dX11_order_28 ?_
  refine a_get C fl_RX11_321 (i := 56) kd_56 (hid 56 (by decide)) (v := .int 0) (congrArg (fun z => some (Value.int z)) h_56_0) dX11_order_31 ?_
  refine a_ic_ge C dX11_order_34 (tgt := 80) rfl (fun _ => ?_) (fun h => absurd h (by decide))
  refine a_iinc C dX11_order_80 rfl (v := 4) rfl (by decide) rfl (vs1 := [some (.ref (ad 0)), some (.int p0), some (.int 0), some (.int 4), some (.int 0)]) rfl ?_
  refine a_goto C dX11_order_83 (tgt := 16) rfl ?_
  refine a_iload_n C dX11_order_16 (i := 3) rfl rfl ?_
  refine a_bipush C dX11_order_17 (v := 9) rfl ?_
  refine a_ic_gt C dX11_order_19 (tgt := 86) rfl (fun h => absurd h (by decide)) (fun _ => ?_)
  refine a_iconst C dX11_order_22 (v := 0) rfl ?_
  refine a_istore C dX11_order_23 (by decide) rfl (vs1 := [some (.ref (ad 0)), some (.int p0), some (.int 0), some (.int 4), some (.int 0)]) rfl ?_
  refine a_iload C dX11_order_25 rfl ?_
  refine a_aload_n C dX11_order_27 (i := 0) rfl rfl ?_
  refine a_get C fl_RX11_54 (i := 0) kd_0 (hid 0 (by decide)) (v := .ref (ad 56)) rfl dX11_order_28 ?_
  refine a_get C fl_RX11_321 (i := 56) kd_56 (hid 56 (by decide)) (v := .int 0) (congrArg (fun z => some (Value.int z)) h_56_0) dX11_order_31 ?_
  refine a_ic_ge C dX11_order_34 (tgt := 80) rfl (fun _ => ?_) (fun h => absurd h (by decide))
  refine a_iinc C dX11_order_80 rfl (v := 5) rfl (by decide) rfl (vs1 := [some (.ref (ad 0)), some (.int p0), some (.int 0), some (.int 5), some (.int 0)]) rfl ?_
  refine a_goto C dX11_order_83 (tgt := 16) rfl ?_
  refine a_iload_n C dX11_order_16 (i := 3) rfl rfl ?_
  refine a_bipush C dX11_order_17 (v := 9) rfl ?_
  refine a_ic_gt C dX11_order_19 (tgt := 86) rfl (fun h => absurd h (by decide)) (fun _ => ?_)
  refine a_iconst C dX11_order_22 (v := 0) rfl ?_
  refine a_istore C dX11_order_23 (by decide) rfl (vs1 := [some (.ref (ad 0)), some (.int p0), some (.int 0), some (.int 5), some (.int 0)]) rfl ?_
  refine a_iload C dX11_order_25 rfl ?_
  refine a_aload_n C dX11_order_27 (i := 0) rfl rfl ?_
  refine a_get C fl_RX11_54 (i := 0) kd_0 (hid 0 (by decide)) (v := .ref (ad 56)) rfl dX11_order_28 ?_
  refine a_get C fl_RX11_321 (i := 56) kd_56 (hid 56 (by decide)) (v := .int 0) (congrArg (fun z => some (Value.int z)) h_56_0) dX11_order_31 ?_
  refine a_ic_ge C dX11_order_34 (tgt := 80) rfl (fun _ => ?_) (fun h => absurd h (by decide))
  refine a_iinc C dX11_order_80 rfl (v := 6) rfl (by decide) rfl (vs1 := [some (.ref (ad 0)), some (.int p0), some (.int 0), some (.int 6), some (.int 0)]) rfl ?_
  refine a_goto C dX11_order_83 (tgt := 16) rfl ?_
  refine a_iload_n C dX11_order_16 (i := 3) rfl rfl ?_
  refine a_bipush C dX11_order_17 (v := 9) rfl ?_
  refine a_ic_gt C dX11_order_19 (tgt := 86) rfl (fun h => absurd h (by decide)) (fun _ => ?_)
  refine a_iconst C dX11_order_22 (v := 0) rfl ?_
  refine a_istore C dX11_order_23 (by decide) rfl (vs1 := [some (.ref (ad 0)), some (.int p0), some (.int 0), some (.int 6), some (.int 0)]) rfl ?_
  refine a_iload C dX11_order_25 rfl ?_
  refine a_aload_n C dX11_order_27 (i := 0) rfl rfl ?_
  refine a_get C fl_RX11_54 (i := 0) kd_0 (hid 0 (by decide)) (v := .ref (ad 56)) rfl dX11_order_28 ?_
  refine a_get C fl_RX11_321 (i := 56) kd_56 (hid 56 (by decide)) (v := .int 0) (congrArg (fun z => some (Value.int z)) h_56_0) dX11_order_31 ?_
  refine a_ic_ge C dX11_order_34 (tgt := 80) rfl (fun _ => ?_) (fun h => absurd h (by decide))
  refine a_iinc C dX11_order_80 rfl (v := 7) rfl (by decide) rfl (vs1 := [some (.ref (ad 0)), some (.int p0), some (.int 0), some (.int 7), some (.int 0)]) rfl ?_
  refine a_goto C dX11_order_83 (tgt := 16) rfl ?_
  refine a_iload_n C dX11_order_16 (i := 3) rfl rfl ?_
  refine a_bipush C dX11_order_17 (v := 9) rfl ?_
  refine a_ic_gt C dX11_order_19 (tgt := 86) rfl (fun h => absurd h (by decide)) (fun _ => ?_)
  refine a_iconst C dX11_order_22 (v := 0) rfl ?_
  refine a_istore C dX11_order_23 (by decide) rfl (vs1 := [some (.ref (ad 0)), some (.int p0), some (.int 0), some (.int 7), some (.int 0)]) rfl ?_
  refine a_iload C dX11_order_25 rfl ?_
  refine a_aload_n C dX11_order_27 (i := 0) rfl rfl ?_
  refine a_get C fl_RX11_54 (i := 0) kd_0 (hid 0 (by decide)) (v := .ref (ad 56)) rfl dX11_order_28 ?_
  refine a_get C fl_RX11_321 (i := 56) kd_56 (hid 56 (by decide)) (v := .int 0) (congrArg (fun z => some (Value.int z)) h_56_0) dX11_order_31 ?_
  refine a_ic_ge C dX11_order_34 (tgt := 80) rfl (fun _ => ?_) (fun h => absurd h (by decide))
  refine a_iinc C dX11_order_80 rfl (v := 8) rfl (by decide) rfl (vs1 := [some (.ref (ad 0)), some (.int p0), some (.int 0), some (.int 8), some (.int 0)]) rfl ?_
  refine a_goto C dX11_order_83 (tgt := 16) rfl ?_
  refine a_iload_n C dX11_order_16 (i := 3) rfl rfl ?_
  refine a_bipush C dX11_order_17 (v := 9) rfl ?_
  refine a_ic_gt C dX11_order_19 (tgt := 86) rfl (fun h => absurd h (by decide)) (fun _ => ?_)
  refine a_iconst C dX11_order_22 (v := 0) rfl ?_
  refine a_istore C dX11_order_23 (by decide) rfl (vs1 := [some (.ref (ad 0)), some (.int p0), some (.int 0), some (.int 8), some (.int 0)]) rfl ?_
  refine a_iload C dX11_order_25 rfl ?_
  refine a_aload_n C dX11_order_27 (i := 0) rfl rfl ?_
  refine a_get C fl_RX11_54 (i := 0) kd_0 (hid 0 (by decide)) (v := .ref (ad 56)) rfl dX11_order_28 ?_
  refine a_get C fl_RX11_321 (i := 56) kd_56 (hid 56 (by decide)) (v := .int 0) (congrArg (fun z => some (Value.int z)) h_56_0) dX11_order_31 ?_
  refine a_ic_ge C dX11_order_34 (tgt := 80) rfl (fun _ => ?_) (fun h => absurd h (by decide))
  refine a_iinc C dX11_order_80 rfl (v := 9) rfl (by decide) rfl (vs1 := [some (.ref (ad 0)), some (.int p0), some (.int 0), some (.int 9), some (.int 0)]) rfl ?_
  refine a_goto C dX11_order_83 (tgt := 16) rfl ?_
  refine a_iload_n C dX11_order_16 (i := 3) rfl rfl ?_
  refine a_bipush C dX11_order_17 (v := 9) rfl ?_
  refine a_ic_gt C dX11_order_19 (tgt := 86) rfl (fun h => absurd h (by decide)) (fun _ => ?_)
  refine a_iconst C dX11_order_22 (v := 0) rfl ?_
  refine a_istore C dX11_order_23 (by decide) rfl (vs1 := [some (.ref (ad 0)), some (.int p0), some (.int 0), some (.int 9), some (.int 0)]) rfl ?_
  refine a_iload C dX11_order_25 rfl ?_
  refine a_aload_n C dX11_order_27 (i := 0) rfl rfl ?_
  refine a_get C fl_RX11_54 (i := 0) kd_0 (hid 0 (by decide)) (v := .ref (ad 56)) rfl dX11_order_28 ?_
  refine a_get C fl_RX11_321 (i := 56) kd_56 (hid 56 (by decide)) (v := .int 0) (congrArg (fun z => some (Value.int z)) h_56_0) dX11_order_31 ?_
  refine a_ic_ge C dX11_order_34 (tgt := 80) rfl (fun _ => ?_) (fun h => absurd h (by decide))
  refine a_iinc C dX11_order_80 rfl (v := 10) rfl (by decide) rfl (vs1 := [some (.ref (ad 0)), some (.int p0), some (.int 0), some (.int 10), some (.int 0)]) rfl ?_
  refine a_goto C dX11_order_83 (tgt := 16) rfl ?_
  refine a_iload_n C dX11_order_16 (i := 3) rfl rfl ?_
  refine a_bipush C dX11_order_17 (v := 9) rfl ?_
  refine a_ic_gt C dX11_order_19 (tgt := 86) rfl (fun _ => ?_) (fun h => absurd h (by decide))
  refine a_iconst C dX11_order_86 (v := (-1)) rfl ?_
  exact a_iret Rt dX11_order_87 rfl (⟨rfl, keepM.rf⟩)
theorem dX2_agreeing_0 : decode cX2_agreeing 0 = .ok (.iload_n 1, 1) := by decide +kernel
theorem dX2_agreeing_1 : decode cX2_agreeing 1 = .ok (.istore 4, 2) := by decide +kernel
theorem dX2_agreeing_3 : decode cX2_agreeing 3 = .ok (.iconst 0, 1) := by decide +kernel
theorem dX2_agreeing_4 : decode cX2_agreeing 4 = .ok (.istore 5, 2) := by decide +kernel
theorem dX2_agreeing_6 : decode cX2_agreeing 6 = .ok (.iload 5, 2) := by decide +kernel
theorem dX2_agreeing_8 : decode cX2_agreeing 8 = .ok (.iload_n 2, 1) := by decide +kernel
theorem dX2_agreeing_9 : decode cX2_agreeing 9 = .ok (.if_icmp .ge 85, 3) := by decide +kernel
theorem dX2_agreeing_94 : decode cX2_agreeing 94 = .ok (.iload 4, 2) := by decide +kernel
theorem dX2_agreeing_96 : decode cX2_agreeing 96 = .ok (.ireturn, 1) := by decide +kernel
set_option maxHeartbeats 4000000 in
set_option maxRecDepth 100000 in
theorem k_agreeing {l : Launch} {D : va_G} {ids : List Nat} {ad : Nat → Nat} {ca : Nat → ClassId} {σ : HS} (hid : ∀ i, i < 277 → i ∈ ids) : Ki l D ids ad ca yX2_agreeing cX2_agreeing 8 .int 0 0 [.ref (ad 14), .int 0, .int 0, .ref (ad 27)] σ (fun r σ1 => r = 0 ∧ σ1 = σ) := by
  refine Ki.of (by decide) (Nat.le_of_ble_eq_true rfl) 4 (fun Γ C Rt => ?_)
  show AW ids ad ca Γ 0 [some (.ref (ad 14)), some (.int 0), some (.int 0), some (.ref (ad 27)), none, none, none, none] [] σ
  refine a_iload_n C dX2_agreeing_0 (i := 1) rfl rfl ?_
  refine a_istore C dX2_agreeing_1 (by decide) rfl (vs1 := [some (.ref (ad 14)), some (.int 0), some (.int 0), some (.ref (ad 27)), some (.int 0), none, none, none]) rfl ?_
  refine a_iconst C dX2_agreeing_3 (v := 0) rfl ?_
  refine a_istore C dX2_agreeing_4 (by decide) rfl (vs1 := [some (.ref (ad 14)), some (.int 0), some (.int 0), some (.ref (ad 27)), some (.int 0), some (.int 0), none, none]) rfl ?_
  refine a_iload C dX2_agreeing_6 rfl ?_
  refine a_iload_n C dX2_agreeing_8 (i := 2) rfl rfl ?_
  refine a_ic_ge C dX2_agreeing_9 (tgt := 94) rfl (fun _ => ?_) (fun h => absurd h (by decide))
  refine a_iload C dX2_agreeing_94 rfl ?_
  exact a_iret Rt dX2_agreeing_96 rfl (⟨rfl, rfl⟩)
theorem dX11_watch_0 : decode cX11_watch 0 = .ok (.iload_n 1, 1) := by decide +kernel
theorem dX11_watch_1 : decode cX11_watch 1 = .ok (.ifCond .lt 14, 3) := by decide +kernel
theorem dX11_watch_4 : decode cX11_watch 4 = .ok (.iload_n 1, 1) := by decide +kernel
theorem dX11_watch_5 : decode cX11_watch 5 = .ok (.aload_n 0, 1) := by decide +kernel
theorem dX11_watch_6 : decode cX11_watch 6 = .ok (.getfield 33, 3) := by decide +kernel
theorem dX11_watch_9 : decode cX11_watch 9 = .ok (.getfield 117, 3) := by decide +kernel
theorem dX11_watch_12 : decode cX11_watch 12 = .ok (.if_icmp .le 5, 3) := by decide +kernel
theorem dX11_watch_17 : decode cX11_watch 17 = .ok (.aload_n 0, 1) := by decide +kernel
theorem dX11_watch_18 : decode cX11_watch 18 = .ok (.bipush 41, 2) := by decide +kernel
theorem dX11_watch_20 : decode cX11_watch 20 = .ok (.invokevirtual 279, 3) := by decide +kernel
theorem dX11_watch_23 : decode cX11_watch 23 = .ok (.aload_n 0, 1) := by decide +kernel
theorem dX11_watch_24 : decode cX11_watch 24 = .ok (.getfield 33, 3) := by decide +kernel
theorem dX11_watch_27 : decode cX11_watch 27 = .ok (.aload_n 0, 1) := by decide +kernel
theorem dX11_watch_28 : decode cX11_watch 28 = .ok (.getfield 54, 3) := by decide +kernel
theorem dX11_watch_31 : decode cX11_watch 31 = .ok (.iconst 0, 1) := by decide +kernel
theorem dX11_watch_32 : decode cX11_watch 32 = .ok (.invokevirtual 180, 3) := by decide +kernel
theorem dX11_watch_35 : decode cX11_watch 35 = .ok (.iload_n 1, 1) := by decide +kernel
theorem dX11_watch_36 : decode cX11_watch 36 = .ok (.aload_n 0, 1) := by decide +kernel
theorem dX11_watch_37 : decode cX11_watch 37 = .ok (.getfield 69, 3) := by decide +kernel
theorem dX11_watch_40 : decode cX11_watch 40 = .ok (.invokevirtual 326, 3) := by decide +kernel
theorem dX11_watch_43 : decode cX11_watch 43 = .ok (.istore_n 2, 1) := by decide +kernel
theorem dX11_watch_44 : decode cX11_watch 44 = .ok (.iload_n 2, 1) := by decide +kernel
theorem dX11_watch_45 : decode cX11_watch 45 = .ok (.ifCond .ne 6, 3) := by decide +kernel
theorem dX11_watch_48 : decode cX11_watch 48 = .ok (.bipush (-2), 2) := by decide +kernel
theorem dX11_watch_50 : decode cX11_watch 50 = .ok (.ireturn, 1) := by decide +kernel
set_option maxHeartbeats 4000000 in
set_option maxRecDepth 100000 in
theorem p_watch_0 {l : Launch} {D : va_G} {ids : List Nat} {ad : Nat → Nat} {ca : Nat → ClassId} {σ : HS} (hid : ∀ i, i < 277 → i ∈ ids) (htx0 : σ.2.2 0 = 30) (h_14_2 : σ.1 14 2 = 0) (h_30_10 : σ.1 30 10 = 1) (h_56_0 : σ.1 56 0 = 0) (h_56_4 : σ.1 56 4 = 0) (h_56_5 : σ.1 56 5 = 0) (h_56_6 : σ.1 56 6 = 0) (h_56_7 : σ.1 56 7 = 0) (h_56_8 : σ.1 56 8 = 0) (h_56_9 : σ.1 56 9 = (-1)) (h_56_10 : σ.1 56 10 = 0) (h_56_11 : σ.1 56 11 = (-1)) : Ki l D ids ad ca yX11_watch cX11_watch 8 .int 4 103 [.ref (ad 0), .int 0] σ (fun r σ1 => r = (-2) ∧ keepM σ σ1) := by
  refine Ki.of (by decide) (Nat.le_of_ble_eq_true rfl) 6 (fun Γ C Rt => ?_)
  show AW ids ad ca Γ 0 [some (.ref (ad 0)), some (.int 0), none, none, none, none, none, none] [] σ
  refine a_iload_n C dX11_watch_0 (i := 1) rfl rfl ?_
  refine a_if_lt C dX11_watch_1 (tgt := 15) rfl (fun h => absurd h (by decide)) (fun _ => ?_)
  refine a_iload_n C dX11_watch_4 (i := 1) rfl rfl ?_
  refine a_aload_n C dX11_watch_5 (i := 0) rfl rfl ?_
  refine a_get C fl_RX11_33 (i := 0) kd_0 (hid 0 (by decide)) (v := .ref (ad 14)) rfl dX11_watch_6 ?_
  refine a_get C fl_RX11_117 (i := 14) kd_14 (hid 14 (by decide)) (v := .int 0) (congrArg (fun z => some (Value.int z)) h_14_2) dX11_watch_9 ?_
  refine a_ic_le C dX11_watch_12 (tgt := 17) rfl (fun _ => ?_) (fun h => absurd h (by decide))
  refine a_aload_n C dX11_watch_17 (i := 0) rfl rfl ?_
  refine a_bipush C dX11_watch_18 (v := 41) rfl ?_
  refine a_callVv C (i := 0) kd_0 (hid 0 (by decide)) ⟨_, _, rfl⟩ (by decide) (k_findHands hid (m := 41) (by omega) htx0 h_30_10 h_56_0 h_56_4 h_56_5 h_56_6 h_56_7 h_56_8 h_56_9 h_56_10 h_56_11) mi_X11_findHands ml_RX11_279 rfl rfl (Nat.le_of_ble_eq_true rfl) (Nat.le_of_ble_eq_true rfl) (Nat.le_of_ble_eq_true rfl) dX11_watch_20 (fun σ2 q3 => ?_)
  refine a_aload_n C dX11_watch_23 (i := 0) rfl rfl ?_
  refine a_get C fl_RX11_33 (i := 0) kd_0 (hid 0 (by decide)) (v := .ref (ad 14)) rfl dX11_watch_24 ?_
  refine a_aload_n C dX11_watch_27 (i := 0) rfl rfl ?_
  refine a_get C fl_RX11_54 (i := 0) kd_0 (hid 0 (by decide)) (v := .ref (ad 56)) rfl dX11_watch_28 ?_
  refine a_iconst C dX11_watch_31 (v := 0) rfl ?_
  refine a_callVi C (i := 56) kd_56 (hid 56 (by decide)) ⟨_, _, rfl⟩ (by decide) (k_bitsOf_56 hid ((congrFun (q3.1.1 56 (by decide)) 0).trans h_56_0)) mi_X0_bitsOf ml_RX11_180 rfl rfl (Nat.le_of_ble_eq_true rfl) (Nat.le_of_ble_eq_true rfl) (Nat.le_of_ble_eq_true rfl) dX11_watch_32 (fun r4 σ5 q6 => ?_)
  obtain ⟨rfl, q6⟩ := q6
  rw [q6]
  refine a_iload_n C dX11_watch_35 (i := 1) rfl rfl ?_
  refine a_aload_n C dX11_watch_36 (i := 0) rfl rfl ?_
  refine a_get C fl_RX11_69 (i := 0) kd_0 (hid 0 (by decide)) (v := .ref (ad 27)) rfl dX11_watch_37 ?_
  refine a_callVi C (i := 14) kd_14 (hid 14 (by decide)) ⟨_, _, rfl⟩ (by decide) (k_agreeing hid) mi_X2_agreeing ml_RX11_326 rfl rfl (Nat.le_of_ble_eq_true rfl) (Nat.le_of_ble_eq_true rfl) (Nat.le_of_ble_eq_true rfl) dX11_watch_40 (fun r7 σ8 q9 => ?_)
  obtain ⟨rfl, q9⟩ := q9
  rw [q9]
  refine a_istore_n C dX11_watch_43 (i := 2) rfl (by decide) rfl (vs1 := [some (.ref (ad 0)), some (.int 0), some (.int 0), none, none, none, none, none]) rfl ?_
  refine a_iload_n C dX11_watch_44 (i := 2) rfl rfl ?_
  refine a_if_ne C dX11_watch_45 (tgt := 51) rfl (fun h => absurd h (by decide)) (fun _ => ?_)
  refine a_bipush C dX11_watch_48 (v := (-2)) rfl ?_
  exact a_iret Rt dX11_watch_50 rfl (⟨rfl, (keepM.tr keepM.rf (only.keepM q3.1 (by decide)))⟩)
theorem dX11_watch_15 : decode cX11_watch 15 = .ok (.iconst (-1), 1) := by decide +kernel
theorem dX11_watch_16 : decode cX11_watch 16 = .ok (.ireturn, 1) := by decide +kernel
set_option maxHeartbeats 4000000 in
set_option maxRecDepth 100000 in
theorem p_watch_out {l : Launch} {D : va_G} {ids : List Nat} {ad : Nat → Nat} {ca : Nat → ClassId} {σ : HS} {p0 : Int32} (hid : ∀ i, i < 277 → i ∈ ids) (ho : p0 < 0 ∨ 0 < p0) (h_14_2 : σ.1 14 2 = 0) : Ki l D ids ad ca yX11_watch cX11_watch 8 .int 0 0 [.ref (ad 0), .int p0] σ (fun r σ1 => r = (-1) ∧ keepM σ σ1) := by
  refine Ki.of (by decide) (Nat.le_of_ble_eq_true rfl) 6 (fun Γ C Rt => ?_)
  show AW ids ad ca Γ 0 [some (.ref (ad 0)), some (.int p0), none, none, none, none, none, none] [] σ
  refine a_iload_n C dX11_watch_0 (i := 1) rfl rfl ?_
  refine a_if_lt C dX11_watch_1 (tgt := 15) rfl (fun c1 => ?_) (fun c1 => ?_)
  ·
    refine a_iconst C dX11_watch_15 (v := (-1)) rfl ?_
    exact a_iret Rt dX11_watch_16 rfl (⟨rfl, keepM.rf⟩)
  ·
    refine a_iload_n C dX11_watch_4 (i := 1) rfl rfl ?_
    refine a_aload_n C dX11_watch_5 (i := 0) rfl rfl ?_
    refine a_get C fl_RX11_33 (i := 0) kd_0 (hid 0 (by decide)) (v := .ref (ad 14)) rfl dX11_watch_6 ?_
    refine a_get C fl_RX11_117 (i := 14) kd_14 (hid 14 (by decide)) (v := .int 0) (congrArg (fun z => some (Value.int z)) h_14_2) dX11_watch_9 ?_
    refine a_ic_le C dX11_watch_12 (tgt := 17) rfl (fun c2 => absurd c2 (Int32.not_le.mpr (ho.resolve_left c1))) (fun c2 => ?_)
    refine a_iconst C dX11_watch_15 (v := (-1)) rfl ?_
    exact a_iret Rt dX11_watch_16 rfl (⟨rfl, keepM.rf⟩)
theorem dX11_glitters_0 : decode cX11_glitters 0 = .ok (.iload_n 1, 1) := by decide +kernel
theorem dX11_glitters_1 : decode cX11_glitters 1 = .ok (.ifCond .lt 23, 3) := by decide +kernel
theorem dX11_glitters_4 : decode cX11_glitters 4 = .ok (.iload_n 1, 1) := by decide +kernel
theorem dX11_glitters_5 : decode cX11_glitters 5 = .ok (.aload_n 0, 1) := by decide +kernel
theorem dX11_glitters_6 : decode cX11_glitters 6 = .ok (.getfield 33, 3) := by decide +kernel
theorem dX11_glitters_9 : decode cX11_glitters 9 = .ok (.getfield 117, 3) := by decide +kernel
theorem dX11_glitters_12 : decode cX11_glitters 12 = .ok (.if_icmp .gt 12, 3) := by decide +kernel
theorem dX11_glitters_15 : decode cX11_glitters 15 = .ok (.iload_n 2, 1) := by decide +kernel
theorem dX11_glitters_16 : decode cX11_glitters 16 = .ok (.ifCond .lt 8, 3) := by decide +kernel
theorem dX11_glitters_19 : decode cX11_glitters 19 = .ok (.iload_n 2, 1) := by decide +kernel
theorem dX11_glitters_20 : decode cX11_glitters 20 = .ok (.iconst 1, 1) := by decide +kernel
theorem dX11_glitters_21 : decode cX11_glitters 21 = .ok (.if_icmp .le 5, 3) := by decide +kernel
theorem dX11_glitters_26 : decode cX11_glitters 26 = .ok (.aload_n 0, 1) := by decide +kernel
theorem dX11_glitters_27 : decode cX11_glitters 27 = .ok (.bipush 41, 2) := by decide +kernel
theorem dX11_glitters_29 : decode cX11_glitters 29 = .ok (.invokevirtual 279, 3) := by decide +kernel
theorem dX11_glitters_32 : decode cX11_glitters 32 = .ok (.aload_n 0, 1) := by decide +kernel
theorem dX11_glitters_33 : decode cX11_glitters 33 = .ok (.getfield 33, 3) := by decide +kernel
theorem dX11_glitters_36 : decode cX11_glitters 36 = .ok (.aload_n 0, 1) := by decide +kernel
theorem dX11_glitters_37 : decode cX11_glitters 37 = .ok (.getfield 54, 3) := by decide +kernel
theorem dX11_glitters_40 : decode cX11_glitters 40 = .ok (.iconst 0, 1) := by decide +kernel
theorem dX11_glitters_41 : decode cX11_glitters 41 = .ok (.invokevirtual 180, 3) := by decide +kernel
theorem dX11_glitters_44 : decode cX11_glitters 44 = .ok (.iload_n 1, 1) := by decide +kernel
theorem dX11_glitters_45 : decode cX11_glitters 45 = .ok (.aload_n 0, 1) := by decide +kernel
theorem dX11_glitters_46 : decode cX11_glitters 46 = .ok (.getfield 69, 3) := by decide +kernel
theorem dX11_glitters_49 : decode cX11_glitters 49 = .ok (.invokevirtual 326, 3) := by decide +kernel
theorem dX11_glitters_52 : decode cX11_glitters 52 = .ok (.istore_n 3, 1) := by decide +kernel
theorem dX11_glitters_53 : decode cX11_glitters 53 = .ok (.iload_n 2, 1) := by decide +kernel
theorem dX11_glitters_54 : decode cX11_glitters 54 = .ok (.ifCond .ne 10, 3) := by decide +kernel
theorem dX11_glitters_57 : decode cX11_glitters 57 = .ok (.iload_n 3, 1) := by decide +kernel
theorem dX11_glitters_58 : decode cX11_glitters 58 = .ok (.invokestatic 330, 3) := by decide +kernel
theorem dX11_glitters_61 : decode cX11_glitters 61 = .ok (.goto 4, 3) := by decide +kernel
theorem dX11_glitters_64 : decode cX11_glitters 64 = .ok (.iload_n 3, 1) := by decide +kernel
theorem dX11_glitters_65 : decode cX11_glitters 65 = .ok (.ireturn, 1) := by decide +kernel
set_option maxHeartbeats 4000000 in
set_option maxRecDepth 100000 in
theorem p_glitters_in {l : Launch} {D : va_G} {ids : List Nat} {ad : Nat → Nat} {ca : Nat → ClassId} {σ : HS} {p1 : Int32} (hid : ∀ i, i < 277 → i ∈ ids) (w1 : ¬ p1 < 0) (w2 : p1 ≤ 1) (htx0 : σ.2.2 0 = 30) (h_14_2 : σ.1 14 2 = 0) (h_30_10 : σ.1 30 10 = 1) (h_56_0 : σ.1 56 0 = 0) (h_56_4 : σ.1 56 4 = 0) (h_56_5 : σ.1 56 5 = 0) (h_56_6 : σ.1 56 6 = 0) (h_56_7 : σ.1 56 7 = 0) (h_56_8 : σ.1 56 8 = 0) (h_56_9 : σ.1 56 9 = (-1)) (h_56_10 : σ.1 56 10 = 0) (h_56_11 : σ.1 56 11 = (-1)) : Ki l D ids ad ca yX11_glitters cX11_glitters 4 .int 4 103 [.ref (ad 0), .int 0, .int p1] σ (fun r σ1 => r = 0 ∧ keepM σ σ1) := by
  refine Ki.of (by decide) (Nat.le_of_ble_eq_true rfl) 1 (fun Γ C Rt => ?_)
  show AW ids ad ca Γ 0 [some (.ref (ad 0)), some (.int 0), some (.int p1), none] [] σ
  refine a_iload_n C dX11_glitters_0 (i := 1) rfl rfl ?_
  refine a_if_lt C dX11_glitters_1 (tgt := 24) rfl (fun h => absurd h (by decide)) (fun _ => ?_)
  refine a_iload_n C dX11_glitters_4 (i := 1) rfl rfl ?_
  refine a_aload_n C dX11_glitters_5 (i := 0) rfl rfl ?_
  refine a_get C fl_RX11_33 (i := 0) kd_0 (hid 0 (by decide)) (v := .ref (ad 14)) rfl dX11_glitters_6 ?_
  refine a_get C fl_RX11_117 (i := 14) kd_14 (hid 14 (by decide)) (v := .int 0) (congrArg (fun z => some (Value.int z)) h_14_2) dX11_glitters_9 ?_
  refine a_ic_gt C dX11_glitters_12 (tgt := 24) rfl (fun h => absurd h (by decide)) (fun _ => ?_)
  refine a_iload_n C dX11_glitters_15 (i := 2) rfl rfl ?_
  refine a_if_lt C dX11_glitters_16 (tgt := 24) rfl (fun c1 => absurd c1 (w1)) (fun c1 => ?_)
  refine a_iload_n C dX11_glitters_19 (i := 2) rfl rfl ?_
  refine a_iconst C dX11_glitters_20 (v := 1) rfl ?_
  refine a_ic_le C dX11_glitters_21 (tgt := 26) rfl (fun c2 => ?_) (fun c2 => absurd c2 (fun q => q w2))
  refine a_aload_n C dX11_glitters_26 (i := 0) rfl rfl ?_
  refine a_bipush C dX11_glitters_27 (v := 41) rfl ?_
  refine a_callVv C (i := 0) kd_0 (hid 0 (by decide)) ⟨_, _, rfl⟩ (by decide) (k_findHands hid (m := 41) (by omega) htx0 h_30_10 h_56_0 h_56_4 h_56_5 h_56_6 h_56_7 h_56_8 h_56_9 h_56_10 h_56_11) mi_X11_findHands ml_RX11_279 rfl rfl (Nat.le_of_ble_eq_true rfl) (Nat.le_of_ble_eq_true rfl) (Nat.le_of_ble_eq_true rfl) dX11_glitters_29 (fun σ4 q5 => ?_)
  refine a_aload_n C dX11_glitters_32 (i := 0) rfl rfl ?_
  refine a_get C fl_RX11_33 (i := 0) kd_0 (hid 0 (by decide)) (v := .ref (ad 14)) rfl dX11_glitters_33 ?_
  refine a_aload_n C dX11_glitters_36 (i := 0) rfl rfl ?_
  refine a_get C fl_RX11_54 (i := 0) kd_0 (hid 0 (by decide)) (v := .ref (ad 56)) rfl dX11_glitters_37 ?_
  refine a_iconst C dX11_glitters_40 (v := 0) rfl ?_
  refine a_callVi C (i := 56) kd_56 (hid 56 (by decide)) ⟨_, _, rfl⟩ (by decide) (k_bitsOf_56 hid ((congrFun (q5.1.1 56 (by decide)) 0).trans h_56_0)) mi_X0_bitsOf ml_RX11_180 rfl rfl (Nat.le_of_ble_eq_true rfl) (Nat.le_of_ble_eq_true rfl) (Nat.le_of_ble_eq_true rfl) dX11_glitters_41 (fun r6 σ7 q8 => ?_)
  obtain ⟨rfl, q8⟩ := q8
  rw [q8]
  refine a_iload_n C dX11_glitters_44 (i := 1) rfl rfl ?_
  refine a_aload_n C dX11_glitters_45 (i := 0) rfl rfl ?_
  refine a_get C fl_RX11_69 (i := 0) kd_0 (hid 0 (by decide)) (v := .ref (ad 27)) rfl dX11_glitters_46 ?_
  refine a_callVi C (i := 14) kd_14 (hid 14 (by decide)) ⟨_, _, rfl⟩ (by decide) (k_agreeing hid) mi_X2_agreeing ml_RX11_326 rfl rfl (Nat.le_of_ble_eq_true rfl) (Nat.le_of_ble_eq_true rfl) (Nat.le_of_ble_eq_true rfl) dX11_glitters_49 (fun r9 σ10 q11 => ?_)
  obtain ⟨rfl, q11⟩ := q11
  rw [q11]
  refine a_istore_n C dX11_glitters_52 (i := 3) rfl (by decide) rfl (vs1 := [some (.ref (ad 0)), some (.int 0), some (.int p1), some (.int 0)]) rfl ?_
  refine a_iload_n C dX11_glitters_53 (i := 2) rfl rfl ?_
  refine a_if_ne C dX11_glitters_54 (tgt := 64) rfl (fun c12 => ?_) (fun c12 => ?_)
  ·
    refine a_iload_n C dX11_glitters_64 (i := 3) rfl rfl ?_
    exact a_iret Rt dX11_glitters_65 rfl (⟨rfl, (keepM.tr keepM.rf (only.keepM q5.1 (by decide)))⟩)
  ·
    refine a_iload_n C dX11_glitters_57 (i := 3) rfl rfl ?_
    refine a_callSi C (k_bitCount hid) ms_J6_bitCount_0f7a4 ml_RX11_330 rfl rfl (Nat.le_of_ble_eq_true rfl) (Nat.le_of_ble_eq_true rfl) (Nat.le_of_ble_eq_true rfl) dX11_glitters_58 (fun r13 σ14 q15 => ?_)
    obtain ⟨rfl, q15⟩ := q15
    rw [q15]
    refine a_goto C dX11_glitters_61 (tgt := 65) rfl ?_
    exact a_iret Rt dX11_glitters_65 rfl (⟨rfl, (keepM.tr keepM.rf (only.keepM q5.1 (by decide)))⟩)
theorem dX11_glitters_24 : decode cX11_glitters 24 = .ok (.iconst (-1), 1) := by decide +kernel
theorem dX11_glitters_25 : decode cX11_glitters 25 = .ok (.ireturn, 1) := by decide +kernel
set_option maxHeartbeats 4000000 in
set_option maxRecDepth 100000 in
theorem p_glitters_w {l : Launch} {D : va_G} {ids : List Nat} {ad : Nat → Nat} {ca : Nat → ClassId} {σ : HS} {p1 : Int32} (hid : ∀ i, i < 277 → i ∈ ids) (ho : p1 < 0 ∨ 1 < p1) (h_14_2 : σ.1 14 2 = 0) : Ki l D ids ad ca yX11_glitters cX11_glitters 4 .int 0 0 [.ref (ad 0), .int 0, .int p1] σ (fun r σ1 => r = (-1) ∧ keepM σ σ1) := by
  refine Ki.of (by decide) (Nat.le_of_ble_eq_true rfl) 1 (fun Γ C Rt => ?_)
  show AW ids ad ca Γ 0 [some (.ref (ad 0)), some (.int 0), some (.int p1), none] [] σ
  refine a_iload_n C dX11_glitters_0 (i := 1) rfl rfl ?_
  refine a_if_lt C dX11_glitters_1 (tgt := 24) rfl (fun h => absurd h (by decide)) (fun _ => ?_)
  refine a_iload_n C dX11_glitters_4 (i := 1) rfl rfl ?_
  refine a_aload_n C dX11_glitters_5 (i := 0) rfl rfl ?_
  refine a_get C fl_RX11_33 (i := 0) kd_0 (hid 0 (by decide)) (v := .ref (ad 14)) rfl dX11_glitters_6 ?_
  refine a_get C fl_RX11_117 (i := 14) kd_14 (hid 14 (by decide)) (v := .int 0) (congrArg (fun z => some (Value.int z)) h_14_2) dX11_glitters_9 ?_
  refine a_ic_gt C dX11_glitters_12 (tgt := 24) rfl (fun h => absurd h (by decide)) (fun _ => ?_)
  refine a_iload_n C dX11_glitters_15 (i := 2) rfl rfl ?_
  refine a_if_lt C dX11_glitters_16 (tgt := 24) rfl (fun c1 => ?_) (fun c1 => ?_)
  ·
    refine a_iconst C dX11_glitters_24 (v := (-1)) rfl ?_
    exact a_iret Rt dX11_glitters_25 rfl (⟨rfl, keepM.rf⟩)
  ·
    refine a_iload_n C dX11_glitters_19 (i := 2) rfl rfl ?_
    refine a_iconst C dX11_glitters_20 (v := 1) rfl ?_
    refine a_ic_le C dX11_glitters_21 (tgt := 26) rfl (fun c2 => absurd c2 (Int32.not_le.mpr (ho.resolve_left c1))) (fun c2 => ?_)
    refine a_iconst C dX11_glitters_24 (v := (-1)) rfl ?_
    exact a_iret Rt dX11_glitters_25 rfl (⟨rfl, keepM.rf⟩)
set_option maxHeartbeats 4000000 in
set_option maxRecDepth 100000 in
theorem p_glitters_out {l : Launch} {D : va_G} {ids : List Nat} {ad : Nat → Nat} {ca : Nat → ClassId} {σ : HS} {p0 : Int32} {p1 : Int32} (hid : ∀ i, i < 277 → i ∈ ids) (ho : p0 < 0 ∨ 0 < p0) (h_14_2 : σ.1 14 2 = 0) : Ki l D ids ad ca yX11_glitters cX11_glitters 4 .int 0 0 [.ref (ad 0), .int p0, .int p1] σ (fun r σ1 => r = (-1) ∧ keepM σ σ1) := by
  refine Ki.of (by decide) (Nat.le_of_ble_eq_true rfl) 1 (fun Γ C Rt => ?_)
  show AW ids ad ca Γ 0 [some (.ref (ad 0)), some (.int p0), some (.int p1), none] [] σ
  refine a_iload_n C dX11_glitters_0 (i := 1) rfl rfl ?_
  refine a_if_lt C dX11_glitters_1 (tgt := 24) rfl (fun c1 => ?_) (fun c1 => ?_)
  ·
    refine a_iconst C dX11_glitters_24 (v := (-1)) rfl ?_
    exact a_iret Rt dX11_glitters_25 rfl (⟨rfl, keepM.rf⟩)
  ·
    refine a_iload_n C dX11_glitters_4 (i := 1) rfl rfl ?_
    refine a_aload_n C dX11_glitters_5 (i := 0) rfl rfl ?_
    refine a_get C fl_RX11_33 (i := 0) kd_0 (hid 0 (by decide)) (v := .ref (ad 14)) rfl dX11_glitters_6 ?_
    refine a_get C fl_RX11_117 (i := 14) kd_14 (hid 14 (by decide)) (v := .int 0) (congrArg (fun z => some (Value.int z)) h_14_2) dX11_glitters_9 ?_
    refine a_ic_gt C dX11_glitters_12 (tgt := 24) rfl (fun c2 => ?_) (fun c2 => absurd c2 (fun q => q (ho.resolve_left c1)))
    refine a_iconst C dX11_glitters_24 (v := (-1)) rfl ?_
    exact a_iret Rt dX11_glitters_25 rfl (⟨rfl, keepM.rf⟩)
theorem dX11_then_0 : decode cX11_then 0 = .ok (.iload_n 1, 1) := by decide +kernel
theorem dX11_then_1 : decode cX11_then 1 = .ok (.ifCond .lt 18, 3) := by decide +kernel
theorem dX11_then_4 : decode cX11_then 4 = .ok (.iload_n 1, 1) := by decide +kernel
theorem dX11_then_5 : decode cX11_then 5 = .ok (.bipush 60, 2) := by decide +kernel
theorem dX11_then_7 : decode cX11_then 7 = .ok (.if_icmp .gt 12, 3) := by decide +kernel
theorem dX11_then_10 : decode cX11_then 10 = .ok (.iload_n 2, 1) := by decide +kernel
theorem dX11_then_11 : decode cX11_then 11 = .ok (.ifCond .lt 8, 3) := by decide +kernel
theorem dX11_then_14 : decode cX11_then 14 = .ok (.iload_n 2, 1) := by decide +kernel
theorem dX11_then_15 : decode cX11_then 15 = .ok (.iconst 3, 1) := by decide +kernel
theorem dX11_then_16 : decode cX11_then 16 = .ok (.if_icmp .le 5, 3) := by decide +kernel
theorem dX11_then_21 : decode cX11_then 21 = .ok (.aload_n 0, 1) := by decide +kernel
theorem dX11_then_22 : decode cX11_then 22 = .ok (.getfield 58, 3) := by decide +kernel
theorem dX11_then_25 : decode cX11_then 25 = .ok (.aload_n 0, 1) := by decide +kernel
theorem dX11_then_26 : decode cX11_then 26 = .ok (.getfield 54, 3) := by decide +kernel
theorem dX11_then_29 : decode cX11_then 29 = .ok (.invokevirtual 230, 3) := by decide +kernel
theorem dX11_then_32 : decode cX11_then 32 = .ok (.aload_n 0, 1) := by decide +kernel
theorem dX11_then_33 : decode cX11_then 33 = .ok (.getfield 19, 3) := by decide +kernel
theorem dX11_then_36 : decode cX11_then 36 = .ok (.aload_n 0, 1) := by decide +kernel
theorem dX11_then_37 : decode cX11_then 37 = .ok (.getfield 82, 3) := by decide +kernel
theorem dX11_then_40 : decode cX11_then 40 = .ok (.aload_n 0, 1) := by decide +kernel
theorem dX11_then_41 : decode cX11_then 41 = .ok (.getfield 58, 3) := by decide +kernel
theorem dX11_then_44 : decode cX11_then 44 = .ok (.iload_n 1, 1) := by decide +kernel
theorem dX11_then_45 : decode cX11_then 45 = .ok (.aload_n 0, 1) := by decide +kernel
theorem dX11_then_46 : decode cX11_then 46 = .ok (.getfield 82, 3) := by decide +kernel
theorem dX11_then_49 : decode cX11_then 49 = .ok (.getfield 220, 3) := by decide +kernel
theorem dX11_then_52 : decode cX11_then 52 = .ok (.invokevirtual 223, 3) := by decide +kernel
theorem dX11_then_55 : decode cX11_then 55 = .ok (.iload_n 2, 1) := by decide +kernel
theorem dX11_then_56 : decode cX11_then 56 = .ok (.tableswitch 60 0 2 #[28, 36, 44], 28) := by decide +kernel
theorem dX11_then_84 : decode cX11_then 84 = .ok (.aload_n 0, 1) := by decide +kernel
theorem dX11_then_85 : decode cX11_then 85 = .ok (.getfield 58, 3) := by decide +kernel
theorem dX11_then_88 : decode cX11_then 88 = .ok (.getfield 177, 3) := by decide +kernel
theorem dX11_then_91 : decode cX11_then 91 = .ok (.ireturn, 1) := by decide +kernel
set_option maxHeartbeats 4000000 in
set_option maxRecDepth 100000 in
theorem p_then_0 {l : Launch} {D : va_G} {ids : List Nat} {ad : Nat → Nat} {ca : Nat → ClassId} {σ : HS} {m : Nat} (hid : ∀ i, i < 277 → i ∈ ids) (hm : m ≤ 60) (htx0 : σ.2.2 0 = 30) (h_30_10 : σ.1 30 10 = 1) (h_30_11 : σ.1 30 11 = 0) (h_56_0 : σ.1 56 0 = 0) (h_56_4 : σ.1 56 4 = 0) (h_56_5 : σ.1 56 5 = 0) (h_56_6 : σ.1 56 6 = 0) (h_56_7 : σ.1 56 7 = 0) (h_56_8 : σ.1 56 8 = 0) (h_56_9 : σ.1 56 9 = (-1)) (h_56_10 : σ.1 56 10 = 0) (h_56_11 : σ.1 56 11 = (-1)) : Ki l D ids ad ca yX11_then cX11_then 3 .int 3 81 [.ref (ad 0), .int (nI m), .int 0] σ (fun r σ1 => r = 0 ∧ keepM σ σ1) := by
  refine Ki.of (by decide) (Nat.le_of_ble_eq_true rfl) 0 (fun Γ C Rt => ?_)
  show AW ids ad ca Γ 0 [some (.ref (ad 0)), some (.int (nI m)), some (.int 0)] [] σ
  refine a_iload_n C dX11_then_0 (i := 1) rfl rfl ?_
  refine a_if_lt C dX11_then_1 (tgt := 19) rfl (fun c1 => absurd c1 (nI_nlt (a := (m)) (b := (0)) (by omega) (by omega))) (fun c1 => ?_)
  refine a_iload_n C dX11_then_4 (i := 1) rfl rfl ?_
  refine a_bipush C dX11_then_5 (v := 60) rfl ?_
  refine a_ic_gt C dX11_then_7 (tgt := 19) rfl (fun c2 => absurd c2 (nI_nlt (a := (60)) (b := (m)) (by omega) (by omega))) (fun c2 => ?_)
  refine a_iload_n C dX11_then_10 (i := 2) rfl rfl ?_
  refine a_if_lt C dX11_then_11 (tgt := 19) rfl (fun h => absurd h (by decide)) (fun _ => ?_)
  refine a_iload_n C dX11_then_14 (i := 2) rfl rfl ?_
  refine a_iconst C dX11_then_15 (v := 3) rfl ?_
  refine a_ic_le C dX11_then_16 (tgt := 21) rfl (fun _ => ?_) (fun h => absurd h (by decide))
  refine a_aload_n C dX11_then_21 (i := 0) rfl rfl ?_
  refine a_get C fl_RX11_58 (i := 0) kd_0 (hid 0 (by decide)) (v := .ref (ad 60)) rfl dX11_then_22 ?_
  refine a_aload_n C dX11_then_25 (i := 0) rfl rfl ?_
  refine a_get C fl_RX11_54 (i := 0) kd_0 (hid 0 (by decide)) (v := .ref (ad 56)) rfl dX11_then_26 ?_
  refine a_callVv C (i := 60) kd_60 (hid 60 (by decide)) ⟨_, _, rfl⟩ (by decide) (k_copy_60 hid h_56_0 h_56_4 h_56_5 h_56_6 h_56_7 h_56_8 h_56_9 h_56_10 h_56_11) mi_X0_copy ml_RX11_230 rfl rfl (Nat.le_of_ble_eq_true rfl) (Nat.le_of_ble_eq_true rfl) (Nat.le_of_ble_eq_true rfl) dX11_then_29 (fun σ4 q5 => ?_)
  refine a_aload_n C dX11_then_32 (i := 0) rfl rfl ?_
  refine a_get C fl_RX11_19 (i := 0) kd_0 (hid 0 (by decide)) (v := .ref (ad 8)) rfl dX11_then_33 ?_
  refine a_aload_n C dX11_then_36 (i := 0) rfl rfl ?_
  refine a_get C fl_RX11_82 (i := 0) kd_0 (hid 0 (by decide)) (v := .ref (ad 30)) (congrArg (fun z => some (Value.ref (ad z))) (Eq.trans (congrArg (fun z => z.2 0) q5.1.2) htx0)) dX11_then_37 ?_
  refine a_aload_n C dX11_then_40 (i := 0) rfl rfl ?_
  refine a_get C fl_RX11_58 (i := 0) kd_0 (hid 0 (by decide)) (v := .ref (ad 60)) rfl dX11_then_41 ?_
  refine a_iload_n C dX11_then_44 (i := 1) rfl rfl ?_
  refine a_aload_n C dX11_then_45 (i := 0) rfl rfl ?_
  refine a_get C fl_RX11_82 (i := 0) kd_0 (hid 0 (by decide)) (v := .ref (ad 30)) (congrArg (fun z => some (Value.ref (ad z))) (Eq.trans (congrArg (fun z => z.2 0) q5.1.2) htx0)) dX11_then_46 ?_
  refine a_get C fl_RX11_220 (i := 30) kd_30 (hid 30 (by decide)) (v := .int 0) (congrArg (fun z => some (Value.int z)) ((congrFun (q5.1.1 30 (by decide)) 11).trans h_30_11)) dX11_then_49 ?_
  refine a_callVv C (i := 8) kd_8 (hid 8 (by decide)) ⟨_, _, rfl⟩ (by decide) (k_goOn_60 hid (bt := 0) (m := m) q5.2.2.2.2.2 (by omega) ((congrFun (q5.1.1 30 (by decide)) 10).trans h_30_10) q5.2.1 q5.2.2.1 q5.2.2.2.1 q5.2.2.2.2.1) mi_X4_goOn ml_RX11_223 rfl rfl (Nat.le_of_ble_eq_true rfl) (Nat.le_of_ble_eq_true rfl) (Nat.le_of_ble_eq_true rfl) dX11_then_52 (fun σ7 q8 => ?_)
  refine a_iload_n C dX11_then_55 (i := 2) rfl rfl ?_
  refine a_tableIn C dX11_then_56 (by decide) (by decide) rfl (tgt := 84) rfl ?_
  refine a_aload_n C dX11_then_84 (i := 0) rfl rfl ?_
  refine a_get C fl_RX11_58 (i := 0) kd_0 (hid 0 (by decide)) (v := .ref (ad 60)) rfl dX11_then_85 ?_
  refine a_get C fl_RX11_177 (i := 60) kd_60 (hid 60 (by decide)) (v := .int 0) (congrArg (fun z => some (Value.int z)) q8.2.2.1) dX11_then_88 ?_
  exact a_iret Rt dX11_then_91 rfl (⟨rfl, (keepM.tr (keepM.tr keepM.rf (only.keepM q5.1 (by decide))) (only.keepM q8.1 (by decide)))⟩)
theorem dX11_then_92 : decode cX11_then 92 = .ok (.aload_n 0, 1) := by decide +kernel
theorem dX11_then_93 : decode cX11_then 93 = .ok (.getfield 58, 3) := by decide +kernel
theorem dX11_then_96 : decode cX11_then 96 = .ok (.invokevirtual 156, 3) := by decide +kernel
theorem dX11_then_99 : decode cX11_then 99 = .ok (.ireturn, 1) := by decide +kernel
set_option maxHeartbeats 4000000 in
set_option maxRecDepth 100000 in
theorem p_then_1 {l : Launch} {D : va_G} {ids : List Nat} {ad : Nat → Nat} {ca : Nat → ClassId} {σ : HS} {m : Nat} (hid : ∀ i, i < 277 → i ∈ ids) (hm : m ≤ 60) (htx0 : σ.2.2 0 = 30) (h_30_10 : σ.1 30 10 = 1) (h_30_11 : σ.1 30 11 = 0) (h_56_0 : σ.1 56 0 = 0) (h_56_4 : σ.1 56 4 = 0) (h_56_5 : σ.1 56 5 = 0) (h_56_6 : σ.1 56 6 = 0) (h_56_7 : σ.1 56 7 = 0) (h_56_8 : σ.1 56 8 = 0) (h_56_9 : σ.1 56 9 = (-1)) (h_56_10 : σ.1 56 10 = 0) (h_56_11 : σ.1 56 11 = (-1)) : Ki l D ids ad ca yX11_then cX11_then 3 .int 3 81 [.ref (ad 0), .int (nI m), .int 1] σ (fun r σ1 => r = 0 ∧ keepM σ σ1) := by
  refine Ki.of (by decide) (Nat.le_of_ble_eq_true rfl) 0 (fun Γ C Rt => ?_)
  show AW ids ad ca Γ 0 [some (.ref (ad 0)), some (.int (nI m)), some (.int 1)] [] σ
  refine a_iload_n C dX11_then_0 (i := 1) rfl rfl ?_
  refine a_if_lt C dX11_then_1 (tgt := 19) rfl (fun c1 => absurd c1 (nI_nlt (a := (m)) (b := (0)) (by omega) (by omega))) (fun c1 => ?_)
  refine a_iload_n C dX11_then_4 (i := 1) rfl rfl ?_
  refine a_bipush C dX11_then_5 (v := 60) rfl ?_
  refine a_ic_gt C dX11_then_7 (tgt := 19) rfl (fun c2 => absurd c2 (nI_nlt (a := (60)) (b := (m)) (by omega) (by omega))) (fun c2 => ?_)
  refine a_iload_n C dX11_then_10 (i := 2) rfl rfl ?_
  refine a_if_lt C dX11_then_11 (tgt := 19) rfl (fun h => absurd h (by decide)) (fun _ => ?_)
  refine a_iload_n C dX11_then_14 (i := 2) rfl rfl ?_
  refine a_iconst C dX11_then_15 (v := 3) rfl ?_
  refine a_ic_le C dX11_then_16 (tgt := 21) rfl (fun _ => ?_) (fun h => absurd h (by decide))
  refine a_aload_n C dX11_then_21 (i := 0) rfl rfl ?_
  refine a_get C fl_RX11_58 (i := 0) kd_0 (hid 0 (by decide)) (v := .ref (ad 60)) rfl dX11_then_22 ?_
  refine a_aload_n C dX11_then_25 (i := 0) rfl rfl ?_
  refine a_get C fl_RX11_54 (i := 0) kd_0 (hid 0 (by decide)) (v := .ref (ad 56)) rfl dX11_then_26 ?_
  refine a_callVv C (i := 60) kd_60 (hid 60 (by decide)) ⟨_, _, rfl⟩ (by decide) (k_copy_60 hid h_56_0 h_56_4 h_56_5 h_56_6 h_56_7 h_56_8 h_56_9 h_56_10 h_56_11) mi_X0_copy ml_RX11_230 rfl rfl (Nat.le_of_ble_eq_true rfl) (Nat.le_of_ble_eq_true rfl) (Nat.le_of_ble_eq_true rfl) dX11_then_29 (fun σ4 q5 => ?_)
  refine a_aload_n C dX11_then_32 (i := 0) rfl rfl ?_
  refine a_get C fl_RX11_19 (i := 0) kd_0 (hid 0 (by decide)) (v := .ref (ad 8)) rfl dX11_then_33 ?_
  refine a_aload_n C dX11_then_36 (i := 0) rfl rfl ?_
  refine a_get C fl_RX11_82 (i := 0) kd_0 (hid 0 (by decide)) (v := .ref (ad 30)) (congrArg (fun z => some (Value.ref (ad z))) (Eq.trans (congrArg (fun z => z.2 0) q5.1.2) htx0)) dX11_then_37 ?_
  refine a_aload_n C dX11_then_40 (i := 0) rfl rfl ?_
  refine a_get C fl_RX11_58 (i := 0) kd_0 (hid 0 (by decide)) (v := .ref (ad 60)) rfl dX11_then_41 ?_
  refine a_iload_n C dX11_then_44 (i := 1) rfl rfl ?_
  refine a_aload_n C dX11_then_45 (i := 0) rfl rfl ?_
  refine a_get C fl_RX11_82 (i := 0) kd_0 (hid 0 (by decide)) (v := .ref (ad 30)) (congrArg (fun z => some (Value.ref (ad z))) (Eq.trans (congrArg (fun z => z.2 0) q5.1.2) htx0)) dX11_then_46 ?_
  refine a_get C fl_RX11_220 (i := 30) kd_30 (hid 30 (by decide)) (v := .int 0) (congrArg (fun z => some (Value.int z)) ((congrFun (q5.1.1 30 (by decide)) 11).trans h_30_11)) dX11_then_49 ?_
  refine a_callVv C (i := 8) kd_8 (hid 8 (by decide)) ⟨_, _, rfl⟩ (by decide) (k_goOn_60 hid (bt := 0) (m := m) q5.2.2.2.2.2 (by omega) ((congrFun (q5.1.1 30 (by decide)) 10).trans h_30_10) q5.2.1 q5.2.2.1 q5.2.2.2.1 q5.2.2.2.2.1) mi_X4_goOn ml_RX11_223 rfl rfl (Nat.le_of_ble_eq_true rfl) (Nat.le_of_ble_eq_true rfl) (Nat.le_of_ble_eq_true rfl) dX11_then_52 (fun σ7 q8 => ?_)
  refine a_iload_n C dX11_then_55 (i := 2) rfl rfl ?_
  refine a_tableIn C dX11_then_56 (by decide) (by decide) rfl (tgt := 92) rfl ?_
  refine a_aload_n C dX11_then_92 (i := 0) rfl rfl ?_
  refine a_get C fl_RX11_58 (i := 0) kd_0 (hid 0 (by decide)) (v := .ref (ad 60)) rfl dX11_then_93 ?_
  refine a_callVi C (i := 60) kd_60 (hid 60 (by decide)) ⟨_, _, rfl⟩ (by decide) (k_howManyUp_60 hid q8.2.1) mi_X0_howManyUp ml_RX11_156 rfl rfl (Nat.le_of_ble_eq_true rfl) (Nat.le_of_ble_eq_true rfl) (Nat.le_of_ble_eq_true rfl) dX11_then_96 (fun r9 σ10 q11 => ?_)
  obtain ⟨rfl, q11⟩ := q11
  rw [q11]
  exact a_iret Rt dX11_then_99 rfl (⟨rfl, (keepM.tr (keepM.tr keepM.rf (only.keepM q5.1 (by decide))) (only.keepM q8.1 (by decide)))⟩)
theorem dX11_then_100 : decode cX11_then 100 = .ok (.aload_n 0, 1) := by decide +kernel
theorem dX11_then_101 : decode cX11_then 101 = .ok (.getfield 58, 3) := by decide +kernel
theorem dX11_then_104 : decode cX11_then 104 = .ok (.getfield 184, 3) := by decide +kernel
theorem dX11_then_107 : decode cX11_then 107 = .ok (.aload_n 0, 1) := by decide +kernel
theorem dX11_then_108 : decode cX11_then 108 = .ok (.getfield 54, 3) := by decide +kernel
theorem dX11_then_111 : decode cX11_then 111 = .ok (.getfield 184, 3) := by decide +kernel
theorem dX11_then_114 : decode cX11_then 114 = .ok (.isub, 1) := by decide +kernel
theorem dX11_then_115 : decode cX11_then 115 = .ok (.ireturn, 1) := by decide +kernel
set_option maxHeartbeats 4000000 in
set_option maxRecDepth 100000 in
theorem p_then_2 {l : Launch} {D : va_G} {ids : List Nat} {ad : Nat → Nat} {ca : Nat → ClassId} {σ : HS} {m : Nat} (hid : ∀ i, i < 277 → i ∈ ids) (hm : m ≤ 60) (htx0 : σ.2.2 0 = 30) (h_30_10 : σ.1 30 10 = 1) (h_30_11 : σ.1 30 11 = 0) (h_56_0 : σ.1 56 0 = 0) (h_56_4 : σ.1 56 4 = 0) (h_56_5 : σ.1 56 5 = 0) (h_56_6 : σ.1 56 6 = 0) (h_56_7 : σ.1 56 7 = 0) (h_56_8 : σ.1 56 8 = 0) (h_56_9 : σ.1 56 9 = (-1)) (h_56_10 : σ.1 56 10 = 0) (h_56_11 : σ.1 56 11 = (-1)) : Ki l D ids ad ca yX11_then cX11_then 3 .int 3 81 [.ref (ad 0), .int (nI m), .int 2] σ (fun r σ1 => r = 0 ∧ keepM σ σ1) := by
  refine Ki.of (by decide) (Nat.le_of_ble_eq_true rfl) 0 (fun Γ C Rt => ?_)
  show AW ids ad ca Γ 0 [some (.ref (ad 0)), some (.int (nI m)), some (.int 2)] [] σ
  refine a_iload_n C dX11_then_0 (i := 1) rfl rfl ?_
  refine a_if_lt C dX11_then_1 (tgt := 19) rfl (fun c1 => absurd c1 (nI_nlt (a := (m)) (b := (0)) (by omega) (by omega))) (fun c1 => ?_)
  refine a_iload_n C dX11_then_4 (i := 1) rfl rfl ?_
  refine a_bipush C dX11_then_5 (v := 60) rfl ?_
  refine a_ic_gt C dX11_then_7 (tgt := 19) rfl (fun c2 => absurd c2 (nI_nlt (a := (60)) (b := (m)) (by omega) (by omega))) (fun c2 => ?_)
  refine a_iload_n C dX11_then_10 (i := 2) rfl rfl ?_
  refine a_if_lt C dX11_then_11 (tgt := 19) rfl (fun h => absurd h (by decide)) (fun _ => ?_)
  refine a_iload_n C dX11_then_14 (i := 2) rfl rfl ?_
  refine a_iconst C dX11_then_15 (v := 3) rfl ?_
  refine a_ic_le C dX11_then_16 (tgt := 21) rfl (fun _ => ?_) (fun h => absurd h (by decide))
  refine a_aload_n C dX11_then_21 (i := 0) rfl rfl ?_
  refine a_get C fl_RX11_58 (i := 0) kd_0 (hid 0 (by decide)) (v := .ref (ad 60)) rfl dX11_then_22 ?_
  refine a_aload_n C dX11_then_25 (i := 0) rfl rfl ?_
  refine a_get C fl_RX11_54 (i := 0) kd_0 (hid 0 (by decide)) (v := .ref (ad 56)) rfl dX11_then_26 ?_
  refine a_callVv C (i := 60) kd_60 (hid 60 (by decide)) ⟨_, _, rfl⟩ (by decide) (k_copy_60 hid h_56_0 h_56_4 h_56_5 h_56_6 h_56_7 h_56_8 h_56_9 h_56_10 h_56_11) mi_X0_copy ml_RX11_230 rfl rfl (Nat.le_of_ble_eq_true rfl) (Nat.le_of_ble_eq_true rfl) (Nat.le_of_ble_eq_true rfl) dX11_then_29 (fun σ4 q5 => ?_)
  refine a_aload_n C dX11_then_32 (i := 0) rfl rfl ?_
  refine a_get C fl_RX11_19 (i := 0) kd_0 (hid 0 (by decide)) (v := .ref (ad 8)) rfl dX11_then_33 ?_
  refine a_aload_n C dX11_then_36 (i := 0) rfl rfl ?_
  refine a_get C fl_RX11_82 (i := 0) kd_0 (hid 0 (by decide)) (v := .ref (ad 30)) (congrArg (fun z => some (Value.ref (ad z))) (Eq.trans (congrArg (fun z => z.2 0) q5.1.2) htx0)) dX11_then_37 ?_
  refine a_aload_n C dX11_then_40 (i := 0) rfl rfl ?_
  refine a_get C fl_RX11_58 (i := 0) kd_0 (hid 0 (by decide)) (v := .ref (ad 60)) rfl dX11_then_41 ?_
  refine a_iload_n C dX11_then_44 (i := 1) rfl rfl ?_
  refine a_aload_n C dX11_then_45 (i := 0) rfl rfl ?_
  refine a_get C fl_RX11_82 (i := 0) kd_0 (hid 0 (by decide)) (v := .ref (ad 30)) (congrArg (fun z => some (Value.ref (ad z))) (Eq.trans (congrArg (fun z => z.2 0) q5.1.2) htx0)) dX11_then_46 ?_
  refine a_get C fl_RX11_220 (i := 30) kd_30 (hid 30 (by decide)) (v := .int 0) (congrArg (fun z => some (Value.int z)) ((congrFun (q5.1.1 30 (by decide)) 11).trans h_30_11)) dX11_then_49 ?_
  refine a_callVv C (i := 8) kd_8 (hid 8 (by decide)) ⟨_, _, rfl⟩ (by decide) (k_goOn_60 hid (bt := 0) (m := m) q5.2.2.2.2.2 (by omega) ((congrFun (q5.1.1 30 (by decide)) 10).trans h_30_10) q5.2.1 q5.2.2.1 q5.2.2.2.1 q5.2.2.2.2.1) mi_X4_goOn ml_RX11_223 rfl rfl (Nat.le_of_ble_eq_true rfl) (Nat.le_of_ble_eq_true rfl) (Nat.le_of_ble_eq_true rfl) dX11_then_52 (fun σ7 q8 => ?_)
  refine a_iload_n C dX11_then_55 (i := 2) rfl rfl ?_
  refine a_tableIn C dX11_then_56 (by decide) (by decide) rfl (tgt := 100) rfl ?_
  refine a_aload_n C dX11_then_100 (i := 0) rfl rfl ?_
  refine a_get C fl_RX11_58 (i := 0) kd_0 (hid 0 (by decide)) (v := .ref (ad 60)) rfl dX11_then_101 ?_
  refine a_get C fl_RX11_184 (i := 60) kd_60 (hid 60 (by decide)) (v := .int 0) (congrArg (fun z => some (Value.int z)) q8.2.2.2.1) dX11_then_104 ?_
  refine a_aload_n C dX11_then_107 (i := 0) rfl rfl ?_
  refine a_get C fl_RX11_54 (i := 0) kd_0 (hid 0 (by decide)) (v := .ref (ad 56)) rfl dX11_then_108 ?_
  refine a_get C fl_RX11_184 (i := 56) kd_56 (hid 56 (by decide)) (v := .int 0) (congrArg (fun z => some (Value.int z)) ((congrFun (q8.1.1 56 (by decide)) 6).trans ((congrFun (q5.1.1 56 (by decide)) 6).trans h_56_6))) dX11_then_111 ?_
  refine a_isub C dX11_then_114 ?_
  exact a_iret Rt dX11_then_115 rfl (⟨rfl, (keepM.tr (keepM.tr keepM.rf (only.keepM q5.1 (by decide))) (only.keepM q8.1 (by decide)))⟩)
theorem dX11_then_116 : decode cX11_then 116 = .ok (.aload_n 0, 1) := by decide +kernel
theorem dX11_then_117 : decode cX11_then 117 = .ok (.getfield 58, 3) := by decide +kernel
theorem dX11_then_120 : decode cX11_then 120 = .ok (.getfield 190, 3) := by decide +kernel
theorem dX11_then_123 : decode cX11_then 123 = .ok (.aload_n 0, 1) := by decide +kernel
theorem dX11_then_124 : decode cX11_then 124 = .ok (.getfield 54, 3) := by decide +kernel
theorem dX11_then_127 : decode cX11_then 127 = .ok (.getfield 190, 3) := by decide +kernel
theorem dX11_then_130 : decode cX11_then 130 = .ok (.isub, 1) := by decide +kernel
theorem dX11_then_131 : decode cX11_then 131 = .ok (.ireturn, 1) := by decide +kernel
set_option maxHeartbeats 4000000 in
set_option maxRecDepth 100000 in
theorem p_then_3 {l : Launch} {D : va_G} {ids : List Nat} {ad : Nat → Nat} {ca : Nat → ClassId} {σ : HS} {m : Nat} (hid : ∀ i, i < 277 → i ∈ ids) (hm : m ≤ 60) (htx0 : σ.2.2 0 = 30) (h_30_10 : σ.1 30 10 = 1) (h_30_11 : σ.1 30 11 = 0) (h_56_0 : σ.1 56 0 = 0) (h_56_4 : σ.1 56 4 = 0) (h_56_5 : σ.1 56 5 = 0) (h_56_6 : σ.1 56 6 = 0) (h_56_7 : σ.1 56 7 = 0) (h_56_8 : σ.1 56 8 = 0) (h_56_9 : σ.1 56 9 = (-1)) (h_56_10 : σ.1 56 10 = 0) (h_56_11 : σ.1 56 11 = (-1)) : Ki l D ids ad ca yX11_then cX11_then 3 .int 3 81 [.ref (ad 0), .int (nI m), .int 3] σ (fun r σ1 => r = 0 ∧ keepM σ σ1) := by
  refine Ki.of (by decide) (Nat.le_of_ble_eq_true rfl) 0 (fun Γ C Rt => ?_)
  show AW ids ad ca Γ 0 [some (.ref (ad 0)), some (.int (nI m)), some (.int 3)] [] σ
  refine a_iload_n C dX11_then_0 (i := 1) rfl rfl ?_
  refine a_if_lt C dX11_then_1 (tgt := 19) rfl (fun c1 => absurd c1 (nI_nlt (a := (m)) (b := (0)) (by omega) (by omega))) (fun c1 => ?_)
  refine a_iload_n C dX11_then_4 (i := 1) rfl rfl ?_
  refine a_bipush C dX11_then_5 (v := 60) rfl ?_
  refine a_ic_gt C dX11_then_7 (tgt := 19) rfl (fun c2 => absurd c2 (nI_nlt (a := (60)) (b := (m)) (by omega) (by omega))) (fun c2 => ?_)
  refine a_iload_n C dX11_then_10 (i := 2) rfl rfl ?_
  refine a_if_lt C dX11_then_11 (tgt := 19) rfl (fun h => absurd h (by decide)) (fun _ => ?_)
  refine a_iload_n C dX11_then_14 (i := 2) rfl rfl ?_
  refine a_iconst C dX11_then_15 (v := 3) rfl ?_
  refine a_ic_le C dX11_then_16 (tgt := 21) rfl (fun _ => ?_) (fun h => absurd h (by decide))
  refine a_aload_n C dX11_then_21 (i := 0) rfl rfl ?_
  refine a_get C fl_RX11_58 (i := 0) kd_0 (hid 0 (by decide)) (v := .ref (ad 60)) rfl dX11_then_22 ?_
  refine a_aload_n C dX11_then_25 (i := 0) rfl rfl ?_
  refine a_get C fl_RX11_54 (i := 0) kd_0 (hid 0 (by decide)) (v := .ref (ad 56)) rfl dX11_then_26 ?_
  refine a_callVv C (i := 60) kd_60 (hid 60 (by decide)) ⟨_, _, rfl⟩ (by decide) (k_copy_60 hid h_56_0 h_56_4 h_56_5 h_56_6 h_56_7 h_56_8 h_56_9 h_56_10 h_56_11) mi_X0_copy ml_RX11_230 rfl rfl (Nat.le_of_ble_eq_true rfl) (Nat.le_of_ble_eq_true rfl) (Nat.le_of_ble_eq_true rfl) dX11_then_29 (fun σ4 q5 => ?_)
  refine a_aload_n C dX11_then_32 (i := 0) rfl rfl ?_
  refine a_get C fl_RX11_19 (i := 0) kd_0 (hid 0 (by decide)) (v := .ref (ad 8)) rfl dX11_then_33 ?_
  refine a_aload_n C dX11_then_36 (i := 0) rfl rfl ?_
  refine a_get C fl_RX11_82 (i := 0) kd_0 (hid 0 (by decide)) (v := .ref (ad 30)) (congrArg (fun z => some (Value.ref (ad z))) (Eq.trans (congrArg (fun z => z.2 0) q5.1.2) htx0)) dX11_then_37 ?_
  refine a_aload_n C dX11_then_40 (i := 0) rfl rfl ?_
  refine a_get C fl_RX11_58 (i := 0) kd_0 (hid 0 (by decide)) (v := .ref (ad 60)) rfl dX11_then_41 ?_
  refine a_iload_n C dX11_then_44 (i := 1) rfl rfl ?_
  refine a_aload_n C dX11_then_45 (i := 0) rfl rfl ?_
  refine a_get C fl_RX11_82 (i := 0) kd_0 (hid 0 (by decide)) (v := .ref (ad 30)) (congrArg (fun z => some (Value.ref (ad z))) (Eq.trans (congrArg (fun z => z.2 0) q5.1.2) htx0)) dX11_then_46 ?_
  refine a_get C fl_RX11_220 (i := 30) kd_30 (hid 30 (by decide)) (v := .int 0) (congrArg (fun z => some (Value.int z)) ((congrFun (q5.1.1 30 (by decide)) 11).trans h_30_11)) dX11_then_49 ?_
  refine a_callVv C (i := 8) kd_8 (hid 8 (by decide)) ⟨_, _, rfl⟩ (by decide) (k_goOn_60 hid (bt := 0) (m := m) q5.2.2.2.2.2 (by omega) ((congrFun (q5.1.1 30 (by decide)) 10).trans h_30_10) q5.2.1 q5.2.2.1 q5.2.2.2.1 q5.2.2.2.2.1) mi_X4_goOn ml_RX11_223 rfl rfl (Nat.le_of_ble_eq_true rfl) (Nat.le_of_ble_eq_true rfl) (Nat.le_of_ble_eq_true rfl) dX11_then_52 (fun σ7 q8 => ?_)
  refine a_iload_n C dX11_then_55 (i := 2) rfl rfl ?_
  refine a_tableOut C dX11_then_56 (by decide) (tgt := 116) rfl ?_
  refine a_aload_n C dX11_then_116 (i := 0) rfl rfl ?_
  refine a_get C fl_RX11_58 (i := 0) kd_0 (hid 0 (by decide)) (v := .ref (ad 60)) rfl dX11_then_117 ?_
  refine a_get C fl_RX11_190 (i := 60) kd_60 (hid 60 (by decide)) (v := .int 0) (congrArg (fun z => some (Value.int z)) q8.2.2.2.2.1) dX11_then_120 ?_
  refine a_aload_n C dX11_then_123 (i := 0) rfl rfl ?_
  refine a_get C fl_RX11_54 (i := 0) kd_0 (hid 0 (by decide)) (v := .ref (ad 56)) rfl dX11_then_124 ?_
  refine a_get C fl_RX11_190 (i := 56) kd_56 (hid 56 (by decide)) (v := .int 0) (congrArg (fun z => some (Value.int z)) ((congrFun (q8.1.1 56 (by decide)) 8).trans ((congrFun (q5.1.1 56 (by decide)) 8).trans h_56_8))) dX11_then_127 ?_
  refine a_isub C dX11_then_130 ?_
  exact a_iret Rt dX11_then_131 rfl (⟨rfl, (keepM.tr (keepM.tr keepM.rf (only.keepM q5.1 (by decide))) (only.keepM q8.1 (by decide)))⟩)
theorem dX11_then_19 : decode cX11_then 19 = .ok (.iconst (-1), 1) := by decide +kernel
theorem dX11_then_20 : decode cX11_then 20 = .ok (.ireturn, 1) := by decide +kernel
set_option maxHeartbeats 4000000 in
set_option maxRecDepth 100000 in
theorem p_then_out {l : Launch} {D : va_G} {ids : List Nat} {ad : Nat → Nat} {ca : Nat → ClassId} {σ : HS} {p0 : Int32} {p1 : Int32} (hid : ∀ i, i < 277 → i ∈ ids) (ho : p0 < 0 ∨ 60 < p0) : Ki l D ids ad ca yX11_then cX11_then 3 .int 0 0 [.ref (ad 0), .int p0, .int p1] σ (fun r σ1 => r = (-1) ∧ keepM σ σ1) := by
  refine Ki.of (by decide) (Nat.le_of_ble_eq_true rfl) 0 (fun Γ C Rt => ?_)
  show AW ids ad ca Γ 0 [some (.ref (ad 0)), some (.int p0), some (.int p1)] [] σ
  refine a_iload_n C dX11_then_0 (i := 1) rfl rfl ?_
  refine a_if_lt C dX11_then_1 (tgt := 19) rfl (fun c1 => ?_) (fun c1 => ?_)
  ·
    refine a_iconst C dX11_then_19 (v := (-1)) rfl ?_
    exact a_iret Rt dX11_then_20 rfl (⟨rfl, keepM.rf⟩)
  ·
    refine a_iload_n C dX11_then_4 (i := 1) rfl rfl ?_
    refine a_bipush C dX11_then_5 (v := 60) rfl ?_
    refine a_ic_gt C dX11_then_7 (tgt := 19) rfl (fun c2 => ?_) (fun c2 => absurd c2 (fun q => q (ho.resolve_left c1)))
    refine a_iconst C dX11_then_19 (v := (-1)) rfl ?_
    exact a_iret Rt dX11_then_20 rfl (⟨rfl, keepM.rf⟩)
set_option maxHeartbeats 4000000 in
set_option maxRecDepth 100000 in
theorem p_then_w {l : Launch} {D : va_G} {ids : List Nat} {ad : Nat → Nat} {ca : Nat → ClassId} {σ : HS} {m : Nat} {p1 : Int32} (hid : ∀ i, i < 277 → i ∈ ids) (hm : m ≤ 60) (ho : p1 < 0 ∨ 3 < p1) : Ki l D ids ad ca yX11_then cX11_then 3 .int 0 0 [.ref (ad 0), .int (nI m), .int p1] σ (fun r σ1 => r = (-1) ∧ keepM σ σ1) := by
  refine Ki.of (by decide) (Nat.le_of_ble_eq_true rfl) 0 (fun Γ C Rt => ?_)
  show AW ids ad ca Γ 0 [some (.ref (ad 0)), some (.int (nI m)), some (.int p1)] [] σ
  refine a_iload_n C dX11_then_0 (i := 1) rfl rfl ?_
  refine a_if_lt C dX11_then_1 (tgt := 19) rfl (fun c1 => absurd c1 (nI_nlt (a := (m)) (b := (0)) (by omega) (by omega))) (fun c1 => ?_)
  refine a_iload_n C dX11_then_4 (i := 1) rfl rfl ?_
  refine a_bipush C dX11_then_5 (v := 60) rfl ?_
  refine a_ic_gt C dX11_then_7 (tgt := 19) rfl (fun c2 => absurd c2 (nI_nlt (a := (60)) (b := (m)) (by omega) (by omega))) (fun c2 => ?_)
  refine a_iload_n C dX11_then_10 (i := 2) rfl rfl ?_
  refine a_if_lt C dX11_then_11 (tgt := 19) rfl (fun c3 => ?_) (fun c3 => ?_)
  ·
    refine a_iconst C dX11_then_19 (v := (-1)) rfl ?_
    exact a_iret Rt dX11_then_20 rfl (⟨rfl, keepM.rf⟩)
  ·
    refine a_iload_n C dX11_then_14 (i := 2) rfl rfl ?_
    refine a_iconst C dX11_then_15 (v := 3) rfl ?_
    refine a_ic_le C dX11_then_16 (tgt := 21) rfl (fun c4 => absurd c4 (Int32.not_le.mpr (ho.resolve_left c3))) (fun c4 => ?_)
    refine a_iconst C dX11_then_19 (v := (-1)) rfl ?_
    exact a_iret Rt dX11_then_20 rfl (⟨rfl, keepM.rf⟩)
theorem dX11_year_0 : decode cX11_year 0 = .ok (.iload_n 1, 1) := by decide +kernel
theorem dX11_year_1 : decode cX11_year 1 = .ok (.ifCond .lt 20, 3) := by decide +kernel
theorem dX11_year_4 : decode cX11_year 4 = .ok (.iload_n 1, 1) := by decide +kernel
theorem dX11_year_5 : decode cX11_year 5 = .ok (.bipush 60, 2) := by decide +kernel
theorem dX11_year_7 : decode cX11_year 7 = .ok (.if_icmp .gt 14, 3) := by decide +kernel
theorem dX11_year_10 : decode cX11_year 10 = .ok (.iload_n 2, 1) := by decide +kernel
theorem dX11_year_11 : decode cX11_year 11 = .ok (.iconst 1, 1) := by decide +kernel
theorem dX11_year_12 : decode cX11_year 12 = .ok (.if_icmp .lt 9, 3) := by decide +kernel
theorem dX11_year_15 : decode cX11_year 15 = .ok (.iload_n 2, 1) := by decide +kernel
theorem dX11_year_16 : decode cX11_year 16 = .ok (.bipush 20, 2) := by decide +kernel
theorem dX11_year_18 : decode cX11_year 18 = .ok (.if_icmp .le 5, 3) := by decide +kernel
theorem dX11_year_23 : decode cX11_year 23 = .ok (.iconst 0, 1) := by decide +kernel
theorem dX11_year_24 : decode cX11_year 24 = .ok (.istore_n 3, 1) := by decide +kernel
theorem dX11_year_25 : decode cX11_year 25 = .ok (.iconst 0, 1) := by decide +kernel
theorem dX11_year_26 : decode cX11_year 26 = .ok (.istore 4, 2) := by decide +kernel
theorem dX11_year_28 : decode cX11_year 28 = .ok (.iload 4, 2) := by decide +kernel
theorem dX11_year_30 : decode cX11_year 30 = .ok (.iload_n 2, 1) := by decide +kernel
theorem dX11_year_31 : decode cX11_year 31 = .ok (.if_icmp .ge 66, 3) := by decide +kernel
theorem dX11_year_34 : decode cX11_year 34 = .ok (.aload_n 0, 1) := by decide +kernel
theorem dX11_year_35 : decode cX11_year 35 = .ok (.getfield 58, 3) := by decide +kernel
theorem dX11_year_38 : decode cX11_year 38 = .ok (.aload_n 0, 1) := by decide +kernel
theorem dX11_year_39 : decode cX11_year 39 = .ok (.getfield 54, 3) := by decide +kernel
theorem dX11_year_42 : decode cX11_year 42 = .ok (.invokevirtual 230, 3) := by decide +kernel
theorem dX11_year_45 : decode cX11_year 45 = .ok (.aload_n 0, 1) := by decide +kernel
theorem dX11_year_46 : decode cX11_year 46 = .ok (.getfield 19, 3) := by decide +kernel
theorem dX11_year_49 : decode cX11_year 49 = .ok (.aload_n 0, 1) := by decide +kernel
theorem dX11_year_50 : decode cX11_year 50 = .ok (.getfield 82, 3) := by decide +kernel
theorem dX11_year_53 : decode cX11_year 53 = .ok (.aload_n 0, 1) := by decide +kernel
theorem dX11_year_54 : decode cX11_year 54 = .ok (.getfield 58, 3) := by decide +kernel
theorem dX11_year_57 : decode cX11_year 57 = .ok (.iload_n 1, 1) := by decide +kernel
theorem dX11_year_58 : decode cX11_year 58 = .ok (.aload_n 0, 1) := by decide +kernel
theorem dX11_year_59 : decode cX11_year 59 = .ok (.getfield 82, 3) := by decide +kernel
theorem dX11_year_62 : decode cX11_year 62 = .ok (.getfield 220, 3) := by decide +kernel
theorem dX11_year_65 : decode cX11_year 65 = .ok (.iload 4, 2) := by decide +kernel
theorem dX11_year_67 : decode cX11_year 67 = .ok (.iadd, 1) := by decide +kernel
theorem dX11_year_68 : decode cX11_year 68 = .ok (.invokevirtual 223, 3) := by decide +kernel
theorem dX11_year_71 : decode cX11_year 71 = .ok (.aload_n 0, 1) := by decide +kernel
theorem dX11_year_72 : decode cX11_year 72 = .ok (.getfield 58, 3) := by decide +kernel
theorem dX11_year_75 : decode cX11_year 75 = .ok (.getfield 184, 3) := by decide +kernel
theorem dX11_year_78 : decode cX11_year 78 = .ok (.aload_n 0, 1) := by decide +kernel
theorem dX11_year_79 : decode cX11_year 79 = .ok (.getfield 54, 3) := by decide +kernel
theorem dX11_year_82 : decode cX11_year 82 = .ok (.getfield 184, 3) := by decide +kernel
theorem dX11_year_85 : decode cX11_year 85 = .ok (.if_icmp .ne 6, 3) := by decide +kernel
theorem dX11_year_88 : decode cX11_year 88 = .ok (.iinc 3 1, 3) := by decide +kernel
theorem dX11_year_91 : decode cX11_year 91 = .ok (.iinc 4 1, 3) := by decide +kernel
theorem dX11_year_94 : decode cX11_year 94 = .ok (.goto (-66), 3) := by decide +kernel
theorem dX11_year_97 : decode cX11_year 97 = .ok (.iload_n 3, 1) := by decide +kernel
theorem dX11_year_98 : decode cX11_year 98 = .ok (.ireturn, 1) := by decide +kernel
set_option maxHeartbeats 4000000 in
set_option maxRecDepth 100000 in
theorem p_year_in {l : Launch} {D : va_G} {ids : List Nat} {ad : Nat → Nat} {ca : Nat → ClassId} {σ : HS} {m z : Nat} (hid : ∀ i, i < 277 → i ∈ ids) (hm : m ≤ 60) (z1 : 1 ≤ z) (z2 : z ≤ 20) (htx0 : σ.2.2 0 = 30) (h_30_10 : σ.1 30 10 = 1) (h_30_11 : σ.1 30 11 = 0) (h_56_0 : σ.1 56 0 = 0) (h_56_4 : σ.1 56 4 = 0) (h_56_5 : σ.1 56 5 = 0) (h_56_6 : σ.1 56 6 = 0) (h_56_7 : σ.1 56 7 = 0) (h_56_8 : σ.1 56 8 = 0) (h_56_9 : σ.1 56 9 = (-1)) (h_56_10 : σ.1 56 10 = 0) (h_56_11 : σ.1 56 11 = (-1)) : Ki l D ids ad ca yX11_year cX11_year 5 .int 3 81 [.ref (ad 0), .int (nI m), .int (nI z)] σ (fun r σ1 => r = nI z ∧ keepM σ σ1) := by
  refine Ki.of (by decide) (Nat.le_of_ble_eq_true rfl) 2 (fun Γ C Rt => ?_)
  show AW ids ad ca Γ 0 [some (.ref (ad 0)), some (.int (nI m)), some (.int (nI z)), none, none] [] σ
  refine a_iload_n C dX11_year_0 (i := 1) rfl rfl ?_
  refine a_if_lt C dX11_year_1 (tgt := 21) rfl (fun c1 => absurd c1 (nI_nlt (a := (m)) (b := (0)) (by omega) (by omega))) (fun c1 => ?_)
  refine a_iload_n C dX11_year_4 (i := 1) rfl rfl ?_
  refine a_bipush C dX11_year_5 (v := 60) rfl ?_
  refine a_ic_gt C dX11_year_7 (tgt := 21) rfl (fun c2 => absurd c2 (nI_nlt (a := (60)) (b := (m)) (by omega) (by omega))) (fun c2 => ?_)
  refine a_iload_n C dX11_year_10 (i := 2) rfl rfl ?_
  refine a_iconst C dX11_year_11 (v := 1) rfl ?_
  refine a_ic_lt C dX11_year_12 (tgt := 21) rfl (fun c3 => absurd c3 (nI_nlt (a := (z)) (b := (1)) (by omega) (by omega))) (fun c3 => ?_)
  refine a_iload_n C dX11_year_15 (i := 2) rfl rfl ?_
  refine a_bipush C dX11_year_16 (v := 20) rfl ?_
  refine a_ic_le C dX11_year_18 (tgt := 23) rfl (fun c4 => ?_) (fun c4 => absurd c4 (fun q => q (nI_le (a := (z)) (b := (20)) (by omega) (by omega))))
  refine a_iconst C dX11_year_23 (v := 0) rfl ?_
  refine a_istore_n C dX11_year_24 (i := 3) rfl (by decide) rfl (vs1 := [some (.ref (ad 0)), some (.int (nI m)), some (.int (nI z)), some (.int 0), none]) rfl ?_
  refine a_iconst C dX11_year_25 (v := 0) rfl ?_
  refine a_istore C dX11_year_26 (by decide) rfl (vs1 := [some (.ref (ad 0)), some (.int (nI m)), some (.int (nI z)), some (.int 0), some (.int 0)]) rfl ?_
  have loop : ∀ (d j : Nat) (σ2 : HS), j + d = z → (only [60, 61, 62, 63] σ σ2) → AW ids ad ca Γ 28 [some (.ref (ad 0)), some (.int (nI m)), some (.int (nI z)), some (.int (nI j)), some (.int (nI j))] [] σ2 := by
    intro d
    induction d with
    | zero =>
      intro j σ2 hj hV
      refine a_iload C dX11_year_28 rfl ?_
      refine a_iload_n C dX11_year_30 (i := 2) rfl rfl ?_
      refine a_ic_ge C dX11_year_31 (tgt := 97) rfl (fun c5 => ?_) (fun c5 => absurd c5 (fun q => q (nI_le (a := (z)) (b := (j)) (by omega) (by omega))))
      refine a_iload_n C dX11_year_97 (i := 3) rfl rfl ?_
      exact a_iret Rt dX11_year_98 rfl (⟨(congrArg nI (show j = z by omega)), (keepM.tr keepM.rf (only.keepM hV (by decide)))⟩)
    | succ d ih =>
      intro j σ2 hj hV
      refine a_iload C dX11_year_28 rfl ?_
      refine a_iload_n C dX11_year_30 (i := 2) rfl rfl ?_
      refine a_ic_ge C dX11_year_31 (tgt := 97) rfl (fun c6 => absurd c6 (nI_ge (a := (j)) (b := (z)) (by omega) (by omega))) (fun c6 => ?_)
      refine a_aload_n C dX11_year_34 (i := 0) rfl rfl ?_
      refine a_get C fl_RX11_58 (i := 0) kd_0 (hid 0 (by decide)) (v := .ref (ad 60)) rfl dX11_year_35 ?_
      refine a_aload_n C dX11_year_38 (i := 0) rfl rfl ?_
      refine a_get C fl_RX11_54 (i := 0) kd_0 (hid 0 (by decide)) (v := .ref (ad 56)) rfl dX11_year_39 ?_
      refine a_callVv C (i := 60) kd_60 (hid 60 (by decide)) ⟨_, _, rfl⟩ (by decide) (k_copy_60 hid ((congrFun (hV.1 56 (by decide)) 0).trans h_56_0) ((congrFun (hV.1 56 (by decide)) 4).trans h_56_4) ((congrFun (hV.1 56 (by decide)) 5).trans h_56_5) ((congrFun (hV.1 56 (by decide)) 6).trans h_56_6) ((congrFun (hV.1 56 (by decide)) 7).trans h_56_7) ((congrFun (hV.1 56 (by decide)) 8).trans h_56_8) ((congrFun (hV.1 56 (by decide)) 9).trans h_56_9) ((congrFun (hV.1 56 (by decide)) 10).trans h_56_10) ((congrFun (hV.1 56 (by decide)) 11).trans h_56_11)) mi_X0_copy ml_RX11_230 rfl rfl (Nat.le_of_ble_eq_true rfl) (Nat.le_of_ble_eq_true rfl) (Nat.le_of_ble_eq_true rfl) dX11_year_42 (fun σ8 q9 => ?_)
      refine a_aload_n C dX11_year_45 (i := 0) rfl rfl ?_
      refine a_get C fl_RX11_19 (i := 0) kd_0 (hid 0 (by decide)) (v := .ref (ad 8)) rfl dX11_year_46 ?_
      refine a_aload_n C dX11_year_49 (i := 0) rfl rfl ?_
      refine a_get C fl_RX11_82 (i := 0) kd_0 (hid 0 (by decide)) (v := .ref (ad 30)) (congrArg (fun z => some (Value.ref (ad z))) (Eq.trans (congrArg (fun z => z.2 0) q9.1.2) (Eq.trans (congrArg (fun z => z.2 0) hV.2) htx0))) dX11_year_50 ?_
      refine a_aload_n C dX11_year_53 (i := 0) rfl rfl ?_
      refine a_get C fl_RX11_58 (i := 0) kd_0 (hid 0 (by decide)) (v := .ref (ad 60)) rfl dX11_year_54 ?_
      refine a_iload_n C dX11_year_57 (i := 1) rfl rfl ?_
      refine a_aload_n C dX11_year_58 (i := 0) rfl rfl ?_
      refine a_get C fl_RX11_82 (i := 0) kd_0 (hid 0 (by decide)) (v := .ref (ad 30)) (congrArg (fun z => some (Value.ref (ad z))) (Eq.trans (congrArg (fun z => z.2 0) q9.1.2) (Eq.trans (congrArg (fun z => z.2 0) hV.2) htx0))) dX11_year_59 ?_
      refine a_get C fl_RX11_220 (i := 30) kd_30 (hid 30 (by decide)) (v := .int 0) (congrArg (fun z => some (Value.int z)) ((congrFun (q9.1.1 30 (by decide)) 11).trans ((congrFun (hV.1 30 (by decide)) 11).trans h_30_11))) dX11_year_62 ?_
      refine a_iload C dX11_year_65 rfl ?_
      refine a_iadd C dX11_year_67 ?_
      refine a_callVv C (i := 8) kd_8 (hid 8 (by decide)) ⟨_, _, rfl⟩ (by decide) (k_goOn_60 hid (bt := 0) (m := m) q9.2.2.2.2.2 (by omega) ((congrFun (q9.1.1 30 (by decide)) 10).trans ((congrFun (hV.1 30 (by decide)) 10).trans h_30_10)) q9.2.1 q9.2.2.1 q9.2.2.2.1 q9.2.2.2.2.1) mi_X4_goOn ml_RX11_223 rfl rfl (Nat.le_of_ble_eq_true rfl) (Nat.le_of_ble_eq_true rfl) (Nat.le_of_ble_eq_true rfl) dX11_year_68 (fun σ11 q12 => ?_)
      refine a_aload_n C dX11_year_71 (i := 0) rfl rfl ?_
      refine a_get C fl_RX11_58 (i := 0) kd_0 (hid 0 (by decide)) (v := .ref (ad 60)) rfl dX11_year_72 ?_
      refine a_get C fl_RX11_184 (i := 60) kd_60 (hid 60 (by decide)) (v := .int 0) (congrArg (fun z => some (Value.int z)) q12.2.2.2.1) dX11_year_75 ?_
      refine a_aload_n C dX11_year_78 (i := 0) rfl rfl ?_
      refine a_get C fl_RX11_54 (i := 0) kd_0 (hid 0 (by decide)) (v := .ref (ad 56)) rfl dX11_year_79 ?_
      refine a_get C fl_RX11_184 (i := 56) kd_56 (hid 56 (by decide)) (v := .int 0) (congrArg (fun z => some (Value.int z)) ((congrFun (q12.1.1 56 (by decide)) 6).trans ((congrFun (q9.1.1 56 (by decide)) 6).trans ((congrFun (hV.1 56 (by decide)) 6).trans h_56_6)))) dX11_year_82 ?_
      refine a_ic_ne C dX11_year_85 (tgt := 91) rfl (fun h => absurd h (by decide)) (fun _ => ?_)
      refine a_iinc C dX11_year_88 rfl (v := (nI (j + 1))) (nI_1 _) (by decide) rfl (vs1 := [some (.ref (ad 0)), some (.int (nI m)), some (.int (nI z)), some (.int (nI (j + 1))), some (.int (nI j))]) rfl ?_
      refine a_iinc C dX11_year_91 rfl (v := (nI (j + 1))) (nI_1 _) (by decide) rfl (vs1 := [some (.ref (ad 0)), some (.int (nI m)), some (.int (nI z)), some (.int (nI (j + 1))), some (.int (nI (j + 1)))]) rfl ?_
      refine a_goto C dX11_year_94 (tgt := 28) rfl ?_
      exact ih (j + 1) _ (by omega) (only.tr (only.tr (only.tr only.rf (only.mono hV (by decide))) (only.mono q9.1 (by decide))) (only.mono q12.1 (by decide)))
  exact loop (z - 0) 0 _ (by omega) only.rf
theorem dX11_year_21 : decode cX11_year 21 = .ok (.iconst (-1), 1) := by decide +kernel
theorem dX11_year_22 : decode cX11_year 22 = .ok (.ireturn, 1) := by decide +kernel
set_option maxHeartbeats 4000000 in
set_option maxRecDepth 100000 in
theorem p_year_out {l : Launch} {D : va_G} {ids : List Nat} {ad : Nat → Nat} {ca : Nat → ClassId} {σ : HS} {p0 : Int32} {p1 : Int32} (hid : ∀ i, i < 277 → i ∈ ids) (ho : p0 < 0 ∨ 60 < p0) : Ki l D ids ad ca yX11_year cX11_year 5 .int 0 0 [.ref (ad 0), .int p0, .int p1] σ (fun r σ1 => r = (-1) ∧ keepM σ σ1) := by
  refine Ki.of (by decide) (Nat.le_of_ble_eq_true rfl) 2 (fun Γ C Rt => ?_)
  show AW ids ad ca Γ 0 [some (.ref (ad 0)), some (.int p0), some (.int p1), none, none] [] σ
  refine a_iload_n C dX11_year_0 (i := 1) rfl rfl ?_
  refine a_if_lt C dX11_year_1 (tgt := 21) rfl (fun c1 => ?_) (fun c1 => ?_)
  ·
    refine a_iconst C dX11_year_21 (v := (-1)) rfl ?_
    exact a_iret Rt dX11_year_22 rfl (⟨rfl, keepM.rf⟩)
  ·
    refine a_iload_n C dX11_year_4 (i := 1) rfl rfl ?_
    refine a_bipush C dX11_year_5 (v := 60) rfl ?_
    refine a_ic_gt C dX11_year_7 (tgt := 21) rfl (fun c2 => ?_) (fun c2 => absurd c2 (fun q => q (ho.resolve_left c1)))
    refine a_iconst C dX11_year_21 (v := (-1)) rfl ?_
    exact a_iret Rt dX11_year_22 rfl (⟨rfl, keepM.rf⟩)
set_option maxHeartbeats 4000000 in
set_option maxRecDepth 100000 in
theorem p_year_s {l : Launch} {D : va_G} {ids : List Nat} {ad : Nat → Nat} {ca : Nat → ClassId} {σ : HS} {m : Nat} {p1 : Int32} (hid : ∀ i, i < 277 → i ∈ ids) (hm : m ≤ 60) (ho : p1 < 1 ∨ 20 < p1) : Ki l D ids ad ca yX11_year cX11_year 5 .int 0 0 [.ref (ad 0), .int (nI m), .int p1] σ (fun r σ1 => r = (-1) ∧ keepM σ σ1) := by
  refine Ki.of (by decide) (Nat.le_of_ble_eq_true rfl) 2 (fun Γ C Rt => ?_)
  show AW ids ad ca Γ 0 [some (.ref (ad 0)), some (.int (nI m)), some (.int p1), none, none] [] σ
  refine a_iload_n C dX11_year_0 (i := 1) rfl rfl ?_
  refine a_if_lt C dX11_year_1 (tgt := 21) rfl (fun c1 => absurd c1 (nI_nlt (a := (m)) (b := (0)) (by omega) (by omega))) (fun c1 => ?_)
  refine a_iload_n C dX11_year_4 (i := 1) rfl rfl ?_
  refine a_bipush C dX11_year_5 (v := 60) rfl ?_
  refine a_ic_gt C dX11_year_7 (tgt := 21) rfl (fun c2 => absurd c2 (nI_nlt (a := (60)) (b := (m)) (by omega) (by omega))) (fun c2 => ?_)
  refine a_iload_n C dX11_year_10 (i := 2) rfl rfl ?_
  refine a_iconst C dX11_year_11 (v := 1) rfl ?_
  refine a_ic_lt C dX11_year_12 (tgt := 21) rfl (fun c3 => ?_) (fun c3 => ?_)
  ·
    refine a_iconst C dX11_year_21 (v := (-1)) rfl ?_
    exact a_iret Rt dX11_year_22 rfl (⟨rfl, keepM.rf⟩)
  ·
    refine a_iload_n C dX11_year_15 (i := 2) rfl rfl ?_
    refine a_bipush C dX11_year_16 (v := 20) rfl ?_
    refine a_ic_le C dX11_year_18 (tgt := 23) rfl (fun c4 => absurd c4 (Int32.not_le.mpr (ho.resolve_left c3))) (fun c4 => ?_)
    refine a_iconst C dX11_year_21 (v := (-1)) rfl ?_
    exact a_iret Rt dX11_year_22 rfl (⟨rfl, keepM.rf⟩)
theorem dX10_emit_0 : decode cX10_emit 0 = .ok (.aload_n 0, 1) := by decide +kernel
theorem dX10_emit_1 : decode cX10_emit 1 = .ok (.getfield 51, 3) := by decide +kernel
theorem dX10_emit_4 : decode cX10_emit 4 = .ok (.aload_n 0, 1) := by decide +kernel
theorem dX10_emit_5 : decode cX10_emit 5 = .ok (.getfield 29, 3) := by decide +kernel
theorem dX10_emit_8 : decode cX10_emit 8 = .ok (.arraylength, 1) := by decide +kernel
theorem dX10_emit_9 : decode cX10_emit 9 = .ok (.if_icmp .ge 23, 3) := by decide +kernel
theorem dX10_emit_12 : decode cX10_emit 12 = .ok (.aload_n 0, 1) := by decide +kernel
theorem dX10_emit_13 : decode cX10_emit 13 = .ok (.getfield 29, 3) := by decide +kernel
theorem dX10_emit_16 : decode cX10_emit 16 = .ok (.aload_n 0, 1) := by decide +kernel
theorem dX10_emit_17 : decode cX10_emit 17 = .ok (.getfield 51, 3) := by decide +kernel
theorem dX10_emit_20 : decode cX10_emit 20 = .ok (.iload_n 1, 1) := by decide +kernel
theorem dX10_emit_21 : decode cX10_emit 21 = .ok (.iastore, 1) := by decide +kernel
theorem dX10_emit_22 : decode cX10_emit 22 = .ok (.aload_n 0, 1) := by decide +kernel
theorem dX10_emit_23 : decode cX10_emit 23 = .ok (.dup, 1) := by decide +kernel
theorem dX10_emit_24 : decode cX10_emit 24 = .ok (.getfield 51, 3) := by decide +kernel
theorem dX10_emit_27 : decode cX10_emit 27 = .ok (.iconst 1, 1) := by decide +kernel
theorem dX10_emit_28 : decode cX10_emit 28 = .ok (.iadd, 1) := by decide +kernel
theorem dX10_emit_29 : decode cX10_emit 29 = .ok (.putfield 51, 3) := by decide +kernel
theorem dX10_emit_32 : decode cX10_emit 32 = .ok (.return_, 1) := by decide +kernel
set_option maxHeartbeats 4000000 in
set_option maxRecDepth 100000 in
theorem k_emit_0 {l : Launch} {D : va_G} {ids : List Nat} {ad : Nat → Nat} {ca : Nat → ClassId} {σ : HS} {p0 : Int32} (hid : ∀ i, i < 277 → i ∈ ids) (h_43_8 : σ.1 43 8 = 0) : Kv l D ids ad ca yX10_emit cX10_emit 2 0 0 [.ref (ad 43), .int p0] σ (fun σ1 => σ1 = (hI (hI σ 54 0 p0) 43 8 1)) := by
  refine Kv.of (by decide) (Nat.le_of_ble_eq_true rfl) 0 (fun Γ C Rt => ?_)
  show AW ids ad ca Γ 0 [some (.ref (ad 43)), some (.int p0)] [] σ
  refine a_aload_n C dX10_emit_0 (i := 0) rfl rfl ?_
  refine a_get C fl_RX10_51 (i := 43) kd_43 (hid 43 (by decide)) (v := .int 0) (congrArg (fun z => some (Value.int z)) h_43_8) dX10_emit_1 ?_
  refine a_aload_n C dX10_emit_4 (i := 0) rfl rfl ?_
  refine a_get C fl_RX10_29 (i := 43) kd_43 (hid 43 (by decide)) (v := .ref (ad 54)) rfl dX10_emit_5 ?_
  refine a_alen C (by rw [kd_54]; decide) (hid 54 (by decide)) (v := 408) (by rw [al_54]; rfl) dX10_emit_8 ?_
  refine a_ic_ge C dX10_emit_9 (tgt := 32) rfl (fun h => absurd h (by decide)) (fun _ => ?_)
  refine a_aload_n C dX10_emit_12 (i := 0) rfl rfl ?_
  refine a_get C fl_RX10_29 (i := 43) kd_43 (hid 43 (by decide)) (v := .ref (ad 54)) rfl dX10_emit_13 ?_
  refine a_aload_n C dX10_emit_16 (i := 0) rfl rfl ?_
  refine a_get C fl_RX10_51 (i := 43) kd_43 (hid 43 (by decide)) (v := .int 0) (congrArg (fun z => some (Value.int z)) h_43_8) dX10_emit_17 ?_
  refine a_iload_n C dX10_emit_20 (i := 1) rfl rfl ?_
  refine a_iast C (i := 54) 0 kd_54 (hid 54 (by decide)) (by decide) rfl (by rw [al_54]; decide) dX10_emit_21 ?_
  refine a_aload_n C dX10_emit_22 (i := 0) rfl rfl ?_
  refine a_dup C dX10_emit_23 rfl ?_
  refine a_get C fl_RX10_51 (i := 43) kd_43 (hid 43 (by decide)) (v := .int 0) (congrArg (fun z => some (Value.int z)) h_43_8) dX10_emit_24 ?_
  refine a_iconst C dX10_emit_27 (v := 1) rfl ?_
  refine a_iadd C dX10_emit_28 ?_
  refine a_put C fp_RX10_51 (i := 43) kd_43 (hid 43 (by decide)) rfl rfl dX10_emit_29 ?_
  exact a_vret Rt dX10_emit_32 (rfl)
set_option maxHeartbeats 4000000 in
set_option maxRecDepth 100000 in
theorem k_emit_1 {l : Launch} {D : va_G} {ids : List Nat} {ad : Nat → Nat} {ca : Nat → ClassId} {σ : HS} {p0 : Int32} (hid : ∀ i, i < 277 → i ∈ ids) (h_43_8 : σ.1 43 8 = 1) : Kv l D ids ad ca yX10_emit cX10_emit 2 0 0 [.ref (ad 43), .int p0] σ (fun σ1 => σ1 = (hI (hI σ 54 1 p0) 43 8 2)) := by
  refine Kv.of (by decide) (Nat.le_of_ble_eq_true rfl) 0 (fun Γ C Rt => ?_)
  show AW ids ad ca Γ 0 [some (.ref (ad 43)), some (.int p0)] [] σ
  refine a_aload_n C dX10_emit_0 (i := 0) rfl rfl ?_
  refine a_get C fl_RX10_51 (i := 43) kd_43 (hid 43 (by decide)) (v := .int 1) (congrArg (fun z => some (Value.int z)) h_43_8) dX10_emit_1 ?_
  refine a_aload_n C dX10_emit_4 (i := 0) rfl rfl ?_
  refine a_get C fl_RX10_29 (i := 43) kd_43 (hid 43 (by decide)) (v := .ref (ad 54)) rfl dX10_emit_5 ?_
  refine a_alen C (by rw [kd_54]; decide) (hid 54 (by decide)) (v := 408) (by rw [al_54]; rfl) dX10_emit_8 ?_
  refine a_ic_ge C dX10_emit_9 (tgt := 32) rfl (fun h => absurd h (by decide)) (fun _ => ?_)
  refine a_aload_n C dX10_emit_12 (i := 0) rfl rfl ?_
  refine a_get C fl_RX10_29 (i := 43) kd_43 (hid 43 (by decide)) (v := .ref (ad 54)) rfl dX10_emit_13 ?_
  refine a_aload_n C dX10_emit_16 (i := 0) rfl rfl ?_
  refine a_get C fl_RX10_51 (i := 43) kd_43 (hid 43 (by decide)) (v := .int 1) (congrArg (fun z => some (Value.int z)) h_43_8) dX10_emit_17 ?_
  refine a_iload_n C dX10_emit_20 (i := 1) rfl rfl ?_
  refine a_iast C (i := 54) 1 kd_54 (hid 54 (by decide)) (by decide) rfl (by rw [al_54]; decide) dX10_emit_21 ?_
  refine a_aload_n C dX10_emit_22 (i := 0) rfl rfl ?_
  refine a_dup C dX10_emit_23 rfl ?_
  refine a_get C fl_RX10_51 (i := 43) kd_43 (hid 43 (by decide)) (v := .int 1) (congrArg (fun z => some (Value.int z)) h_43_8) dX10_emit_24 ?_
  refine a_iconst C dX10_emit_27 (v := 1) rfl ?_
  refine a_iadd C dX10_emit_28 ?_
  refine a_put C fp_RX10_51 (i := 43) kd_43 (hid 43 (by decide)) rfl rfl dX10_emit_29 ?_
  exact a_vret Rt dX10_emit_32 (rfl)
set_option maxHeartbeats 4000000 in
set_option maxRecDepth 100000 in
theorem k_emit_2 {l : Launch} {D : va_G} {ids : List Nat} {ad : Nat → Nat} {ca : Nat → ClassId} {σ : HS} {p0 : Int32} (hid : ∀ i, i < 277 → i ∈ ids) (h_43_8 : σ.1 43 8 = 2) : Kv l D ids ad ca yX10_emit cX10_emit 2 0 0 [.ref (ad 43), .int p0] σ (fun σ1 => σ1 = (hI (hI σ 54 2 p0) 43 8 3)) := by
  refine Kv.of (by decide) (Nat.le_of_ble_eq_true rfl) 0 (fun Γ C Rt => ?_)
  show AW ids ad ca Γ 0 [some (.ref (ad 43)), some (.int p0)] [] σ
  refine a_aload_n C dX10_emit_0 (i := 0) rfl rfl ?_
  refine a_get C fl_RX10_51 (i := 43) kd_43 (hid 43 (by decide)) (v := .int 2) (congrArg (fun z => some (Value.int z)) h_43_8) dX10_emit_1 ?_
  refine a_aload_n C dX10_emit_4 (i := 0) rfl rfl ?_
  refine a_get C fl_RX10_29 (i := 43) kd_43 (hid 43 (by decide)) (v := .ref (ad 54)) rfl dX10_emit_5 ?_
  refine a_alen C (by rw [kd_54]; decide) (hid 54 (by decide)) (v := 408) (by rw [al_54]; rfl) dX10_emit_8 ?_
  refine a_ic_ge C dX10_emit_9 (tgt := 32) rfl (fun h => absurd h (by decide)) (fun _ => ?_)
  refine a_aload_n C dX10_emit_12 (i := 0) rfl rfl ?_
  refine a_get C fl_RX10_29 (i := 43) kd_43 (hid 43 (by decide)) (v := .ref (ad 54)) rfl dX10_emit_13 ?_
  refine a_aload_n C dX10_emit_16 (i := 0) rfl rfl ?_
  refine a_get C fl_RX10_51 (i := 43) kd_43 (hid 43 (by decide)) (v := .int 2) (congrArg (fun z => some (Value.int z)) h_43_8) dX10_emit_17 ?_
  refine a_iload_n C dX10_emit_20 (i := 1) rfl rfl ?_
  refine a_iast C (i := 54) 2 kd_54 (hid 54 (by decide)) (by decide) rfl (by rw [al_54]; decide) dX10_emit_21 ?_
  refine a_aload_n C dX10_emit_22 (i := 0) rfl rfl ?_
  refine a_dup C dX10_emit_23 rfl ?_
  refine a_get C fl_RX10_51 (i := 43) kd_43 (hid 43 (by decide)) (v := .int 2) (congrArg (fun z => some (Value.int z)) h_43_8) dX10_emit_24 ?_
  refine a_iconst C dX10_emit_27 (v := 1) rfl ?_
  refine a_iadd C dX10_emit_28 ?_
  refine a_put C fp_RX10_51 (i := 43) kd_43 (hid 43 (by decide)) rfl rfl dX10_emit_29 ?_
  exact a_vret Rt dX10_emit_32 (rfl)
set_option maxHeartbeats 4000000 in
set_option maxRecDepth 100000 in
theorem k_emit_3 {l : Launch} {D : va_G} {ids : List Nat} {ad : Nat → Nat} {ca : Nat → ClassId} {σ : HS} {p0 : Int32} (hid : ∀ i, i < 277 → i ∈ ids) (h_43_8 : σ.1 43 8 = 3) : Kv l D ids ad ca yX10_emit cX10_emit 2 0 0 [.ref (ad 43), .int p0] σ (fun σ1 => σ1 = (hI (hI σ 54 3 p0) 43 8 4)) := by
  refine Kv.of (by decide) (Nat.le_of_ble_eq_true rfl) 0 (fun Γ C Rt => ?_)
  show AW ids ad ca Γ 0 [some (.ref (ad 43)), some (.int p0)] [] σ
  refine a_aload_n C dX10_emit_0 (i := 0) rfl rfl ?_
  refine a_get C fl_RX10_51 (i := 43) kd_43 (hid 43 (by decide)) (v := .int 3) (congrArg (fun z => some (Value.int z)) h_43_8) dX10_emit_1 ?_
  refine a_aload_n C dX10_emit_4 (i := 0) rfl rfl ?_
  refine a_get C fl_RX10_29 (i := 43) kd_43 (hid 43 (by decide)) (v := .ref (ad 54)) rfl dX10_emit_5 ?_
  refine a_alen C (by rw [kd_54]; decide) (hid 54 (by decide)) (v := 408) (by rw [al_54]; rfl) dX10_emit_8 ?_
  refine a_ic_ge C dX10_emit_9 (tgt := 32) rfl (fun h => absurd h (by decide)) (fun _ => ?_)
  refine a_aload_n C dX10_emit_12 (i := 0) rfl rfl ?_
  refine a_get C fl_RX10_29 (i := 43) kd_43 (hid 43 (by decide)) (v := .ref (ad 54)) rfl dX10_emit_13 ?_
  refine a_aload_n C dX10_emit_16 (i := 0) rfl rfl ?_
  refine a_get C fl_RX10_51 (i := 43) kd_43 (hid 43 (by decide)) (v := .int 3) (congrArg (fun z => some (Value.int z)) h_43_8) dX10_emit_17 ?_
  refine a_iload_n C dX10_emit_20 (i := 1) rfl rfl ?_
  refine a_iast C (i := 54) 3 kd_54 (hid 54 (by decide)) (by decide) rfl (by rw [al_54]; decide) dX10_emit_21 ?_
  refine a_aload_n C dX10_emit_22 (i := 0) rfl rfl ?_
  refine a_dup C dX10_emit_23 rfl ?_
  refine a_get C fl_RX10_51 (i := 43) kd_43 (hid 43 (by decide)) (v := .int 3) (congrArg (fun z => some (Value.int z)) h_43_8) dX10_emit_24 ?_
  refine a_iconst C dX10_emit_27 (v := 1) rfl ?_
  refine a_iadd C dX10_emit_28 ?_
  refine a_put C fp_RX10_51 (i := 43) kd_43 (hid 43 (by decide)) rfl rfl dX10_emit_29 ?_
  exact a_vret Rt dX10_emit_32 (rfl)
set_option maxHeartbeats 4000000 in
set_option maxRecDepth 100000 in
theorem k_emit_4 {l : Launch} {D : va_G} {ids : List Nat} {ad : Nat → Nat} {ca : Nat → ClassId} {σ : HS} {p0 : Int32} (hid : ∀ i, i < 277 → i ∈ ids) (h_43_8 : σ.1 43 8 = 4) : Kv l D ids ad ca yX10_emit cX10_emit 2 0 0 [.ref (ad 43), .int p0] σ (fun σ1 => σ1 = (hI (hI σ 54 4 p0) 43 8 5)) := by
  refine Kv.of (by decide) (Nat.le_of_ble_eq_true rfl) 0 (fun Γ C Rt => ?_)
  show AW ids ad ca Γ 0 [some (.ref (ad 43)), some (.int p0)] [] σ
  refine a_aload_n C dX10_emit_0 (i := 0) rfl rfl ?_
  refine a_get C fl_RX10_51 (i := 43) kd_43 (hid 43 (by decide)) (v := .int 4) (congrArg (fun z => some (Value.int z)) h_43_8) dX10_emit_1 ?_
  refine a_aload_n C dX10_emit_4 (i := 0) rfl rfl ?_
  refine a_get C fl_RX10_29 (i := 43) kd_43 (hid 43 (by decide)) (v := .ref (ad 54)) rfl dX10_emit_5 ?_
  refine a_alen C (by rw [kd_54]; decide) (hid 54 (by decide)) (v := 408) (by rw [al_54]; rfl) dX10_emit_8 ?_
  refine a_ic_ge C dX10_emit_9 (tgt := 32) rfl (fun h => absurd h (by decide)) (fun _ => ?_)
  refine a_aload_n C dX10_emit_12 (i := 0) rfl rfl ?_
  refine a_get C fl_RX10_29 (i := 43) kd_43 (hid 43 (by decide)) (v := .ref (ad 54)) rfl dX10_emit_13 ?_
  refine a_aload_n C dX10_emit_16 (i := 0) rfl rfl ?_
  refine a_get C fl_RX10_51 (i := 43) kd_43 (hid 43 (by decide)) (v := .int 4) (congrArg (fun z => some (Value.int z)) h_43_8) dX10_emit_17 ?_
  refine a_iload_n C dX10_emit_20 (i := 1) rfl rfl ?_
  refine a_iast C (i := 54) 4 kd_54 (hid 54 (by decide)) (by decide) rfl (by rw [al_54]; decide) dX10_emit_21 ?_
  refine a_aload_n C dX10_emit_22 (i := 0) rfl rfl ?_
  refine a_dup C dX10_emit_23 rfl ?_
  refine a_get C fl_RX10_51 (i := 43) kd_43 (hid 43 (by decide)) (v := .int 4) (congrArg (fun z => some (Value.int z)) h_43_8) dX10_emit_24 ?_
  refine a_iconst C dX10_emit_27 (v := 1) rfl ?_
  refine a_iadd C dX10_emit_28 ?_
  refine a_put C fp_RX10_51 (i := 43) kd_43 (hid 43 (by decide)) rfl rfl dX10_emit_29 ?_
  exact a_vret Rt dX10_emit_32 (rfl)
set_option maxHeartbeats 4000000 in
set_option maxRecDepth 100000 in
theorem k_emit_5 {l : Launch} {D : va_G} {ids : List Nat} {ad : Nat → Nat} {ca : Nat → ClassId} {σ : HS} {p0 : Int32} (hid : ∀ i, i < 277 → i ∈ ids) (h_43_8 : σ.1 43 8 = 5) : Kv l D ids ad ca yX10_emit cX10_emit 2 0 0 [.ref (ad 43), .int p0] σ (fun σ1 => σ1 = (hI (hI σ 54 5 p0) 43 8 6)) := by
  refine Kv.of (by decide) (Nat.le_of_ble_eq_true rfl) 0 (fun Γ C Rt => ?_)
  show AW ids ad ca Γ 0 [some (.ref (ad 43)), some (.int p0)] [] σ
  refine a_aload_n C dX10_emit_0 (i := 0) rfl rfl ?_
  refine a_get C fl_RX10_51 (i := 43) kd_43 (hid 43 (by decide)) (v := .int 5) (congrArg (fun z => some (Value.int z)) h_43_8) dX10_emit_1 ?_
  refine a_aload_n C dX10_emit_4 (i := 0) rfl rfl ?_
  refine a_get C fl_RX10_29 (i := 43) kd_43 (hid 43 (by decide)) (v := .ref (ad 54)) rfl dX10_emit_5 ?_
  refine a_alen C (by rw [kd_54]; decide) (hid 54 (by decide)) (v := 408) (by rw [al_54]; rfl) dX10_emit_8 ?_
  refine a_ic_ge C dX10_emit_9 (tgt := 32) rfl (fun h => absurd h (by decide)) (fun _ => ?_)
  refine a_aload_n C dX10_emit_12 (i := 0) rfl rfl ?_
  refine a_get C fl_RX10_29 (i := 43) kd_43 (hid 43 (by decide)) (v := .ref (ad 54)) rfl dX10_emit_13 ?_
  refine a_aload_n C dX10_emit_16 (i := 0) rfl rfl ?_
  refine a_get C fl_RX10_51 (i := 43) kd_43 (hid 43 (by decide)) (v := .int 5) (congrArg (fun z => some (Value.int z)) h_43_8) dX10_emit_17 ?_
  refine a_iload_n C dX10_emit_20 (i := 1) rfl rfl ?_
  refine a_iast C (i := 54) 5 kd_54 (hid 54 (by decide)) (by decide) rfl (by rw [al_54]; decide) dX10_emit_21 ?_
  refine a_aload_n C dX10_emit_22 (i := 0) rfl rfl ?_
  refine a_dup C dX10_emit_23 rfl ?_
  refine a_get C fl_RX10_51 (i := 43) kd_43 (hid 43 (by decide)) (v := .int 5) (congrArg (fun z => some (Value.int z)) h_43_8) dX10_emit_24 ?_
  refine a_iconst C dX10_emit_27 (v := 1) rfl ?_
  refine a_iadd C dX10_emit_28 ?_
  refine a_put C fp_RX10_51 (i := 43) kd_43 (hid 43 (by decide)) rfl rfl dX10_emit_29 ?_
  exact a_vret Rt dX10_emit_32 (rfl)
set_option maxHeartbeats 4000000 in
set_option maxRecDepth 100000 in
theorem k_emit_6 {l : Launch} {D : va_G} {ids : List Nat} {ad : Nat → Nat} {ca : Nat → ClassId} {σ : HS} {p0 : Int32} (hid : ∀ i, i < 277 → i ∈ ids) (h_43_8 : σ.1 43 8 = 6) : Kv l D ids ad ca yX10_emit cX10_emit 2 0 0 [.ref (ad 43), .int p0] σ (fun σ1 => σ1 = (hI (hI σ 54 6 p0) 43 8 7)) := by
  refine Kv.of (by decide) (Nat.le_of_ble_eq_true rfl) 0 (fun Γ C Rt => ?_)
  show AW ids ad ca Γ 0 [some (.ref (ad 43)), some (.int p0)] [] σ
  refine a_aload_n C dX10_emit_0 (i := 0) rfl rfl ?_
  refine a_get C fl_RX10_51 (i := 43) kd_43 (hid 43 (by decide)) (v := .int 6) (congrArg (fun z => some (Value.int z)) h_43_8) dX10_emit_1 ?_
  refine a_aload_n C dX10_emit_4 (i := 0) rfl rfl ?_
  refine a_get C fl_RX10_29 (i := 43) kd_43 (hid 43 (by decide)) (v := .ref (ad 54)) rfl dX10_emit_5 ?_
  refine a_alen C (by rw [kd_54]; decide) (hid 54 (by decide)) (v := 408) (by rw [al_54]; rfl) dX10_emit_8 ?_
  refine a_ic_ge C dX10_emit_9 (tgt := 32) rfl (fun h => absurd h (by decide)) (fun _ => ?_)
  refine a_aload_n C dX10_emit_12 (i := 0) rfl rfl ?_
  refine a_get C fl_RX10_29 (i := 43) kd_43 (hid 43 (by decide)) (v := .ref (ad 54)) rfl dX10_emit_13 ?_
  refine a_aload_n C dX10_emit_16 (i := 0) rfl rfl ?_
  refine a_get C fl_RX10_51 (i := 43) kd_43 (hid 43 (by decide)) (v := .int 6) (congrArg (fun z => some (Value.int z)) h_43_8) dX10_emit_17 ?_
  refine a_iload_n C dX10_emit_20 (i := 1) rfl rfl ?_
  refine a_iast C (i := 54) 6 kd_54 (hid 54 (by decide)) (by decide) rfl (by rw [al_54]; decide) dX10_emit_21 ?_
  refine a_aload_n C dX10_emit_22 (i := 0) rfl rfl ?_
  refine a_dup C dX10_emit_23 rfl ?_
  refine a_get C fl_RX10_51 (i := 43) kd_43 (hid 43 (by decide)) (v := .int 6) (congrArg (fun z => some (Value.int z)) h_43_8) dX10_emit_24 ?_
  refine a_iconst C dX10_emit_27 (v := 1) rfl ?_
  refine a_iadd C dX10_emit_28 ?_
  refine a_put C fp_RX10_51 (i := 43) kd_43 (hid 43 (by decide)) rfl rfl dX10_emit_29 ?_
  exact a_vret Rt dX10_emit_32 (rfl)
set_option maxHeartbeats 4000000 in
set_option maxRecDepth 100000 in
theorem k_emit_7 {l : Launch} {D : va_G} {ids : List Nat} {ad : Nat → Nat} {ca : Nat → ClassId} {σ : HS} {p0 : Int32} (hid : ∀ i, i < 277 → i ∈ ids) (h_43_8 : σ.1 43 8 = 7) : Kv l D ids ad ca yX10_emit cX10_emit 2 0 0 [.ref (ad 43), .int p0] σ (fun σ1 => σ1 = (hI (hI σ 54 7 p0) 43 8 8)) := by
  refine Kv.of (by decide) (Nat.le_of_ble_eq_true rfl) 0 (fun Γ C Rt => ?_)
  show AW ids ad ca Γ 0 [some (.ref (ad 43)), some (.int p0)] [] σ
  refine a_aload_n C dX10_emit_0 (i := 0) rfl rfl ?_
  refine a_get C fl_RX10_51 (i := 43) kd_43 (hid 43 (by decide)) (v := .int 7) (congrArg (fun z => some (Value.int z)) h_43_8) dX10_emit_1 ?_
  refine a_aload_n C dX10_emit_4 (i := 0) rfl rfl ?_
  refine a_get C fl_RX10_29 (i := 43) kd_43 (hid 43 (by decide)) (v := .ref (ad 54)) rfl dX10_emit_5 ?_
  refine a_alen C (by rw [kd_54]; decide) (hid 54 (by decide)) (v := 408) (by rw [al_54]; rfl) dX10_emit_8 ?_
  refine a_ic_ge C dX10_emit_9 (tgt := 32) rfl (fun h => absurd h (by decide)) (fun _ => ?_)
  refine a_aload_n C dX10_emit_12 (i := 0) rfl rfl ?_
  refine a_get C fl_RX10_29 (i := 43) kd_43 (hid 43 (by decide)) (v := .ref (ad 54)) rfl dX10_emit_13 ?_
  refine a_aload_n C dX10_emit_16 (i := 0) rfl rfl ?_
  refine a_get C fl_RX10_51 (i := 43) kd_43 (hid 43 (by decide)) (v := .int 7) (congrArg (fun z => some (Value.int z)) h_43_8) dX10_emit_17 ?_
  refine a_iload_n C dX10_emit_20 (i := 1) rfl rfl ?_
  refine a_iast C (i := 54) 7 kd_54 (hid 54 (by decide)) (by decide) rfl (by rw [al_54]; decide) dX10_emit_21 ?_
  refine a_aload_n C dX10_emit_22 (i := 0) rfl rfl ?_
  refine a_dup C dX10_emit_23 rfl ?_
  refine a_get C fl_RX10_51 (i := 43) kd_43 (hid 43 (by decide)) (v := .int 7) (congrArg (fun z => some (Value.int z)) h_43_8) dX10_emit_24 ?_
  refine a_iconst C dX10_emit_27 (v := 1) rfl ?_
  refine a_iadd C dX10_emit_28 ?_
  refine a_put C fp_RX10_51 (i := 43) kd_43 (hid 43 (by decide)) rfl rfl dX10_emit_29 ?_
  exact a_vret Rt dX10_emit_32 (rfl)
theorem dX10_clear_0 : decode cX10_clear 0 = .ok (.aload_n 0, 1) := by decide +kernel
theorem dX10_clear_1 : decode cX10_clear 1 = .ok (.iconst 0, 1) := by decide +kernel
theorem dX10_clear_2 : decode cX10_clear 2 = .ok (.putfield 38, 3) := by decide +kernel
theorem dX10_clear_5 : decode cX10_clear 5 = .ok (.aload_n 0, 1) := by decide +kernel
theorem dX10_clear_6 : decode cX10_clear 6 = .ok (.iconst 0, 1) := by decide +kernel
theorem dX10_clear_7 : decode cX10_clear 7 = .ok (.putfield 42, 3) := by decide +kernel
theorem dX10_clear_10 : decode cX10_clear 10 = .ok (.aload_n 0, 1) := by decide +kernel
theorem dX10_clear_11 : decode cX10_clear 11 = .ok (.iconst 1, 1) := by decide +kernel
theorem dX10_clear_12 : decode cX10_clear 12 = .ok (.putfield 45, 3) := by decide +kernel
theorem dX10_clear_15 : decode cX10_clear 15 = .ok (.aload_n 0, 1) := by decide +kernel
theorem dX10_clear_16 : decode cX10_clear 16 = .ok (.iconst 0, 1) := by decide +kernel
theorem dX10_clear_17 : decode cX10_clear 17 = .ok (.putfield 48, 3) := by decide +kernel
theorem dX10_clear_20 : decode cX10_clear 20 = .ok (.aload_n 0, 1) := by decide +kernel
theorem dX10_clear_21 : decode cX10_clear 21 = .ok (.iconst 0, 1) := by decide +kernel
theorem dX10_clear_22 : decode cX10_clear 22 = .ok (.putfield 51, 3) := by decide +kernel
theorem dX10_clear_25 : decode cX10_clear 25 = .ok (.iconst 0, 1) := by decide +kernel
theorem dX10_clear_26 : decode cX10_clear 26 = .ok (.istore_n 1, 1) := by decide +kernel
theorem dX10_clear_27 : decode cX10_clear 27 = .ok (.iload_n 1, 1) := by decide +kernel
theorem dX10_clear_28 : decode cX10_clear 28 = .ok (.iconst 4, 1) := by decide +kernel
theorem dX10_clear_29 : decode cX10_clear 29 = .ok (.if_icmp .ge 40, 3) := by decide +kernel
theorem dX10_clear_32 : decode cX10_clear 32 = .ok (.aload_n 0, 1) := by decide +kernel
theorem dX10_clear_33 : decode cX10_clear 33 = .ok (.getfield 32, 3) := by decide +kernel
theorem dX10_clear_36 : decode cX10_clear 36 = .ok (.iload_n 1, 1) := by decide +kernel
theorem dX10_clear_37 : decode cX10_clear 37 = .ok (.aload_n 0, 1) := by decide +kernel
theorem dX10_clear_38 : decode cX10_clear 38 = .ok (.getfield 51, 3) := by decide +kernel
theorem dX10_clear_41 : decode cX10_clear 41 = .ok (.iastore, 1) := by decide +kernel
theorem dX10_clear_42 : decode cX10_clear 42 = .ok (.aload_n 0, 1) := by decide +kernel
theorem dX10_clear_43 : decode cX10_clear 43 = .ok (.iload_n 1, 1) := by decide +kernel
theorem dX10_clear_44 : decode cX10_clear 44 = .ok (.iconst 2, 1) := by decide +kernel
theorem dX10_clear_45 : decode cX10_clear 45 = .ok (.if_icmp .ne 8, 3) := by decide +kernel
theorem dX10_clear_48 : decode cX10_clear 48 = .ok (.bipush (-11), 2) := by decide +kernel
theorem dX10_clear_50 : decode cX10_clear 50 = .ok (.goto 4, 3) := by decide +kernel
theorem dX10_clear_53 : decode cX10_clear 53 = .ok (.iconst 0, 1) := by decide +kernel
theorem dX10_clear_54 : decode cX10_clear 54 = .ok (.invokevirtual 54, 3) := by decide +kernel
theorem dX10_clear_57 : decode cX10_clear 57 = .ok (.aload_n 0, 1) := by decide +kernel
theorem dX10_clear_58 : decode cX10_clear 58 = .ok (.bipush (-6), 2) := by decide +kernel
theorem dX10_clear_60 : decode cX10_clear 60 = .ok (.invokevirtual 54, 3) := by decide +kernel
theorem dX10_clear_63 : decode cX10_clear 63 = .ok (.iinc 1 1, 3) := by decide +kernel
theorem dX10_clear_66 : decode cX10_clear 66 = .ok (.goto (-39), 3) := by decide +kernel
theorem dX10_clear_69 : decode cX10_clear 69 = .ok (.return_, 1) := by decide +kernel
set_option maxHeartbeats 4000000 in
set_option maxRecDepth 100000 in
theorem k_clear {l : Launch} {D : va_G} {ids : List Nat} {ad : Nat → Nat} {ca : Nat → ClassId} {σ : HS} (hid : ∀ i, i < 277 → i ∈ ids) : Kv l D ids ad ca yX10_clear cX10_clear 2 1 21 [.ref (ad 43)] σ (fun σ1 => only [43, 54, 55] σ σ1 ∧ σ1.1 43 0 = 0 ∧ σ1.1 43 4 = 0) := by
  refine Kv.of (by decide) (Nat.le_of_ble_eq_true rfl) 1 (fun Γ C Rt => ?_)
  show AW ids ad ca Γ 0 [some (.ref (ad 43)), none] [] σ
  refine a_aload_n C dX10_clear_0 (i := 0) rfl rfl ?_
  refine a_iconst C dX10_clear_1 (v := 0) rfl ?_
  refine a_put C fp_RX10_38 (i := 43) kd_43 (hid 43 (by decide)) rfl rfl dX10_clear_2 ?_
  refine a_aload_n C dX10_clear_5 (i := 0) rfl rfl ?_
  refine a_iconst C dX10_clear_6 (v := 0) rfl ?_
  refine a_put C fp_RX10_42 (i := 43) kd_43 (hid 43 (by decide)) rfl rfl dX10_clear_7 ?_
  refine a_aload_n C dX10_clear_10 (i := 0) rfl rfl ?_
  refine a_iconst C dX10_clear_11 (v := 1) rfl ?_
  refine a_put C fp_RX10_45 (i := 43) kd_43 (hid 43 (by decide)) rfl rfl dX10_clear_12 ?_
  refine a_aload_n C dX10_clear_15 (i := 0) rfl rfl ?_
  refine a_iconst C dX10_clear_16 (v := 0) rfl ?_
  refine a_put C fp_RX10_48 (i := 43) kd_43 (hid 43 (by decide)) rfl rfl dX10_clear_17 ?_
  refine a_aload_n C dX10_clear_20 (i := 0) rfl rfl ?_
  refine a_iconst C dX10_clear_21 (v := 0) rfl ?_
  refine a_put C fp_RX10_51 (i := 43) kd_43 (hid 43 (by decide)) rfl rfl dX10_clear_22 ?_
  refine a_iconst C dX10_clear_25 (v := 0) rfl ?_
  refine a_istore_n C dX10_clear_26 (i := 1) rfl (by decide) rfl (vs1 := [some (.ref (ad 43)), some (.int 0)]) rfl ?_
  refine a_iload_n C dX10_clear_27 (i := 1) rfl rfl ?_
  refine a_iconst C dX10_clear_28 (v := 4) rfl ?_
  refine a_ic_ge C dX10_clear_29 (tgt := 69) rfl (fun h => absurd h (by decide)) (fun _ => ?_)
  refine a_aload_n C dX10_clear_32 (i := 0) rfl rfl ?_
  refine a_get C fl_RX10_32 (i := 43) kd_43 (hid 43 (by decide)) (v := .ref (ad 55)) rfl dX10_clear_33 ?_
  refine a_iload_n C dX10_clear_36 (i := 1) rfl rfl ?_
  refine a_aload_n C dX10_clear_37 (i := 0) rfl rfl ?_
  refine a_get C fl_RX10_51 (i := 43) kd_43 (hid 43 (by decide)) (v := .int 0) rfl dX10_clear_38 ?_
  refine a_iast C (i := 55) 0 kd_55 (hid 55 (by decide)) (by decide) rfl (by rw [al_55]; decide) dX10_clear_41 ?_
  refine a_aload_n C dX10_clear_42 (i := 0) rfl rfl ?_
  refine a_iload_n C dX10_clear_43 (i := 1) rfl rfl ?_
  refine a_iconst C dX10_clear_44 (v := 2) rfl ?_
  refine a_ic_ne C dX10_clear_45 (tgt := 53) rfl (fun _ => ?_) (fun h => absurd h (by decide))
  refine a_iconst C dX10_clear_53 (v := 0) rfl ?_
  refine a_callVv C (i := 43) kd_43 (hid 43 (by decide)) ⟨_, _, rfl⟩ (by decide) (k_emit_0 hid rfl) mi_X10_emit ml_RX10_54 rfl rfl (Nat.le_of_ble_eq_true rfl) (Nat.le_of_ble_eq_true rfl) (Nat.le_of_ble_eq_true rfl) dX10_clear_54 (fun σ2 q3 => ?_)
  subst q3
  refine a_aload_n C dX10_clear_57 (i := 0) rfl rfl ?_
  refine a_bipush C dX10_clear_58 (v := (-6)) rfl ?_
  refine a_callVv C (i := 43) kd_43 (hid 43 (by decide)) ⟨_, _, rfl⟩ (by decide) (k_emit_1 hid rfl) mi_X10_emit ml_RX10_54 rfl rfl (Nat.le_of_ble_eq_true rfl) (Nat.le_of_ble_eq_true rfl) (Nat.le_of_ble_eq_true rfl) dX10_clear_60 (fun σ5 q6 => ?_)
  subst q6
  refine a_iinc C dX10_clear_63 rfl (v := 1) rfl (by decide) rfl (vs1 := [some (.ref (ad 43)), some (.int 1)]) rfl ?_
  refine a_goto C dX10_clear_66 (tgt := 27) rfl ?_
  refine a_iload_n C dX10_clear_27 (i := 1) rfl rfl ?_
  refine a_iconst C dX10_clear_28 (v := 4) rfl ?_
  refine a_ic_ge C dX10_clear_29 (tgt := 69) rfl (fun h => absurd h (by decide)) (fun _ => ?_)
  refine a_aload_n C dX10_clear_32 (i := 0) rfl rfl ?_
  refine a_get C fl_RX10_32 (i := 43) kd_43 (hid 43 (by decide)) (v := .ref (ad 55)) rfl dX10_clear_33 ?_
  refine a_iload_n C dX10_clear_36 (i := 1) rfl rfl ?_
  refine a_aload_n C dX10_clear_37 (i := 0) rfl rfl ?_
  refine a_get C fl_RX10_51 (i := 43) kd_43 (hid 43 (by decide)) (v := .int 2) rfl dX10_clear_38 ?_
  refine a_iast C (i := 55) 1 kd_55 (hid 55 (by decide)) (by decide) rfl (by rw [al_55]; decide) dX10_clear_41 ?_
  refine a_aload_n C dX10_clear_42 (i := 0) rfl rfl ?_
  refine a_iload_n C dX10_clear_43 (i := 1) rfl rfl ?_
  refine a_iconst C dX10_clear_44 (v := 2) rfl ?_
  refine a_ic_ne C dX10_clear_45 (tgt := 53) rfl (fun _ => ?_) (fun h => absurd h (by decide))
  refine a_iconst C dX10_clear_53 (v := 0) rfl ?_
  refine a_callVv C (i := 43) kd_43 (hid 43 (by decide)) ⟨_, _, rfl⟩ (by decide) (k_emit_2 hid rfl) mi_X10_emit ml_RX10_54 rfl rfl (Nat.le_of_ble_eq_true rfl) (Nat.le_of_ble_eq_true rfl) (Nat.le_of_ble_eq_true rfl) dX10_clear_54 (fun σ8 q9 => ?_)
  subst q9
  refine a_aload_n C dX10_clear_57 (i := 0) rfl rfl ?_
  refine a_bipush C dX10_clear_58 (v := (-6)) rfl ?_
  refine a_callVv C (i := 43) kd_43 (hid 43 (by decide)) ⟨_, _, rfl⟩ (by decide) (k_emit_3 hid rfl) mi_X10_emit ml_RX10_54 rfl rfl (Nat.le_of_ble_eq_true rfl) (Nat.le_of_ble_eq_true rfl) (Nat.le_of_ble_eq_true rfl) dX10_clear_60 (fun σ11 q12 => ?_)
  subst q12
  refine a_iinc C dX10_clear_63 rfl (v := 2) rfl (by decide) rfl (vs1 := [some (.ref (ad 43)), some (.int 2)]) rfl ?_
  refine a_goto C dX10_clear_66 (tgt := 27) rfl ?_
  refine a_iload_n C dX10_clear_27 (i := 1) rfl rfl ?_
  refine a_iconst C dX10_clear_28 (v := 4) rfl ?_
  refine a_ic_ge C dX10_clear_29 (tgt := 69) rfl (fun h => absurd h (by decide)) (fun _ => ?_)
  refine a_aload_n C dX10_clear_32 (i := 0) rfl rfl ?_
  refine a_get C fl_RX10_32 (i := 43) kd_43 (hid 43 (by decide)) (v := .ref (ad 55)) rfl dX10_clear_33 ?_
  refine a_iload_n C dX10_clear_36 (i := 1) rfl rfl ?_
  refine a_aload_n C dX10_clear_37 (i := 0) rfl rfl ?_
  refine a_get C fl_RX10_51 (i := 43) kd_43 (hid 43 (by decide)) (v := .int 4) rfl dX10_clear_38 ?_
  refine a_iast C (i := 55) 2 kd_55 (hid 55 (by decide)) (by decide) rfl (by rw [al_55]; decide) dX10_clear_41 ?_
  refine a_aload_n C dX10_clear_42 (i := 0) rfl rfl ?_
  refine a_iload_n C dX10_clear_43 (i := 1) rfl rfl ?_
  refine a_iconst C dX10_clear_44 (v := 2) rfl ?_
  refine a_ic_ne C dX10_clear_45 (tgt := 53) rfl (fun h => absurd h (by decide)) (fun _ => ?_)
  refine a_bipush C dX10_clear_48 (v := (-11)) rfl ?_
  refine a_goto C dX10_clear_50 (tgt := 54) rfl ?_
  refine a_callVv C (i := 43) kd_43 (hid 43 (by decide)) ⟨_, _, rfl⟩ (by decide) (k_emit_4 hid rfl) mi_X10_emit ml_RX10_54 rfl rfl (Nat.le_of_ble_eq_true rfl) (Nat.le_of_ble_eq_true rfl) (Nat.le_of_ble_eq_true rfl) dX10_clear_54 (fun σ14 q15 => ?_)
  subst q15
  refine a_aload_n C dX10_clear_57 (i := 0) rfl rfl ?_
  refine a_bipush C dX10_clear_58 (v := (-6)) rfl ?_
  refine a_callVv C (i := 43) kd_43 (hid 43 (by decide)) ⟨_, _, rfl⟩ (by decide) (k_emit_5 hid rfl) mi_X10_emit ml_RX10_54 rfl rfl (Nat.le_of_ble_eq_true rfl) (Nat.le_of_ble_eq_true rfl) (Nat.le_of_ble_eq_true rfl) dX10_clear_60 (fun σ17 q18 => ?_)
  subst q18
  refine a_iinc C dX10_clear_63 rfl (v := 3) rfl (by decide) rfl (vs1 := [some (.ref (ad 43)), some (.int 3)]) rfl ?_
  refine a_goto C dX10_clear_66 (tgt := 27) rfl ?_
  refine a_iload_n C dX10_clear_27 (i := 1) rfl rfl ?_
  refine a_iconst C dX10_clear_28 (v := 4) rfl ?_
  refine a_ic_ge C dX10_clear_29 (tgt := 69) rfl (fun h => absurd h (by decide)) (fun _ => ?_)
  refine a_aload_n C dX10_clear_32 (i := 0) rfl rfl ?_
  refine a_get C fl_RX10_32 (i := 43) kd_43 (hid 43 (by decide)) (v := .ref (ad 55)) rfl dX10_clear_33 ?_
  refine a_iload_n C dX10_clear_36 (i := 1) rfl rfl ?_
  refine a_aload_n C dX10_clear_37 (i := 0) rfl rfl ?_
  refine a_get C fl_RX10_51 (i := 43) kd_43 (hid 43 (by decide)) (v := .int 6) rfl dX10_clear_38 ?_
  refine a_iast C (i := 55) 3 kd_55 (hid 55 (by decide)) (by decide) rfl (by rw [al_55]; decide) dX10_clear_41 ?_
  refine a_aload_n C dX10_clear_42 (i := 0) rfl rfl ?_
  refine a_iload_n C dX10_clear_43 (i := 1) rfl rfl ?_
  refine a_iconst C dX10_clear_44 (v := 2) rfl ?_
  refine a_ic_ne C dX10_clear_45 (tgt := 53) rfl (fun _ => ?_) (fun h => absurd h (by decide))
  refine a_iconst C dX10_clear_53 (v := 0) rfl ?_
  refine a_callVv C (i := 43) kd_43 (hid 43 (by decide)) ⟨_, _, rfl⟩ (by decide) (k_emit_6 hid rfl) mi_X10_emit ml_RX10_54 rfl rfl (Nat.le_of_ble_eq_true rfl) (Nat.le_of_ble_eq_true rfl) (Nat.le_of_ble_eq_true rfl) dX10_clear_54 (fun σ20 q21 => ?_)
  subst q21
  refine a_aload_n C dX10_clear_57 (i := 0) rfl rfl ?_
  refine a_bipush C dX10_clear_58 (v := (-6)) rfl ?_
  refine a_callVv C (i := 43) kd_43 (hid 43 (by decide)) ⟨_, _, rfl⟩ (by decide) (k_emit_7 hid rfl) mi_X10_emit ml_RX10_54 rfl rfl (Nat.le_of_ble_eq_true rfl) (Nat.le_of_ble_eq_true rfl) (Nat.le_of_ble_eq_true rfl) dX10_clear_60 (fun σ23 q24 => ?_)
  subst q24
  refine a_iinc C dX10_clear_63 rfl (v := 4) rfl (by decide) rfl (vs1 := [some (.ref (ad 43)), some (.int 4)]) rfl ?_
  refine a_goto C dX10_clear_66 (tgt := 27) rfl ?_
  refine a_iload_n C dX10_clear_27 (i := 1) rfl rfl ?_
  refine a_iconst C dX10_clear_28 (v := 4) rfl ?_
  refine a_ic_ge C dX10_clear_29 (tgt := 69) rfl (fun _ => ?_) (fun h => absurd h (by decide))
  exact a_vret Rt dX10_clear_69 (⟨(only.I (only.I (only.I (only.I (only.I (only.I (only.I (only.I (only.I (only.I (only.I (only.I (only.I (only.I (only.I (only.I (only.I (only.I (only.I (only.I (only.I (only.I (only.I (only.I (only.I only.rf (by decide)) (by decide)) (by decide)) (by decide)) (by decide)) (by decide)) (by decide)) (by decide)) (by decide)) (by decide)) (by decide)) (by decide)) (by decide)) (by decide)) (by decide)) (by decide)) (by decide)) (by decide)) (by decide)) (by decide)) (by decide)) (by decide)) (by decide)) (by decide)) (by decide)), rfl, rfl⟩)
theorem dX9_cutOne_0 : decode cX9_cutOne 0 = .ok (.aload_n 0, 1) := by decide +kernel
theorem dX9_cutOne_1 : decode cX9_cutOne 1 = .ok (.getfield 29, 3) := by decide +kernel
theorem dX9_cutOne_4 : decode cX9_cutOne 4 = .ok (.aload_n 0, 1) := by decide +kernel
theorem dX9_cutOne_5 : decode cX9_cutOne 5 = .ok (.getfield 25, 3) := by decide +kernel
theorem dX9_cutOne_8 : decode cX9_cutOne 8 = .ok (.if_icmp .lt 6, 3) := by decide +kernel
theorem dX9_cutOne_11 : decode cX9_cutOne 11 = .ok (.bipush 22, 2) := by decide +kernel
theorem dX9_cutOne_13 : decode cX9_cutOne 13 = .ok (.ireturn, 1) := by decide +kernel
set_option maxHeartbeats 4000000 in
set_option maxRecDepth 100000 in
theorem k_cutOne {l : Launch} {D : va_G} {ids : List Nat} {ad : Nat → Nat} {ca : Nat → ClassId} {σ : HS} (hid : ∀ i, i < 277 → i ∈ ids) (h_2_1 : σ.1 2 1 = 0) (h_2_5 : σ.1 2 5 = 0) : Ki l D ids ad ca yX9_cutOne cX9_cutOne 3 .int 0 0 [.ref (ad 2), .int 0] σ (fun r σ1 => r = 22 ∧ σ1 = σ) := by
  refine Ki.of (by decide) (Nat.le_of_ble_eq_true rfl) 1 (fun Γ C Rt => ?_)
  show AW ids ad ca Γ 0 [some (.ref (ad 2)), some (.int 0), none] [] σ
  refine a_aload_n C dX9_cutOne_0 (i := 0) rfl rfl ?_
  refine a_get C fl_RX9_29 (i := 2) kd_2 (hid 2 (by decide)) (v := .int 0) (congrArg (fun z => some (Value.int z)) h_2_5) dX9_cutOne_1 ?_
  refine a_aload_n C dX9_cutOne_4 (i := 0) rfl rfl ?_
  refine a_get C fl_RX9_25 (i := 2) kd_2 (hid 2 (by decide)) (v := .int 0) (congrArg (fun z => some (Value.int z)) h_2_1) dX9_cutOne_5 ?_
  refine a_ic_lt C dX9_cutOne_8 (tgt := 14) rfl (fun h => absurd h (by decide)) (fun _ => ?_)
  refine a_bipush C dX9_cutOne_11 (v := 22) rfl ?_
  exact a_iret Rt dX9_cutOne_13 rfl (⟨rfl, rfl⟩)
theorem dX9_cut_0 : decode cX9_cut 0 = .ok (.aload_n 0, 1) := by decide +kernel
theorem dX9_cut_1 : decode cX9_cut 1 = .ok (.iconst 0, 1) := by decide +kernel
theorem dX9_cut_2 : decode cX9_cut 2 = .ok (.putfield 29, 3) := by decide +kernel
theorem dX9_cut_5 : decode cX9_cut 5 = .ok (.iconst (-1), 1) := by decide +kernel
theorem dX9_cut_6 : decode cX9_cut 6 = .ok (.istore_n 1, 1) := by decide +kernel
theorem dX9_cut_7 : decode cX9_cut 7 = .ok (.iconst 0, 1) := by decide +kernel
theorem dX9_cut_8 : decode cX9_cut 8 = .ok (.istore_n 2, 1) := by decide +kernel
theorem dX9_cut_9 : decode cX9_cut 9 = .ok (.iload_n 2, 1) := by decide +kernel
theorem dX9_cut_10 : decode cX9_cut 10 = .ok (.sipush 400, 3) := by decide +kernel
theorem dX9_cut_13 : decode cX9_cut 13 = .ok (.if_icmp .gt 83, 3) := by decide +kernel
theorem dX9_cut_16 : decode cX9_cut 16 = .ok (.iload_n 1, 1) := by decide +kernel
theorem dX9_cut_17 : decode cX9_cut 17 = .ok (.bipush 22, 2) := by decide +kernel
theorem dX9_cut_19 : decode cX9_cut 19 = .ok (.if_icmp .eq 77, 3) := by decide +kernel
theorem dX9_cut_22 : decode cX9_cut 22 = .ok (.iload_n 1, 1) := by decide +kernel
theorem dX9_cut_23 : decode cX9_cut 23 = .ok (.bipush 23, 2) := by decide +kernel
theorem dX9_cut_25 : decode cX9_cut 25 = .ok (.if_icmp .eq 71, 3) := by decide +kernel
theorem dX9_cut_28 : decode cX9_cut 28 = .ok (.aload_n 0, 1) := by decide +kernel
theorem dX9_cut_29 : decode cX9_cut 29 = .ok (.getfield 29, 3) := by decide +kernel
theorem dX9_cut_32 : decode cX9_cut 32 = .ok (.aload_n 0, 1) := by decide +kernel
theorem dX9_cut_33 : decode cX9_cut 33 = .ok (.getfield 25, 3) := by decide +kernel
theorem dX9_cut_36 : decode cX9_cut 36 = .ok (.if_icmp .ge 31, 3) := by decide +kernel
theorem dX9_cut_67 : decode cX9_cut 67 = .ok (.aload_n 0, 1) := by decide +kernel
theorem dX9_cut_68 : decode cX9_cut 68 = .ok (.getfield 18, 3) := by decide +kernel
theorem dX9_cut_71 : decode cX9_cut 71 = .ok (.iload_n 2, 1) := by decide +kernel
theorem dX9_cut_72 : decode cX9_cut 72 = .ok (.aload_n 0, 1) := by decide +kernel
theorem dX9_cut_73 : decode cX9_cut 73 = .ok (.getfield 29, 3) := by decide +kernel
theorem dX9_cut_76 : decode cX9_cut 76 = .ok (.iastore, 1) := by decide +kernel
theorem dX9_cut_77 : decode cX9_cut 77 = .ok (.aload_n 0, 1) := by decide +kernel
theorem dX9_cut_78 : decode cX9_cut 78 = .ok (.iload_n 2, 1) := by decide +kernel
theorem dX9_cut_79 : decode cX9_cut 79 = .ok (.invokevirtual 36, 3) := by decide +kernel
theorem dX9_cut_82 : decode cX9_cut 82 = .ok (.istore_n 1, 1) := by decide +kernel
theorem dX9_cut_83 : decode cX9_cut 83 = .ok (.aload_n 0, 1) := by decide +kernel
theorem dX9_cut_84 : decode cX9_cut 84 = .ok (.getfield 15, 3) := by decide +kernel
theorem dX9_cut_87 : decode cX9_cut 87 = .ok (.iload_n 2, 1) := by decide +kernel
theorem dX9_cut_88 : decode cX9_cut 88 = .ok (.iload_n 1, 1) := by decide +kernel
theorem dX9_cut_89 : decode cX9_cut 89 = .ok (.iastore, 1) := by decide +kernel
theorem dX9_cut_90 : decode cX9_cut 90 = .ok (.iinc 2 1, 3) := by decide +kernel
theorem dX9_cut_93 : decode cX9_cut 93 = .ok (.goto (-84), 3) := by decide +kernel
theorem dX9_cut_96 : decode cX9_cut 96 = .ok (.return_, 1) := by decide +kernel
set_option maxHeartbeats 4000000 in
set_option maxRecDepth 100000 in
theorem k_cut {l : Launch} {D : va_G} {ids : List Nat} {ad : Nat → Nat} {ca : Nat → ClassId} {σ : HS} (hid : ∀ i, i < 277 → i ∈ ids) (h_2_1 : σ.1 2 1 = 0) : Kv l D ids ad ca yX9_cut cX9_cut 3 1 22 [.ref (ad 2)] σ (fun σ1 => only [2, 4, 5] σ σ1 ∧ σ1.1 4 0 = 22) := by
  refine Kv.of (by decide) (Nat.le_of_ble_eq_true rfl) 2 (fun Γ C Rt => ?_)
  show AW ids ad ca Γ 0 [some (.ref (ad 2)), none, none] [] σ
  refine a_aload_n C dX9_cut_0 (i := 0) rfl rfl ?_
  refine a_iconst C dX9_cut_1 (v := 0) rfl ?_
  refine a_put C fp_RX9_29 (i := 2) kd_2 (hid 2 (by decide)) rfl rfl dX9_cut_2 ?_
  refine a_iconst C dX9_cut_5 (v := (-1)) rfl ?_
  refine a_istore_n C dX9_cut_6 (i := 1) rfl (by decide) rfl (vs1 := [some (.ref (ad 2)), some (.int (-1)), none]) rfl ?_
  refine a_iconst C dX9_cut_7 (v := 0) rfl ?_
  refine a_istore_n C dX9_cut_8 (i := 2) rfl (by decide) rfl (vs1 := [some (.ref (ad 2)), some (.int (-1)), some (.int 0)]) rfl ?_
  refine a_iload_n C dX9_cut_9 (i := 2) rfl rfl ?_
  refine a_sipush C dX9_cut_10 (v := 400) rfl ?_
  refine a_ic_gt C dX9_cut_13 (tgt := 96) rfl (fun h => absurd h (by decide)) (fun _ => ?_)
  refine a_iload_n C dX9_cut_16 (i := 1) rfl rfl ?_
  refine a_bipush C dX9_cut_17 (v := 22) rfl ?_
  refine a_ic_eq C dX9_cut_19 (tgt := 96) rfl (fun h => absurd h (by decide)) (fun _ => ?_)
  refine a_iload_n C dX9_cut_22 (i := 1) rfl rfl ?_
  refine a_bipush C dX9_cut_23 (v := 23) rfl ?_
  refine a_ic_eq C dX9_cut_25 (tgt := 96) rfl (fun h => absurd h (by decide)) (fun _ => ?_)
  refine a_aload_n C dX9_cut_28 (i := 0) rfl rfl ?_
  refine a_get C fl_RX9_29 (i := 2) kd_2 (hid 2 (by decide)) (v := .int 0) rfl dX9_cut_29 ?_
  refine a_aload_n C dX9_cut_32 (i := 0) rfl rfl ?_
  refine a_get C fl_RX9_25 (i := 2) kd_2 (hid 2 (by decide)) (v := .int 0) (congrArg (fun z => some (Value.int z)) h_2_1) dX9_cut_33 ?_
  refine a_ic_ge C dX9_cut_36 (tgt := 67) rfl (fun _ => ?_) (fun h => absurd h (by decide))
  refine a_aload_n C dX9_cut_67 (i := 0) rfl rfl ?_
  refine a_get C fl_RX9_18 (i := 2) kd_2 (hid 2 (by decide)) (v := .ref (ad 5)) rfl dX9_cut_68 ?_
  refine a_iload_n C dX9_cut_71 (i := 2) rfl rfl ?_
  refine a_aload_n C dX9_cut_72 (i := 0) rfl rfl ?_
  refine a_get C fl_RX9_29 (i := 2) kd_2 (hid 2 (by decide)) (v := .int 0) rfl dX9_cut_73 ?_
  refine a_iast C (i := 5) 0 kd_5 (hid 5 (by decide)) (by decide) rfl (by rw [al_5]; decide) dX9_cut_76 ?_
  refine a_aload_n C dX9_cut_77 (i := 0) rfl rfl ?_
  refine a_iload_n C dX9_cut_78 (i := 2) rfl rfl ?_
  refine a_callVi C (i := 2) kd_2 (hid 2 (by decide)) ⟨_, _, rfl⟩ (by decide) (k_cutOne hid h_2_1 rfl) mi_X9_cutOne ml_RX9_36 rfl rfl (Nat.le_of_ble_eq_true rfl) (Nat.le_of_ble_eq_true rfl) (Nat.le_of_ble_eq_true rfl) dX9_cut_79 (fun r1 σ2 q3 => ?_)
  obtain ⟨rfl, q3⟩ := q3
  rw [q3]
  refine a_istore_n C dX9_cut_82 (i := 1) rfl (by decide) rfl (vs1 := [some (.ref (ad 2)), some (.int 22), some (.int 0)]) rfl ?_
  refine a_aload_n C dX9_cut_83 (i := 0) rfl rfl ?_
  refine a_get C fl_RX9_15 (i := 2) kd_2 (hid 2 (by decide)) (v := .ref (ad 4)) rfl dX9_cut_84 ?_
  refine a_iload_n C dX9_cut_87 (i := 2) rfl rfl ?_
  refine a_iload_n C dX9_cut_88 (i := 1) rfl rfl ?_
  refine a_iast C (i := 4) 0 kd_4 (hid 4 (by decide)) (by decide) rfl (by rw [al_4]; decide) dX9_cut_89 ?_
  refine a_iinc C dX9_cut_90 rfl (v := 1) rfl (by decide) rfl (vs1 := [some (.ref (ad 2)), some (.int 22), some (.int 1)]) rfl ?_
  refine a_goto C dX9_cut_93 (tgt := 9) rfl ?_
  refine a_iload_n C dX9_cut_9 (i := 2) rfl rfl ?_
  refine a_sipush C dX9_cut_10 (v := 400) rfl ?_
  refine a_ic_gt C dX9_cut_13 (tgt := 96) rfl (fun h => absurd h (by decide)) (fun _ => ?_)
  refine a_iload_n C dX9_cut_16 (i := 1) rfl rfl ?_
  refine a_bipush C dX9_cut_17 (v := 22) rfl ?_
  refine a_ic_eq C dX9_cut_19 (tgt := 96) rfl (fun _ => ?_) (fun h => absurd h (by decide))
  exact a_vret Rt dX9_cut_96 (⟨(only.I (only.I (only.I only.rf (by decide)) (by decide)) (by decide)), rfl⟩)
theorem dX6_readInto_0 : decode cX6_readInto 0 = .ok (.aload_n 1, 1) := by decide +kernel
theorem dX6_readInto_1 : decode cX6_readInto 1 = .ok (.invokevirtual 26, 3) := by decide +kernel
theorem dX6_readInto_4 : decode cX6_readInto 4 = .ok (.aload_n 0, 1) := by decide +kernel
theorem dX6_readInto_5 : decode cX6_readInto 5 = .ok (.iconst 0, 1) := by decide +kernel
theorem dX6_readInto_6 : decode cX6_readInto 6 = .ok (.putfield 31, 3) := by decide +kernel
theorem dX6_readInto_9 : decode cX6_readInto 9 = .ok (.aload_n 0, 1) := by decide +kernel
theorem dX6_readInto_10 : decode cX6_readInto 10 = .ok (.iconst 0, 1) := by decide +kernel
theorem dX6_readInto_11 : decode cX6_readInto 11 = .ok (.putfield 34, 3) := by decide +kernel
theorem dX6_readInto_14 : decode cX6_readInto 14 = .ok (.aload_n 0, 1) := by decide +kernel
theorem dX6_readInto_15 : decode cX6_readInto 15 = .ok (.iconst (-1), 1) := by decide +kernel
theorem dX6_readInto_16 : decode cX6_readInto 16 = .ok (.putfield 18, 3) := by decide +kernel
theorem dX6_readInto_19 : decode cX6_readInto 19 = .ok (.aload_n 0, 1) := by decide +kernel
theorem dX6_readInto_20 : decode cX6_readInto 20 = .ok (.iconst 0, 1) := by decide +kernel
theorem dX6_readInto_21 : decode cX6_readInto 21 = .ok (.putfield 37, 3) := by decide +kernel
theorem dX6_readInto_24 : decode cX6_readInto 24 = .ok (.aload_n 0, 1) := by decide +kernel
theorem dX6_readInto_25 : decode cX6_readInto 25 = .ok (.iconst (-1), 1) := by decide +kernel
theorem dX6_readInto_26 : decode cX6_readInto 26 = .ok (.putfield 40, 3) := by decide +kernel
theorem dX6_readInto_29 : decode cX6_readInto 29 = .ok (.aload_n 0, 1) := by decide +kernel
theorem dX6_readInto_30 : decode cX6_readInto 30 = .ok (.getfield 12, 3) := by decide +kernel
theorem dX6_readInto_33 : decode cX6_readInto 33 = .ok (.invokevirtual 43, 3) := by decide +kernel
theorem dX6_readInto_36 : decode cX6_readInto 36 = .ok (.aload_n 0, 1) := by decide +kernel
theorem dX6_readInto_37 : decode cX6_readInto 37 = .ok (.iconst 0, 1) := by decide +kernel
theorem dX6_readInto_38 : decode cX6_readInto 38 = .ok (.putfield 46, 3) := by decide +kernel
theorem dX6_readInto_41 : decode cX6_readInto 41 = .ok (.aload_n 0, 1) := by decide +kernel
theorem dX6_readInto_42 : decode cX6_readInto 42 = .ok (.aload_n 0, 1) := by decide +kernel
theorem dX6_readInto_43 : decode cX6_readInto 43 = .ok (.getfield 12, 3) := by decide +kernel
theorem dX6_readInto_46 : decode cX6_readInto 46 = .ok (.getfield 49, 3) := by decide +kernel
theorem dX6_readInto_49 : decode cX6_readInto 49 = .ok (.iconst 0, 1) := by decide +kernel
theorem dX6_readInto_50 : decode cX6_readInto 50 = .ok (.iaload, 1) := by decide +kernel
theorem dX6_readInto_51 : decode cX6_readInto 51 = .ok (.putfield 53, 3) := by decide +kernel
theorem dX6_readInto_54 : decode cX6_readInto 54 = .ok (.iconst 1, 1) := by decide +kernel
theorem dX6_readInto_55 : decode cX6_readInto 55 = .ok (.istore_n 2, 1) := by decide +kernel
theorem dX6_readInto_56 : decode cX6_readInto 56 = .ok (.iconst 0, 1) := by decide +kernel
theorem dX6_readInto_57 : decode cX6_readInto 57 = .ok (.istore_n 3, 1) := by decide +kernel
theorem dX6_readInto_58 : decode cX6_readInto 58 = .ok (.iload_n 2, 1) := by decide +kernel
theorem dX6_readInto_59 : decode cX6_readInto 59 = .ok (.ifCond .eq 31, 3) := by decide +kernel
theorem dX6_readInto_62 : decode cX6_readInto 62 = .ok (.aload_n 0, 1) := by decide +kernel
theorem dX6_readInto_63 : decode cX6_readInto 63 = .ok (.getfield 53, 3) := by decide +kernel
theorem dX6_readInto_66 : decode cX6_readInto 66 = .ok (.bipush 22, 2) := by decide +kernel
theorem dX6_readInto_68 : decode cX6_readInto 68 = .ok (.if_icmp .eq 22, 3) := by decide +kernel
theorem dX6_readInto_90 : decode cX6_readInto 90 = .ok (.aload_n 0, 1) := by decide +kernel
theorem dX6_readInto_91 : decode cX6_readInto 91 = .ok (.getfield 34, 3) := by decide +kernel
theorem dX6_readInto_94 : decode cX6_readInto 94 = .ok (.ifCond .ne 26, 3) := by decide +kernel
theorem dX6_readInto_97 : decode cX6_readInto 97 = .ok (.aload_n 0, 1) := by decide +kernel
theorem dX6_readInto_98 : decode cX6_readInto 98 = .ok (.getfield 37, 3) := by decide +kernel
theorem dX6_readInto_101 : decode cX6_readInto 101 = .ok (.ifCond .eq 19, 3) := by decide +kernel
theorem dX6_readInto_120 : decode cX6_readInto 120 = .ok (.aload_n 0, 1) := by decide +kernel
theorem dX6_readInto_121 : decode cX6_readInto 121 = .ok (.getfield 34, 3) := by decide +kernel
theorem dX6_readInto_124 : decode cX6_readInto 124 = .ok (.ireturn, 1) := by decide +kernel
set_option maxHeartbeats 4000000 in
set_option maxRecDepth 100000 in
theorem k_readInto {l : Launch} {D : va_G} {ids : List Nat} {ad : Nat → Nat} {ca : Nat → ClassId} {σ : HS} (hid : ∀ i, i < 277 → i ∈ ids) (h_2_1 : σ.1 2 1 = 0) : Ki l D ids ad ca yX6_readInto cX6_readInto 4 .int 2 44 [.ref (ad 1), .ref (ad 43)] σ (fun r σ1 => r = 0 ∧ only [1, 2, 4, 5, 43, 54, 55] σ σ1 ∧ σ1.1 43 0 = 0 ∧ σ1.1 43 4 = 0) := by
  refine Ki.of (by decide) (Nat.le_of_ble_eq_true rfl) 2 (fun Γ C Rt => ?_)
  show AW ids ad ca Γ 0 [some (.ref (ad 1)), some (.ref (ad 43)), none, none] [] σ
  refine a_aload_n C dX6_readInto_0 (i := 1) rfl rfl ?_
  refine a_callVv C (i := 43) kd_43 (hid 43 (by decide)) ⟨_, _, rfl⟩ (by decide) (k_clear hid) mi_X10_clear ml_RX6_26 rfl rfl (Nat.le_of_ble_eq_true rfl) (Nat.le_of_ble_eq_true rfl) (Nat.le_of_ble_eq_true rfl) dX6_readInto_1 (fun σ2 q3 => ?_)
  refine a_aload_n C dX6_readInto_4 (i := 0) rfl rfl ?_
  refine a_iconst C dX6_readInto_5 (v := 0) rfl ?_
  refine a_put C fp_RX6_31 (i := 1) kd_1 (hid 1 (by decide)) rfl rfl dX6_readInto_6 ?_
  refine a_aload_n C dX6_readInto_9 (i := 0) rfl rfl ?_
  refine a_iconst C dX6_readInto_10 (v := 0) rfl ?_
  refine a_put C fp_RX6_34 (i := 1) kd_1 (hid 1 (by decide)) rfl rfl dX6_readInto_11 ?_
  refine a_aload_n C dX6_readInto_14 (i := 0) rfl rfl ?_
  refine a_iconst C dX6_readInto_15 (v := (-1)) rfl ?_
  refine a_put C fp_RX6_18 (i := 1) kd_1 (hid 1 (by decide)) rfl rfl dX6_readInto_16 ?_
  refine a_aload_n C dX6_readInto_19 (i := 0) rfl rfl ?_
  refine a_iconst C dX6_readInto_20 (v := 0) rfl ?_
  refine a_put C fp_RX6_37 (i := 1) kd_1 (hid 1 (by decide)) rfl rfl dX6_readInto_21 ?_
  refine a_aload_n C dX6_readInto_24 (i := 0) rfl rfl ?_
  refine a_iconst C dX6_readInto_25 (v := (-1)) rfl ?_
  refine a_put C fp_RX6_40 (i := 1) kd_1 (hid 1 (by decide)) rfl rfl dX6_readInto_26 ?_
  refine a_aload_n C dX6_readInto_29 (i := 0) rfl rfl ?_
  refine a_get C fl_RX6_12 (i := 1) kd_1 (hid 1 (by decide)) (v := .ref (ad 2)) rfl dX6_readInto_30 ?_
  refine a_callVv C (i := 2) kd_2 (hid 2 (by decide)) ⟨_, _, rfl⟩ (by decide) (k_cut hid ((congrFun (q3.1.1 2 (by decide)) 1).trans h_2_1)) mi_X9_cut ml_RX6_43 rfl rfl (Nat.le_of_ble_eq_true rfl) (Nat.le_of_ble_eq_true rfl) (Nat.le_of_ble_eq_true rfl) dX6_readInto_33 (fun σ5 q6 => ?_)
  refine a_aload_n C dX6_readInto_36 (i := 0) rfl rfl ?_
  refine a_iconst C dX6_readInto_37 (v := 0) rfl ?_
  refine a_put C fp_RX6_46 (i := 1) kd_1 (hid 1 (by decide)) rfl rfl dX6_readInto_38 ?_
  refine a_aload_n C dX6_readInto_41 (i := 0) rfl rfl ?_
  refine a_aload_n C dX6_readInto_42 (i := 0) rfl rfl ?_
  refine a_get C fl_RX6_12 (i := 1) kd_1 (hid 1 (by decide)) (v := .ref (ad 2)) rfl dX6_readInto_43 ?_
  refine a_get C fl_RX6_49 (i := 2) kd_2 (hid 2 (by decide)) (v := .ref (ad 4)) rfl dX6_readInto_46 ?_
  refine a_iconst C dX6_readInto_49 (v := 0) rfl ?_
  refine a_iald C (i := 4) 0 kd_4 (hid 4 (by decide)) (by decide) rfl (by rw [al_4]; decide) dX6_readInto_50 (v := 22) q6.2 ?_
  refine a_put C fp_RX6_53 (i := 1) kd_1 (hid 1 (by decide)) rfl rfl dX6_readInto_51 ?_
  refine a_iconst C dX6_readInto_54 (v := 1) rfl ?_
  refine a_istore_n C dX6_readInto_55 (i := 2) rfl (by decide) rfl (vs1 := [some (.ref (ad 1)), some (.ref (ad 43)), some (.int 1), none]) rfl ?_
  refine a_iconst C dX6_readInto_56 (v := 0) rfl ?_
  refine a_istore_n C dX6_readInto_57 (i := 3) rfl (by decide) rfl (vs1 := [some (.ref (ad 1)), some (.ref (ad 43)), some (.int 1), some (.int 0)]) rfl ?_
  refine a_iload_n C dX6_readInto_58 (i := 2) rfl rfl ?_
  refine a_if_eq C dX6_readInto_59 (tgt := 90) rfl (fun h => absurd h (by decide)) (fun _ => ?_)
  refine a_aload_n C dX6_readInto_62 (i := 0) rfl rfl ?_
  refine a_get C fl_RX6_53 (i := 1) kd_1 (hid 1 (by decide)) (v := .int 22) rfl dX6_readInto_63 ?_
  refine a_bipush C dX6_readInto_66 (v := 22) rfl ?_
  refine a_ic_eq C dX6_readInto_68 (tgt := 90) rfl (fun _ => ?_) (fun h => absurd h (by decide))
  refine a_aload_n C dX6_readInto_90 (i := 0) rfl rfl ?_
  refine a_get C fl_RX6_34 (i := 1) kd_1 (hid 1 (by decide)) (v := .int 0) (congrArg (fun z => some (Value.int z)) (congrFun (q6.1.1 1 (by decide)) 2)) dX6_readInto_91 ?_
  refine a_if_ne C dX6_readInto_94 (tgt := 120) rfl (fun h => absurd h (by decide)) (fun _ => ?_)
  refine a_aload_n C dX6_readInto_97 (i := 0) rfl rfl ?_
  refine a_get C fl_RX6_37 (i := 1) kd_1 (hid 1 (by decide)) (v := .int 0) (congrArg (fun z => some (Value.int z)) (congrFun (q6.1.1 1 (by decide)) 3)) dX6_readInto_98 ?_
  refine a_if_eq C dX6_readInto_101 (tgt := 120) rfl (fun _ => ?_) (fun h => absurd h (by decide))
  refine a_aload_n C dX6_readInto_120 (i := 0) rfl rfl ?_
  refine a_get C fl_RX6_34 (i := 1) kd_1 (hid 1 (by decide)) (v := .int 0) (congrArg (fun z => some (Value.int z)) (congrFun (q6.1.1 1 (by decide)) 2)) dX6_readInto_121 ?_
  exact a_iret Rt dX6_readInto_124 rfl (⟨rfl, (only.I (only.I (only.tr (only.I (only.I (only.I (only.I (only.I (only.tr only.rf (only.mono q3.1 (by decide))) (by decide)) (by decide)) (by decide)) (by decide)) (by decide)) (only.mono q6.1 (by decide))) (by decide)) (by decide)), ((congrFun (q6.1.1 43 (by decide)) 0).trans q3.2.1), ((congrFun (q6.1.1 43 (by decide)) 4).trans q3.2.2)⟩)
set_option maxHeartbeats 4000000 in
set_option maxRecDepth 100000 in
theorem k_fill_57 {l : Launch} {D : va_G} {ids : List Nat} {ad : Nat → Nat} {ca : Nat → ClassId} {σ : HS} (hid : ∀ i, i < 277 → i ∈ ids) : Kv l D ids ad ca yJ7_fill_53178 cJ7_fill_53178 4 0 0 [.ref (ad 57), .int 0] σ (fun σ1 => only [57] σ σ1) := by
  refine Kv.of (by decide) (Nat.le_of_ble_eq_true rfl) 2 (fun Γ C Rt => ?_)
  show AW ids ad ca Γ 0 [some (.ref (ad 57)), some (.int 0), none, none] [] σ
  refine a_iconst C dJ7_fill_53178_0 (v := 0) rfl ?_
  refine a_istore_n C dJ7_fill_53178_1 (i := 2) rfl (by decide) rfl (vs1 := [some (.ref (ad 57)), some (.int 0), some (.int 0), none]) rfl ?_
  refine a_aload_n C dJ7_fill_53178_2 (i := 0) rfl rfl ?_
  refine a_alen C (by rw [kd_57]; decide) (hid 57 (by decide)) (v := 7) (by rw [al_57]; rfl) dJ7_fill_53178_3 ?_
  refine a_istore_n C dJ7_fill_53178_4 (i := 3) rfl (by decide) rfl (vs1 := [some (.ref (ad 57)), some (.int 0), some (.int 0), some (.int 7)]) rfl ?_
  refine a_iload_n C dJ7_fill_53178_5 (i := 2) rfl rfl ?_
  refine a_iload_n C dJ7_fill_53178_6 (i := 3) rfl rfl ?_
  refine a_ic_ge C dJ7_fill_53178_7 (tgt := 20) rfl (fun h => absurd h (by decide)) (fun _ => ?_)
  refine a_aload_n C dJ7_fill_53178_10 (i := 0) rfl rfl ?_
  refine a_iload_n C dJ7_fill_53178_11 (i := 2) rfl rfl ?_
  refine a_iload_n C dJ7_fill_53178_12 (i := 1) rfl rfl ?_
  refine a_iast C (i := 57) 0 kd_57 (hid 57 (by decide)) (by decide) rfl (by rw [al_57]; decide) dJ7_fill_53178_13 ?_
  refine a_iinc C dJ7_fill_53178_14 rfl (v := 1) rfl (by decide) rfl (vs1 := [some (.ref (ad 57)), some (.int 0), some (.int 1), some (.int 7)]) rfl ?_
  refine a_goto C dJ7_fill_53178_17 (tgt := 5) rfl ?_
  refine a_iload_n C dJ7_fill_53178_5 (i := 2) rfl rfl ?_
  refine a_iload_n C dJ7_fill_53178_6 (i := 3) rfl rfl ?_
  refine a_ic_ge C dJ7_fill_53178_7 (tgt := 20) rfl (fun h => absurd h (by decide)) (fun _ => ?_)
  refine a_aload_n C dJ7_fill_53178_10 (i := 0) rfl rfl ?_
  refine a_iload_n C dJ7_fill_53178_11 (i := 2) rfl rfl ?_
  refine a_iload_n C dJ7_fill_53178_12 (i := 1) rfl rfl ?_
  refine a_iast C (i := 57) 1 kd_57 (hid 57 (by decide)) (by decide) rfl (by rw [al_57]; decide) dJ7_fill_53178_13 ?_
  refine a_iinc C dJ7_fill_53178_14 rfl (v := 2) rfl (by decide) rfl (vs1 := [some (.ref (ad 57)), some (.int 0), some (.int 2), some (.int 7)]) rfl ?_
  refine a_goto C dJ7_fill_53178_17 (tgt := 5) rfl ?_
  refine a_iload_n C dJ7_fill_53178_5 (i := 2) rfl rfl ?_
  refine a_iload_n C dJ7_fill_53178_6 (i := 3) rfl rfl ?_
  refine a_ic_ge C dJ7_fill_53178_7 (tgt := 20) rfl (fun h => absurd h (by decide)) (fun _ => ?_)
  refine a_aload_n C dJ7_fill_53178_10 (i := 0) rfl rfl ?_
  refine a_iload_n C dJ7_fill_53178_11 (i := 2) rfl rfl ?_
  refine a_iload_n C dJ7_fill_53178_12 (i := 1) rfl rfl ?_
  refine a_iast C (i := 57) 2 kd_57 (hid 57 (by decide)) (by decide) rfl (by rw [al_57]; decide) dJ7_fill_53178_13 ?_
  refine a_iinc C dJ7_fill_53178_14 rfl (v := 3) rfl (by decide) rfl (vs1 := [some (.ref (ad 57)), some (.int 0), some (.int 3), some (.int 7)]) rfl ?_
  refine a_goto C dJ7_fill_53178_17 (tgt := 5) rfl ?_
  refine a_iload_n C dJ7_fill_53178_5 (i := 2) rfl rfl ?_
  refine a_iload_n C dJ7_fill_53178_6 (i := 3) rfl rfl ?_
  refine a_ic_ge C dJ7_fill_53178_7 (tgt := 20) rfl (fun h => absurd h (by decide)) (fun _ => ?_)
  refine a_aload_n C dJ7_fill_53178_10 (i := 0) rfl rfl ?_
  refine a_iload_n C dJ7_fill_53178_11 (i := 2) rfl rfl ?_
  refine a_iload_n C dJ7_fill_53178_12 (i := 1) rfl rfl ?_
  refine a_iast C (i := 57) 3 kd_57 (hid 57 (by decide)) (by decide) rfl (by rw [al_57]; decide) dJ7_fill_53178_13 ?_
  refine a_iinc C dJ7_fill_53178_14 rfl (v := 4) rfl (by decide) rfl (vs1 := [some (.ref (ad 57)), some (.int 0), some (.int 4), some (.int 7)]) rfl ?_
  refine a_goto C dJ7_fill_53178_17 (tgt := 5) rfl ?_
  refine a_iload_n C dJ7_fill_53178_5 (i := 2) rfl rfl ?_
  refine a_iload_n C dJ7_fill_53178_6 (i := 3) rfl rfl ?_
  refine a_ic_ge C dJ7_fill_53178_7 (tgt := 20) rfl (fun h => absurd h (by decide)) (fun _ => ?_)
  refine a_aload_n C dJ7_fill_53178_10 (i := 0) rfl rfl ?_
  refine a_iload_n C dJ7_fill_53178_11 (i := 2) rfl rfl ?_
  refine a_iload_n C dJ7_fill_53178_12 (i := 1) rfl rfl ?_
  refine a_iast C (i := 57) 4 kd_57 (hid 57 (by decide)) (by decide) rfl (by rw [al_57]; decide) dJ7_fill_53178_13 ?_
  refine a_iinc C dJ7_fill_53178_14 rfl (v := 5) rfl (by decide) rfl (vs1 := [some (.ref (ad 57)), some (.int 0), some (.int 5), some (.int 7)]) rfl ?_
  refine a_goto C dJ7_fill_53178_17 (tgt := 5) rfl ?_
  refine a_iload_n C dJ7_fill_53178_5 (i := 2) rfl rfl ?_
  refine a_iload_n C dJ7_fill_53178_6 (i := 3) rfl rfl ?_
  refine a_ic_ge C dJ7_fill_53178_7 (tgt := 20) rfl (fun h => absurd h (by decide)) (fun _ => ?_)
  refine a_aload_n C dJ7_fill_53178_10 (i := 0) rfl rfl ?_
  refine a_iload_n C dJ7_fill_53178_11 (i := 2) rfl rfl ?_
  refine a_iload_n C dJ7_fill_53178_12 (i := 1) rfl rfl ?_
  refine a_iast C (i := 57) 5 kd_57 (hid 57 (by decide)) (by decide) rfl (by rw [al_57]; decide) dJ7_fill_53178_13 ?_
  refine a_iinc C dJ7_fill_53178_14 rfl (v := 6) rfl (by decide) rfl (vs1 := [some (.ref (ad 57)), some (.int 0), some (.int 6), some (.int 7)]) rfl ?_
  refine a_goto C dJ7_fill_53178_17 (tgt := 5) rfl ?_
  refine a_iload_n C dJ7_fill_53178_5 (i := 2) rfl rfl ?_
  refine a_iload_n C dJ7_fill_53178_6 (i := 3) rfl rfl ?_
  refine a_ic_ge C dJ7_fill_53178_7 (tgt := 20) rfl (fun h => absurd h (by decide)) (fun _ => ?_)
  refine a_aload_n C dJ7_fill_53178_10 (i := 0) rfl rfl ?_
  refine a_iload_n C dJ7_fill_53178_11 (i := 2) rfl rfl ?_
  refine a_iload_n C dJ7_fill_53178_12 (i := 1) rfl rfl ?_
  refine a_iast C (i := 57) 6 kd_57 (hid 57 (by decide)) (by decide) rfl (by rw [al_57]; decide) dJ7_fill_53178_13 ?_
  refine a_iinc C dJ7_fill_53178_14 rfl (v := 7) rfl (by decide) rfl (vs1 := [some (.ref (ad 57)), some (.int 0), some (.int 7), some (.int 7)]) rfl ?_
  refine a_goto C dJ7_fill_53178_17 (tgt := 5) rfl ?_
  refine a_iload_n C dJ7_fill_53178_5 (i := 2) rfl rfl ?_
  refine a_iload_n C dJ7_fill_53178_6 (i := 3) rfl rfl ?_
  refine a_ic_ge C dJ7_fill_53178_7 (tgt := 20) rfl (fun _ => ?_) (fun h => absurd h (by decide))
  exact a_vret Rt dJ7_fill_53178_20 ((only.I (only.I (only.I (only.I (only.I (only.I (only.I only.rf (by decide)) (by decide)) (by decide)) (by decide)) (by decide)) (by decide)) (by decide)))
set_option maxHeartbeats 4000000 in
set_option maxRecDepth 100000 in
theorem k_fill_59 {l : Launch} {D : va_G} {ids : List Nat} {ad : Nat → Nat} {ca : Nat → ClassId} {σ : HS} (hid : ∀ i, i < 277 → i ∈ ids) : Kv l D ids ad ca yJ7_fill_53178 cJ7_fill_53178 4 0 0 [.ref (ad 59), .int 0] σ (fun σ1 => only [59] σ σ1) := by
  refine Kv.of (by decide) (Nat.le_of_ble_eq_true rfl) 2 (fun Γ C Rt => ?_)
  show AW ids ad ca Γ 0 [some (.ref (ad 59)), some (.int 0), none, none] [] σ
  refine a_iconst C dJ7_fill_53178_0 (v := 0) rfl ?_
  refine a_istore_n C dJ7_fill_53178_1 (i := 2) rfl (by decide) rfl (vs1 := [some (.ref (ad 59)), some (.int 0), some (.int 0), none]) rfl ?_
  refine a_aload_n C dJ7_fill_53178_2 (i := 0) rfl rfl ?_
  refine a_alen C (by rw [kd_59]; decide) (hid 59 (by decide)) (v := 7) (by rw [al_59]; rfl) dJ7_fill_53178_3 ?_
  refine a_istore_n C dJ7_fill_53178_4 (i := 3) rfl (by decide) rfl (vs1 := [some (.ref (ad 59)), some (.int 0), some (.int 0), some (.int 7)]) rfl ?_
  refine a_iload_n C dJ7_fill_53178_5 (i := 2) rfl rfl ?_
  refine a_iload_n C dJ7_fill_53178_6 (i := 3) rfl rfl ?_
  refine a_ic_ge C dJ7_fill_53178_7 (tgt := 20) rfl (fun h => absurd h (by decide)) (fun _ => ?_)
  refine a_aload_n C dJ7_fill_53178_10 (i := 0) rfl rfl ?_
  refine a_iload_n C dJ7_fill_53178_11 (i := 2) rfl rfl ?_
  refine a_iload_n C dJ7_fill_53178_12 (i := 1) rfl rfl ?_
  refine a_iast C (i := 59) 0 kd_59 (hid 59 (by decide)) (by decide) rfl (by rw [al_59]; decide) dJ7_fill_53178_13 ?_
  refine a_iinc C dJ7_fill_53178_14 rfl (v := 1) rfl (by decide) rfl (vs1 := [some (.ref (ad 59)), some (.int 0), some (.int 1), some (.int 7)]) rfl ?_
  refine a_goto C dJ7_fill_53178_17 (tgt := 5) rfl ?_
  refine a_iload_n C dJ7_fill_53178_5 (i := 2) rfl rfl ?_
  refine a_iload_n C dJ7_fill_53178_6 (i := 3) rfl rfl ?_
  refine a_ic_ge C dJ7_fill_53178_7 (tgt := 20) rfl (fun h => absurd h (by decide)) (fun _ => ?_)
  refine a_aload_n C dJ7_fill_53178_10 (i := 0) rfl rfl ?_
  refine a_iload_n C dJ7_fill_53178_11 (i := 2) rfl rfl ?_
  refine a_iload_n C dJ7_fill_53178_12 (i := 1) rfl rfl ?_
  refine a_iast C (i := 59) 1 kd_59 (hid 59 (by decide)) (by decide) rfl (by rw [al_59]; decide) dJ7_fill_53178_13 ?_
  refine a_iinc C dJ7_fill_53178_14 rfl (v := 2) rfl (by decide) rfl (vs1 := [some (.ref (ad 59)), some (.int 0), some (.int 2), some (.int 7)]) rfl ?_
  refine a_goto C dJ7_fill_53178_17 (tgt := 5) rfl ?_
  refine a_iload_n C dJ7_fill_53178_5 (i := 2) rfl rfl ?_
  refine a_iload_n C dJ7_fill_53178_6 (i := 3) rfl rfl ?_
  refine a_ic_ge C dJ7_fill_53178_7 (tgt := 20) rfl (fun h => absurd h (by decide)) (fun _ => ?_)
  refine a_aload_n C dJ7_fill_53178_10 (i := 0) rfl rfl ?_
  refine a_iload_n C dJ7_fill_53178_11 (i := 2) rfl rfl ?_
  refine a_iload_n C dJ7_fill_53178_12 (i := 1) rfl rfl ?_
  refine a_iast C (i := 59) 2 kd_59 (hid 59 (by decide)) (by decide) rfl (by rw [al_59]; decide) dJ7_fill_53178_13 ?_
  refine a_iinc C dJ7_fill_53178_14 rfl (v := 3) rfl (by decide) rfl (vs1 := [some (.ref (ad 59)), some (.int 0), some (.int 3), some (.int 7)]) rfl ?_
  refine a_goto C dJ7_fill_53178_17 (tgt := 5) rfl ?_
  refine a_iload_n C dJ7_fill_53178_5 (i := 2) rfl rfl ?_
  refine a_iload_n C dJ7_fill_53178_6 (i := 3) rfl rfl ?_
  refine a_ic_ge C dJ7_fill_53178_7 (tgt := 20) rfl (fun h => absurd h (by decide)) (fun _ => ?_)
  refine a_aload_n C dJ7_fill_53178_10 (i := 0) rfl rfl ?_
  refine a_iload_n C dJ7_fill_53178_11 (i := 2) rfl rfl ?_
  refine a_iload_n C dJ7_fill_53178_12 (i := 1) rfl rfl ?_
  refine a_iast C (i := 59) 3 kd_59 (hid 59 (by decide)) (by decide) rfl (by rw [al_59]; decide) dJ7_fill_53178_13 ?_
  refine a_iinc C dJ7_fill_53178_14 rfl (v := 4) rfl (by decide) rfl (vs1 := [some (.ref (ad 59)), some (.int 0), some (.int 4), some (.int 7)]) rfl ?_
  refine a_goto C dJ7_fill_53178_17 (tgt := 5) rfl ?_
  refine a_iload_n C dJ7_fill_53178_5 (i := 2) rfl rfl ?_
  refine a_iload_n C dJ7_fill_53178_6 (i := 3) rfl rfl ?_
  refine a_ic_ge C dJ7_fill_53178_7 (tgt := 20) rfl (fun h => absurd h (by decide)) (fun _ => ?_)
  refine a_aload_n C dJ7_fill_53178_10 (i := 0) rfl rfl ?_
  refine a_iload_n C dJ7_fill_53178_11 (i := 2) rfl rfl ?_
  refine a_iload_n C dJ7_fill_53178_12 (i := 1) rfl rfl ?_
  refine a_iast C (i := 59) 4 kd_59 (hid 59 (by decide)) (by decide) rfl (by rw [al_59]; decide) dJ7_fill_53178_13 ?_
  refine a_iinc C dJ7_fill_53178_14 rfl (v := 5) rfl (by decide) rfl (vs1 := [some (.ref (ad 59)), some (.int 0), some (.int 5), some (.int 7)]) rfl ?_
  refine a_goto C dJ7_fill_53178_17 (tgt := 5) rfl ?_
  refine a_iload_n C dJ7_fill_53178_5 (i := 2) rfl rfl ?_
  refine a_iload_n C dJ7_fill_53178_6 (i := 3) rfl rfl ?_
  refine a_ic_ge C dJ7_fill_53178_7 (tgt := 20) rfl (fun h => absurd h (by decide)) (fun _ => ?_)
  refine a_aload_n C dJ7_fill_53178_10 (i := 0) rfl rfl ?_
  refine a_iload_n C dJ7_fill_53178_11 (i := 2) rfl rfl ?_
  refine a_iload_n C dJ7_fill_53178_12 (i := 1) rfl rfl ?_
  refine a_iast C (i := 59) 5 kd_59 (hid 59 (by decide)) (by decide) rfl (by rw [al_59]; decide) dJ7_fill_53178_13 ?_
  refine a_iinc C dJ7_fill_53178_14 rfl (v := 6) rfl (by decide) rfl (vs1 := [some (.ref (ad 59)), some (.int 0), some (.int 6), some (.int 7)]) rfl ?_
  refine a_goto C dJ7_fill_53178_17 (tgt := 5) rfl ?_
  refine a_iload_n C dJ7_fill_53178_5 (i := 2) rfl rfl ?_
  refine a_iload_n C dJ7_fill_53178_6 (i := 3) rfl rfl ?_
  refine a_ic_ge C dJ7_fill_53178_7 (tgt := 20) rfl (fun h => absurd h (by decide)) (fun _ => ?_)
  refine a_aload_n C dJ7_fill_53178_10 (i := 0) rfl rfl ?_
  refine a_iload_n C dJ7_fill_53178_11 (i := 2) rfl rfl ?_
  refine a_iload_n C dJ7_fill_53178_12 (i := 1) rfl rfl ?_
  refine a_iast C (i := 59) 6 kd_59 (hid 59 (by decide)) (by decide) rfl (by rw [al_59]; decide) dJ7_fill_53178_13 ?_
  refine a_iinc C dJ7_fill_53178_14 rfl (v := 7) rfl (by decide) rfl (vs1 := [some (.ref (ad 59)), some (.int 0), some (.int 7), some (.int 7)]) rfl ?_
  refine a_goto C dJ7_fill_53178_17 (tgt := 5) rfl ?_
  refine a_iload_n C dJ7_fill_53178_5 (i := 2) rfl rfl ?_
  refine a_iload_n C dJ7_fill_53178_6 (i := 3) rfl rfl ?_
  refine a_ic_ge C dJ7_fill_53178_7 (tgt := 20) rfl (fun _ => ?_) (fun h => absurd h (by decide))
  exact a_vret Rt dJ7_fill_53178_20 ((only.I (only.I (only.I (only.I (only.I (only.I (only.I only.rf (by decide)) (by decide)) (by decide)) (by decide)) (by decide)) (by decide)) (by decide)))
theorem dX0_begin_0 : decode cX0_begin 0 = .ok (.aload_n 0, 1) := by decide +kernel
theorem dX0_begin_1 : decode cX0_begin 1 = .ok (.aload_n 1, 1) := by decide +kernel
theorem dX0_begin_2 : decode cX0_begin 2 = .ok (.getfield 28, 3) := by decide +kernel
theorem dX0_begin_5 : decode cX0_begin 5 = .ok (.putfield 33, 3) := by decide +kernel
theorem dX0_begin_8 : decode cX0_begin 8 = .ok (.aload_n 0, 1) := by decide +kernel
theorem dX0_begin_9 : decode cX0_begin 9 = .ok (.getfield 9, 3) := by decide +kernel
theorem dX0_begin_12 : decode cX0_begin 12 = .ok (.iconst 0, 1) := by decide +kernel
theorem dX0_begin_13 : decode cX0_begin 13 = .ok (.invokestatic 34, 3) := by decide +kernel
theorem dX0_begin_16 : decode cX0_begin 16 = .ok (.aload_n 0, 1) := by decide +kernel
theorem dX0_begin_17 : decode cX0_begin 17 = .ok (.getfield 18, 3) := by decide +kernel
theorem dX0_begin_20 : decode cX0_begin 20 = .ok (.iconst 0, 1) := by decide +kernel
theorem dX0_begin_21 : decode cX0_begin 21 = .ok (.invokestatic 34, 3) := by decide +kernel
theorem dX0_begin_24 : decode cX0_begin 24 = .ok (.aload_n 1, 1) := by decide +kernel
theorem dX0_begin_25 : decode cX0_begin 25 = .ok (.getfield 40, 3) := by decide +kernel
theorem dX0_begin_28 : decode cX0_begin 28 = .ok (.iconst 0, 1) := by decide +kernel
theorem dX0_begin_29 : decode cX0_begin 29 = .ok (.aload_n 0, 1) := by decide +kernel
theorem dX0_begin_30 : decode cX0_begin 30 = .ok (.getfield 15, 3) := by decide +kernel
theorem dX0_begin_33 : decode cX0_begin 33 = .ok (.iconst 0, 1) := by decide +kernel
theorem dX0_begin_34 : decode cX0_begin 34 = .ok (.bipush 7, 2) := by decide +kernel
theorem dX0_begin_36 : decode cX0_begin 36 = .ok (.invokestatic 43, 3) := by decide +kernel
theorem dX0_begin_39 : decode cX0_begin 39 = .ok (.aload_n 0, 1) := by decide +kernel
theorem dX0_begin_40 : decode cX0_begin 40 = .ok (.iconst 0, 1) := by decide +kernel
theorem dX0_begin_41 : decode cX0_begin 41 = .ok (.putfield 49, 3) := by decide +kernel
theorem dX0_begin_44 : decode cX0_begin 44 = .ok (.aload_n 0, 1) := by decide +kernel
theorem dX0_begin_45 : decode cX0_begin 45 = .ok (.iconst 0, 1) := by decide +kernel
theorem dX0_begin_46 : decode cX0_begin 46 = .ok (.putfield 52, 3) := by decide +kernel
theorem dX0_begin_49 : decode cX0_begin 49 = .ok (.aload_n 0, 1) := by decide +kernel
theorem dX0_begin_50 : decode cX0_begin 50 = .ok (.iconst 0, 1) := by decide +kernel
theorem dX0_begin_51 : decode cX0_begin 51 = .ok (.putfield 55, 3) := by decide +kernel
theorem dX0_begin_54 : decode cX0_begin 54 = .ok (.aload_n 0, 1) := by decide +kernel
theorem dX0_begin_55 : decode cX0_begin 55 = .ok (.iconst 0, 1) := by decide +kernel
theorem dX0_begin_56 : decode cX0_begin 56 = .ok (.putfield 58, 3) := by decide +kernel
theorem dX0_begin_59 : decode cX0_begin 59 = .ok (.aload_n 0, 1) := by decide +kernel
theorem dX0_begin_60 : decode cX0_begin 60 = .ok (.iconst 0, 1) := by decide +kernel
theorem dX0_begin_61 : decode cX0_begin 61 = .ok (.putfield 61, 3) := by decide +kernel
theorem dX0_begin_64 : decode cX0_begin 64 = .ok (.aload_n 0, 1) := by decide +kernel
theorem dX0_begin_65 : decode cX0_begin 65 = .ok (.aload_n 1, 1) := by decide +kernel
theorem dX0_begin_66 : decode cX0_begin 66 = .ok (.getfield 64, 3) := by decide +kernel
theorem dX0_begin_69 : decode cX0_begin 69 = .ok (.ifCond .le 7, 3) := by decide +kernel
theorem dX0_begin_76 : decode cX0_begin 76 = .ok (.iconst (-1), 1) := by decide +kernel
theorem dX0_begin_77 : decode cX0_begin 77 = .ok (.putfield 21, 3) := by decide +kernel
theorem dX0_begin_80 : decode cX0_begin 80 = .ok (.aload_n 0, 1) := by decide +kernel
theorem dX0_begin_81 : decode cX0_begin 81 = .ok (.iconst 0, 1) := by decide +kernel
theorem dX0_begin_82 : decode cX0_begin 82 = .ok (.putfield 67, 3) := by decide +kernel
theorem dX0_begin_85 : decode cX0_begin 85 = .ok (.aload_n 0, 1) := by decide +kernel
theorem dX0_begin_86 : decode cX0_begin 86 = .ok (.iconst (-1), 1) := by decide +kernel
theorem dX0_begin_87 : decode cX0_begin 87 = .ok (.putfield 25, 3) := by decide +kernel
theorem dX0_begin_90 : decode cX0_begin 90 = .ok (.return_, 1) := by decide +kernel
set_option maxHeartbeats 4000000 in
set_option maxRecDepth 100000 in
theorem k_begin {l : Launch} {D : va_G} {ids : List Nat} {ad : Nat → Nat} {ca : Nat → ClassId} {σ : HS} (hid : ∀ i, i < 277 → i ∈ ids) (h_43_0 : σ.1 43 0 = 0) (h_43_4 : σ.1 43 4 = 0) : Kv l D ids ad ca yX0_begin cX0_begin 2 1 60 [.ref (ad 56), .ref (ad 43)] σ (fun σ1 => only [56, 57, 58, 59] σ σ1) := by
  refine Kv.of (by decide) (Nat.le_of_ble_eq_true rfl) 0 (fun Γ C Rt => ?_)
  show AW ids ad ca Γ 0 [some (.ref (ad 56)), some (.ref (ad 43))] [] σ
  refine a_aload_n C dX0_begin_0 (i := 0) rfl rfl ?_
  refine a_aload_n C dX0_begin_1 (i := 1) rfl rfl ?_
  refine a_get C fl_RX0_28 (i := 43) kd_43 (hid 43 (by decide)) (v := .int 0) (congrArg (fun z => some (Value.int z)) h_43_0) dX0_begin_2 ?_
  refine a_put C fp_RX0_33 (i := 56) kd_56 (hid 56 (by decide)) rfl rfl dX0_begin_5 ?_
  refine a_aload_n C dX0_begin_8 (i := 0) rfl rfl ?_
  refine a_get C fl_RX0_9 (i := 56) kd_56 (hid 56 (by decide)) (v := .ref (ad 57)) rfl dX0_begin_9 ?_
  refine a_iconst C dX0_begin_12 (v := 0) rfl ?_
  refine a_callSv C (k_fill_57 hid) ms_J7_fill_53178 ml_RX0_34 rfl rfl (Nat.le_of_ble_eq_true rfl) (Nat.le_of_ble_eq_true rfl) (Nat.le_of_ble_eq_true rfl) dX0_begin_13 (fun σ2 q3 => ?_)
  refine a_aload_n C dX0_begin_16 (i := 0) rfl rfl ?_
  refine a_get C fl_RX0_18 (i := 56) kd_56 (hid 56 (by decide)) (v := .ref (ad 59)) rfl dX0_begin_17 ?_
  refine a_iconst C dX0_begin_20 (v := 0) rfl ?_
  refine a_callSv C (k_fill_59 hid) ms_J7_fill_53178 ml_RX0_34 rfl rfl (Nat.le_of_ble_eq_true rfl) (Nat.le_of_ble_eq_true rfl) (Nat.le_of_ble_eq_true rfl) dX0_begin_21 (fun σ5 q6 => ?_)
  refine a_aload_n C dX0_begin_24 (i := 1) rfl rfl ?_
  refine a_get C fl_RX0_40 (i := 43) kd_43 (hid 43 (by decide)) (v := .ref (ad 46)) rfl dX0_begin_25 ?_
  refine a_iconst C dX0_begin_28 (v := 0) rfl ?_
  refine a_aload_n C dX0_begin_29 (i := 0) rfl rfl ?_
  refine a_get C fl_RX0_15 (i := 56) kd_56 (hid 56 (by decide)) (v := .ref (ad 58)) rfl dX0_begin_30 ?_
  refine a_iconst C dX0_begin_33 (v := 0) rfl ?_
  refine a_bipush C dX0_begin_34 (v := 7) rfl ?_
  refine a_copyi C (i0 := 46) (i1 := 58) 0 0 7 ml_RX0_43 ac_w.1 ac_w.2.1 ac_w.2.2 kd_46 (hid 46 (by decide)) kd_58 (hid 58 (by decide)) (by decide) (by decide) (by decide) rfl rfl rfl (by rw [al_46]; decide) (by rw [al_58]; decide) (Nat.le_of_ble_eq_true rfl) (Nat.le_of_ble_eq_true rfl) dX0_begin_36 ?_
  refine a_aload_n C dX0_begin_39 (i := 0) rfl rfl ?_
  refine a_iconst C dX0_begin_40 (v := 0) rfl ?_
  refine a_put C fp_RX0_49 (i := 56) kd_56 (hid 56 (by decide)) rfl rfl dX0_begin_41 ?_
  refine a_aload_n C dX0_begin_44 (i := 0) rfl rfl ?_
  refine a_iconst C dX0_begin_45 (v := 0) rfl ?_
  refine a_put C fp_RX0_52 (i := 56) kd_56 (hid 56 (by decide)) rfl rfl dX0_begin_46 ?_
  refine a_aload_n C dX0_begin_49 (i := 0) rfl rfl ?_
  refine a_iconst C dX0_begin_50 (v := 0) rfl ?_
  refine a_put C fp_RX0_55 (i := 56) kd_56 (hid 56 (by decide)) rfl rfl dX0_begin_51 ?_
  refine a_aload_n C dX0_begin_54 (i := 0) rfl rfl ?_
  refine a_iconst C dX0_begin_55 (v := 0) rfl ?_
  refine a_put C fp_RX0_58 (i := 56) kd_56 (hid 56 (by decide)) rfl rfl dX0_begin_56 ?_
  refine a_aload_n C dX0_begin_59 (i := 0) rfl rfl ?_
  refine a_iconst C dX0_begin_60 (v := 0) rfl ?_
  refine a_put C fp_RX0_61 (i := 56) kd_56 (hid 56 (by decide)) rfl rfl dX0_begin_61 ?_
  refine a_aload_n C dX0_begin_64 (i := 0) rfl rfl ?_
  refine a_aload_n C dX0_begin_65 (i := 1) rfl rfl ?_
  refine a_get C fl_RX0_64 (i := 43) kd_43 (hid 43 (by decide)) (v := .int 0) (congrArg (fun z => some (Value.int z)) ((congrFun (q6.1 43 (by decide)) 4).trans ((congrFun (q3.1 43 (by decide)) 4).trans h_43_4))) dX0_begin_66 ?_
  refine a_if_le C dX0_begin_69 (tgt := 76) rfl (fun _ => ?_) (fun h => absurd h (by decide))
  refine a_iconst C dX0_begin_76 (v := (-1)) rfl ?_
  refine a_put C fp_RX0_21 (i := 56) kd_56 (hid 56 (by decide)) rfl rfl dX0_begin_77 ?_
  refine a_aload_n C dX0_begin_80 (i := 0) rfl rfl ?_
  refine a_iconst C dX0_begin_81 (v := 0) rfl ?_
  refine a_put C fp_RX0_67 (i := 56) kd_56 (hid 56 (by decide)) rfl rfl dX0_begin_82 ?_
  refine a_aload_n C dX0_begin_85 (i := 0) rfl rfl ?_
  refine a_iconst C dX0_begin_86 (v := (-1)) rfl ?_
  refine a_put C fp_RX0_25 (i := 56) kd_56 (hid 56 (by decide)) rfl rfl dX0_begin_87 ?_
  exact a_vret Rt dX0_begin_90 ((only.I (only.I (only.I (only.I (only.I (only.I (only.I (only.I (only.C (only.tr (only.tr (only.I only.rf (by decide)) (only.mono q3 (by decide))) (only.mono q6 (by decide))) (by decide)) (by decide)) (by decide)) (by decide)) (by decide)) (by decide)) (by decide)) (by decide)) (by decide)))
theorem dX5_clear_0 : decode cX5_clear 0 = .ok (.aload_n 0, 1) := by decide +kernel
theorem dX5_clear_1 : decode cX5_clear 1 = .ok (.iconst 0, 1) := by decide +kernel
theorem dX5_clear_2 : decode cX5_clear 2 = .ok (.putfield 18, 3) := by decide +kernel
theorem dX5_clear_5 : decode cX5_clear 5 = .ok (.return_, 1) := by decide +kernel
set_option maxHeartbeats 4000000 in
set_option maxRecDepth 100000 in
theorem k_pclear {l : Launch} {D : va_G} {ids : List Nat} {ad : Nat → Nat} {ca : Nat → ClassId} {σ : HS} (hid : ∀ i, i < 277 → i ∈ ids) : Kv l D ids ad ca yX5_clear cX5_clear 1 0 0 [.ref (ad 12)] σ (fun σ1 => only [12] σ σ1) := by
  refine Kv.of (by decide) (Nat.le_of_ble_eq_true rfl) 0 (fun Γ C Rt => ?_)
  show AW ids ad ca Γ 0 [some (.ref (ad 12))] [] σ
  refine a_aload_n C dX5_clear_0 (i := 0) rfl rfl ?_
  refine a_iconst C dX5_clear_1 (v := 0) rfl ?_
  refine a_put C fp_RX5_18 (i := 12) kd_12 (hid 12 (by decide)) rfl rfl dX5_clear_2 ?_
  exact a_vret Rt dX5_clear_5 ((only.I only.rf (by decide)))
theorem dX11_beginAnew_0 : decode cX11_beginAnew 0 = .ok (.aload_n 0, 1) := by decide +kernel
theorem dX11_beginAnew_1 : decode cX11_beginAnew 1 = .ok (.getfield 86, 3) := by decide +kernel
theorem dX11_beginAnew_4 : decode cX11_beginAnew 4 = .ok (.astore_n 1, 1) := by decide +kernel
theorem dX11_beginAnew_5 : decode cX11_beginAnew 5 = .ok (.aload_n 0, 1) := by decide +kernel
theorem dX11_beginAnew_6 : decode cX11_beginAnew 6 = .ok (.aload_n 0, 1) := by decide +kernel
theorem dX11_beginAnew_7 : decode cX11_beginAnew 7 = .ok (.getfield 82, 3) := by decide +kernel
theorem dX11_beginAnew_10 : decode cX11_beginAnew 10 = .ok (.putfield 86, 3) := by decide +kernel
theorem dX11_beginAnew_13 : decode cX11_beginAnew 13 = .ok (.aload_n 0, 1) := by decide +kernel
theorem dX11_beginAnew_14 : decode cX11_beginAnew 14 = .ok (.aload_n 1, 1) := by decide +kernel
theorem dX11_beginAnew_15 : decode cX11_beginAnew 15 = .ok (.putfield 82, 3) := by decide +kernel
theorem dX11_beginAnew_18 : decode cX11_beginAnew 18 = .ok (.aload_n 0, 1) := by decide +kernel
theorem dX11_beginAnew_19 : decode cX11_beginAnew 19 = .ok (.getfield 54, 3) := by decide +kernel
theorem dX11_beginAnew_22 : decode cX11_beginAnew 22 = .ok (.aload_n 0, 1) := by decide +kernel
theorem dX11_beginAnew_23 : decode cX11_beginAnew 23 = .ok (.getfield 82, 3) := by decide +kernel
theorem dX11_beginAnew_26 : decode cX11_beginAnew 26 = .ok (.invokevirtual 110, 3) := by decide +kernel
theorem dX11_beginAnew_29 : decode cX11_beginAnew 29 = .ok (.aload_n 0, 1) := by decide +kernel
theorem dX11_beginAnew_30 : decode cX11_beginAnew 30 = .ok (.getfield 26, 3) := by decide +kernel
theorem dX11_beginAnew_33 : decode cX11_beginAnew 33 = .ok (.invokevirtual 114, 3) := by decide +kernel
theorem dX11_beginAnew_36 : decode cX11_beginAnew 36 = .ok (.aload_n 0, 1) := by decide +kernel
theorem dX11_beginAnew_37 : decode cX11_beginAnew 37 = .ok (.getfield 33, 3) := by decide +kernel
theorem dX11_beginAnew_40 : decode cX11_beginAnew 40 = .ok (.iconst 0, 1) := by decide +kernel
theorem dX11_beginAnew_41 : decode cX11_beginAnew 41 = .ok (.putfield 117, 3) := by decide +kernel
theorem dX11_beginAnew_44 : decode cX11_beginAnew 44 = .ok (.iconst 0, 1) := by decide +kernel
theorem dX11_beginAnew_45 : decode cX11_beginAnew 45 = .ok (.istore_n 2, 1) := by decide +kernel
theorem dX11_beginAnew_46 : decode cX11_beginAnew 46 = .ok (.iload_n 2, 1) := by decide +kernel
theorem dX11_beginAnew_47 : decode cX11_beginAnew 47 = .ok (.iconst 3, 1) := by decide +kernel
theorem dX11_beginAnew_48 : decode cX11_beginAnew 48 = .ok (.if_icmp .ge 16, 3) := by decide +kernel
theorem dX11_beginAnew_51 : decode cX11_beginAnew 51 = .ok (.aload_n 0, 1) := by decide +kernel
theorem dX11_beginAnew_52 : decode cX11_beginAnew 52 = .ok (.getfield 65, 3) := by decide +kernel
theorem dX11_beginAnew_55 : decode cX11_beginAnew 55 = .ok (.iload_n 2, 1) := by decide +kernel
theorem dX11_beginAnew_56 : decode cX11_beginAnew 56 = .ok (.iconst 0, 1) := by decide +kernel
theorem dX11_beginAnew_57 : decode cX11_beginAnew 57 = .ok (.bastore, 1) := by decide +kernel
theorem dX11_beginAnew_58 : decode cX11_beginAnew 58 = .ok (.iinc 2 1, 3) := by decide +kernel
theorem dX11_beginAnew_61 : decode cX11_beginAnew 61 = .ok (.goto (-15), 3) := by decide +kernel
theorem dX11_beginAnew_64 : decode cX11_beginAnew 64 = .ok (.return_, 1) := by decide +kernel
set_option maxHeartbeats 4000000 in
set_option maxRecDepth 100000 in
theorem k_beginAnew {l : Launch} {D : va_G} {ids : List Nat} {ad : Nat → Nat} {ca : Nat → ClassId} {σ : HS} (hid : ∀ i, i < 277 → i ∈ ids) (htx0 : σ.2.2 0 = 30) (htx1 : σ.2.2 1 = 43) (h_43_0 : σ.1 43 0 = 0) (h_43_4 : σ.1 43 4 = 0) : Kv l D ids ad ca yX11_beginAnew cX11_beginAnew 3 2 81 [.ref (ad 0)] σ (fun σ1 => keepM σ σ1) := by
  refine Kv.of (by decide) (Nat.le_of_ble_eq_true rfl) 2 (fun Γ C Rt => ?_)
  show AW ids ad ca Γ 0 [some (.ref (ad 0)), none, none] [] σ
  refine a_aload_n C dX11_beginAnew_0 (i := 0) rfl rfl ?_
  refine a_get C fl_RX11_86 (i := 0) kd_0 (hid 0 (by decide)) (v := .ref (ad 43)) (congrArg (fun z => some (Value.ref (ad z))) htx1) dX11_beginAnew_1 ?_
  refine a_astore_n C dX11_beginAnew_4 (i := 1) rfl (by decide) rfl (vs1 := [some (.ref (ad 0)), some (.ref (ad 43)), none]) rfl ?_
  refine a_aload_n C dX11_beginAnew_5 (i := 0) rfl rfl ?_
  refine a_aload_n C dX11_beginAnew_6 (i := 0) rfl rfl ?_
  refine a_get C fl_RX11_82 (i := 0) kd_0 (hid 0 (by decide)) (v := .ref (ad 30)) (congrArg (fun z => some (Value.ref (ad z))) htx0) dX11_beginAnew_7 ?_
  refine a_putR C (hid 0 (by decide)) (v := 30) fpr_86 dX11_beginAnew_10 ?_
  refine a_aload_n C dX11_beginAnew_13 (i := 0) rfl rfl ?_
  refine a_aload_n C dX11_beginAnew_14 (i := 1) rfl rfl ?_
  refine a_putR C (hid 0 (by decide)) (v := 43) fpr_82 dX11_beginAnew_15 ?_
  refine a_aload_n C dX11_beginAnew_18 (i := 0) rfl rfl ?_
  refine a_get C fl_RX11_54 (i := 0) kd_0 (hid 0 (by decide)) (v := .ref (ad 56)) rfl dX11_beginAnew_19 ?_
  refine a_aload_n C dX11_beginAnew_22 (i := 0) rfl rfl ?_
  refine a_get C fl_RX11_82 (i := 0) kd_0 (hid 0 (by decide)) (v := .ref (ad 43)) rfl dX11_beginAnew_23 ?_
  refine a_callVv C (i := 56) kd_56 (hid 56 (by decide)) ⟨_, _, rfl⟩ (by decide) (k_begin hid h_43_0 h_43_4) mi_X0_begin ml_RX11_110 rfl rfl (Nat.le_of_ble_eq_true rfl) (Nat.le_of_ble_eq_true rfl) (Nat.le_of_ble_eq_true rfl) dX11_beginAnew_26 (fun σ2 q3 => ?_)
  refine a_aload_n C dX11_beginAnew_29 (i := 0) rfl rfl ?_
  refine a_get C fl_RX11_26 (i := 0) kd_0 (hid 0 (by decide)) (v := .ref (ad 12)) rfl dX11_beginAnew_30 ?_
  refine a_callVv C (i := 12) kd_12 (hid 12 (by decide)) ⟨_, _, rfl⟩ (by decide) (k_pclear hid) mi_X5_clear ml_RX11_114 rfl rfl (Nat.le_of_ble_eq_true rfl) (Nat.le_of_ble_eq_true rfl) (Nat.le_of_ble_eq_true rfl) dX11_beginAnew_33 (fun σ5 q6 => ?_)
  refine a_aload_n C dX11_beginAnew_36 (i := 0) rfl rfl ?_
  refine a_get C fl_RX11_33 (i := 0) kd_0 (hid 0 (by decide)) (v := .ref (ad 14)) rfl dX11_beginAnew_37 ?_
  refine a_iconst C dX11_beginAnew_40 (v := 0) rfl ?_
  refine a_put C fp_RX11_117 (i := 14) kd_14 (hid 14 (by decide)) rfl rfl dX11_beginAnew_41 ?_
  refine a_iconst C dX11_beginAnew_44 (v := 0) rfl ?_
  refine a_istore_n C dX11_beginAnew_45 (i := 2) rfl (by decide) rfl (vs1 := [some (.ref (ad 0)), some (.ref (ad 43)), some (.int 0)]) rfl ?_
  refine a_iload_n C dX11_beginAnew_46 (i := 2) rfl rfl ?_
  refine a_iconst C dX11_beginAnew_47 (v := 3) rfl ?_
  refine a_ic_ge C dX11_beginAnew_48 (tgt := 64) rfl (fun h => absurd h (by decide)) (fun _ => ?_)
  refine a_aload_n C dX11_beginAnew_51 (i := 0) rfl rfl ?_
  refine a_get C fl_RX11_65 (i := 0) kd_0 (hid 0 (by decide)) (v := .ref (ad 26)) rfl dX11_beginAnew_52 ?_
  refine a_iload_n C dX11_beginAnew_55 (i := 2) rfl rfl ?_
  refine a_iconst C dX11_beginAnew_56 (v := 0) rfl ?_
  refine a_zast C (i := 26) 0 rfl kd_26 (hid 26 (by decide)) (by decide) rfl (by rw [al_26]; decide) dX11_beginAnew_57 ?_
  refine a_iinc C dX11_beginAnew_58 rfl (v := 1) rfl (by decide) rfl (vs1 := [some (.ref (ad 0)), some (.ref (ad 43)), some (.int 1)]) rfl ?_
  refine a_goto C dX11_beginAnew_61 (tgt := 46) rfl ?_
  refine a_iload_n C dX11_beginAnew_46 (i := 2) rfl rfl ?_
  refine a_iconst C dX11_beginAnew_47 (v := 3) rfl ?_
  refine a_ic_ge C dX11_beginAnew_48 (tgt := 64) rfl (fun h => absurd h (by decide)) (fun _ => ?_)
  refine a_aload_n C dX11_beginAnew_51 (i := 0) rfl rfl ?_
  refine a_get C fl_RX11_65 (i := 0) kd_0 (hid 0 (by decide)) (v := .ref (ad 26)) rfl dX11_beginAnew_52 ?_
  refine a_iload_n C dX11_beginAnew_55 (i := 2) rfl rfl ?_
  refine a_iconst C dX11_beginAnew_56 (v := 0) rfl ?_
  refine a_zast C (i := 26) 1 rfl kd_26 (hid 26 (by decide)) (by decide) rfl (by rw [al_26]; decide) dX11_beginAnew_57 ?_
  refine a_iinc C dX11_beginAnew_58 rfl (v := 2) rfl (by decide) rfl (vs1 := [some (.ref (ad 0)), some (.ref (ad 43)), some (.int 2)]) rfl ?_
  refine a_goto C dX11_beginAnew_61 (tgt := 46) rfl ?_
  refine a_iload_n C dX11_beginAnew_46 (i := 2) rfl rfl ?_
  refine a_iconst C dX11_beginAnew_47 (v := 3) rfl ?_
  refine a_ic_ge C dX11_beginAnew_48 (tgt := 64) rfl (fun h => absurd h (by decide)) (fun _ => ?_)
  refine a_aload_n C dX11_beginAnew_51 (i := 0) rfl rfl ?_
  refine a_get C fl_RX11_65 (i := 0) kd_0 (hid 0 (by decide)) (v := .ref (ad 26)) rfl dX11_beginAnew_52 ?_
  refine a_iload_n C dX11_beginAnew_55 (i := 2) rfl rfl ?_
  refine a_iconst C dX11_beginAnew_56 (v := 0) rfl ?_
  refine a_zast C (i := 26) 2 rfl kd_26 (hid 26 (by decide)) (by decide) rfl (by rw [al_26]; decide) dX11_beginAnew_57 ?_
  refine a_iinc C dX11_beginAnew_58 rfl (v := 3) rfl (by decide) rfl (vs1 := [some (.ref (ad 0)), some (.ref (ad 43)), some (.int 3)]) rfl ?_
  refine a_goto C dX11_beginAnew_61 (tgt := 46) rfl ?_
  refine a_iload_n C dX11_beginAnew_46 (i := 2) rfl rfl ?_
  refine a_iconst C dX11_beginAnew_47 (v := 3) rfl ?_
  refine a_ic_ge C dX11_beginAnew_48 (tgt := 64) rfl (fun _ => ?_) (fun h => absurd h (by decide))
  exact a_vret Rt dX11_beginAnew_64 ((keepM.I (keepM.I (keepM.I (keepM.I (keepM.tr (keepM.tr (keepM.R (keepM.R keepM.rf)) (only.keepM q3 (by decide))) (only.keepM q6 (by decide))) (by decide)) (by decide)) (by decide)) (by decide)))
theorem dX11_read_0 : decode cX11_read 0 = .ok (.aload_n 0, 1) := by decide +kernel
theorem dX11_read_1 : decode cX11_read 1 = .ok (.getfield 10, 3) := by decide +kernel
theorem dX11_read_4 : decode cX11_read 4 = .ok (.aload_n 0, 1) := by decide +kernel
theorem dX11_read_5 : decode cX11_read 5 = .ok (.getfield 86, 3) := by decide +kernel
theorem dX11_read_8 : decode cX11_read 8 = .ok (.invokevirtual 103, 3) := by decide +kernel
theorem dX11_read_11 : decode cX11_read 11 = .ok (.istore_n 1, 1) := by decide +kernel
theorem dX11_read_12 : decode cX11_read 12 = .ok (.aload_n 0, 1) := by decide +kernel
theorem dX11_read_13 : decode cX11_read 13 = .ok (.getfield 10, 3) := by decide +kernel
theorem dX11_read_16 : decode cX11_read 16 = .ok (.getfield 89, 3) := by decide +kernel
theorem dX11_read_19 : decode cX11_read 19 = .ok (.iconst 0, 1) := by decide +kernel
theorem dX11_read_20 : decode cX11_read 20 = .ok (.putfield 93, 3) := by decide +kernel
theorem dX11_read_23 : decode cX11_read 23 = .ok (.iload_n 1, 1) := by decide +kernel
theorem dX11_read_24 : decode cX11_read 24 = .ok (.ifCond .ne 7, 3) := by decide +kernel
theorem dX11_read_27 : decode cX11_read 27 = .ok (.aload_n 0, 1) := by decide +kernel
theorem dX11_read_28 : decode cX11_read 28 = .ok (.invokevirtual 107, 3) := by decide +kernel
theorem dX11_read_31 : decode cX11_read 31 = .ok (.iload_n 1, 1) := by decide +kernel
theorem dX11_read_32 : decode cX11_read 32 = .ok (.ireturn, 1) := by decide +kernel
set_option maxHeartbeats 4000000 in
set_option maxRecDepth 100000 in
theorem p_read {l : Launch} {D : va_G} {ids : List Nat} {ad : Nat → Nat} {ca : Nat → ClassId} {σ : HS} (hid : ∀ i, i < 277 → i ∈ ids) (htx0 : σ.2.2 0 = 30) (htx1 : σ.2.2 1 = 43) (h_2_1 : σ.1 2 1 = 0) : Ki l D ids ad ca yX11_read cX11_read 2 .int 3 103 [.ref (ad 0)] σ (fun r σ1 => r = 0 ∧ keepM σ σ1) := by
  refine Ki.of (by decide) (Nat.le_of_ble_eq_true rfl) 1 (fun Γ C Rt => ?_)
  show AW ids ad ca Γ 0 [some (.ref (ad 0)), none] [] σ
  refine a_aload_n C dX11_read_0 (i := 0) rfl rfl ?_
  refine a_get C fl_RX11_10 (i := 0) kd_0 (hid 0 (by decide)) (v := .ref (ad 1)) rfl dX11_read_1 ?_
  refine a_aload_n C dX11_read_4 (i := 0) rfl rfl ?_
  refine a_get C fl_RX11_86 (i := 0) kd_0 (hid 0 (by decide)) (v := .ref (ad 43)) (congrArg (fun z => some (Value.ref (ad z))) htx1) dX11_read_5 ?_
  refine a_callVi C (i := 1) kd_1 (hid 1 (by decide)) ⟨_, _, rfl⟩ (by decide) (k_readInto hid h_2_1) mi_X6_readInto ml_RX11_103 rfl rfl (Nat.le_of_ble_eq_true rfl) (Nat.le_of_ble_eq_true rfl) (Nat.le_of_ble_eq_true rfl) dX11_read_8 (fun r1 σ2 q3 => ?_)
  obtain ⟨rfl, q3⟩ := q3
  refine a_istore_n C dX11_read_11 (i := 1) rfl (by decide) rfl (vs1 := [some (.ref (ad 0)), some (.int 0)]) rfl ?_
  refine a_aload_n C dX11_read_12 (i := 0) rfl rfl ?_
  refine a_get C fl_RX11_10 (i := 0) kd_0 (hid 0 (by decide)) (v := .ref (ad 1)) rfl dX11_read_13 ?_
  refine a_get C fl_RX11_89 (i := 1) kd_1 (hid 1 (by decide)) (v := .ref (ad 2)) rfl dX11_read_16 ?_
  refine a_iconst C dX11_read_19 (v := 0) rfl ?_
  refine a_put C fp_RX11_93 (i := 2) kd_2 (hid 2 (by decide)) rfl rfl dX11_read_20 ?_
  refine a_iload_n C dX11_read_23 (i := 1) rfl rfl ?_
  refine a_if_ne C dX11_read_24 (tgt := 31) rfl (fun h => absurd h (by decide)) (fun _ => ?_)
  refine a_aload_n C dX11_read_27 (i := 0) rfl rfl ?_
  refine a_callVv C (i := 0) kd_0 (hid 0 (by decide)) ⟨_, _, rfl⟩ (by decide) (k_beginAnew hid (Eq.trans (congrArg (fun z => z.2 0) q3.1.2) htx0) (Eq.trans (congrArg (fun z => z.2 1) q3.1.2) htx1) q3.2.1 q3.2.2) mi_X11_beginAnew ml_RX11_107 rfl rfl (Nat.le_of_ble_eq_true rfl) (Nat.le_of_ble_eq_true rfl) (Nat.le_of_ble_eq_true rfl) dX11_read_28 (fun σ5 q6 => ?_)
  refine a_iload_n C dX11_read_31 (i := 1) rfl rfl ?_
  exact a_iret Rt dX11_read_32 rfl (⟨rfl, (keepM.tr (keepM.I (keepM.tr keepM.rf (only.keepM q3.1 (by decide))) (by decide)) q6)⟩)
