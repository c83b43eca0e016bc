set_option maxHeartbeats 4000000 in
set_option maxRecDepth 100000 in
theorem Z_X6_product {l : Launch} {D : va_G} {ids : List Nat} {ad : Nat → Nat} {ca : Nat → ClassId} {σ : HS} {p1 : Nat} {x2 : Int32} {r0 : Int32} {s0 : HS} (hid : ∀ i, i < 277 → i ∈ ids) (fE : Nat → Int32 → HS → Option (Int32 × HS)) {fr0 lo0 : Nat} (hE : ∀ (p1 : Nat) (x2 : Int32) (σ s0 : HS) (r0 : Int32), txtOK p1 → fE p1 x2 σ = some (r0, s0) → Ki l D ids ad ca yX6_expression cX6_expression 6 .boolean fr0 lo0 [.ref (ad 1), .ref (ad p1), .int x2] σ (fun r σ1 => r = r0 ∧ σ1 = s0)) (hp1 : txtOK p1) (h : f_X6_product fE p1 x2 σ = some (r0, s0)) : Ki l D ids ad ca yX6_product cX6_product 6 .boolean (fr0 + 3) (lo0 + 65) [.ref (ad 1), .ref (ad p1), .int x2] σ (fun r σ1 => r = r0 ∧ σ1 = s0) := by
  obtain ⟨R, hR⟩ : ∃ R, (r0, s0) = R := ⟨_, rfl⟩
  replace h := h.trans (congrArg some hR)
  refine Ki.of (by decide) (Nat.le_of_ble_eq_true rfl) 3 (fun Γ C Rt => ?_)
  show AW ids ad ca Γ 0 [some (.ref (ad 1)), some (.ref (ad p1)), some (.int x2), none, none, none] [] σ
  unfold f_X6_product at h
  have j85 : ∀ (k10 : Int32 → Int32 → Int32 → HS → Option (Int32 × HS)) (hk10 : ∀ (y2 : Int32) (y3 : Int32) (y4 : Int32) (σ : HS), k10 y2 y3 y4 σ = some R → AW ids ad ca Γ 10 [some (.ref (ad 1)), some (.ref (ad p1)), some (.int y2), some (.int y3), some (.int y4), none] [] σ) (y2 : Int32) (y3 : Int32) (y4 : Int32) (v0 : Int32) (σ : HS), f_X6_product_85 fE p1 k10 y2 y3 y4 v0 σ = some R → AW ids ad ca Γ 85 [some (.ref (ad 1)), some (.ref (ad p1)), some (.int y2), some (.int y3), some (.int y4), none] [.int v0, .ref (ad p1)] σ := by
    intro k10 hk10 y2 y3 y4 v0 σ h
    unfold f_X6_product_85 at h
    refine p_callVv C (As := [.int v0]) (i := p1) hp1.1.1 (hid _ hp1.1.2) ⟨_, _, rfl⟩ (by decide) h (fun _ e => Z_X10_emit hid hp1 e) mi_X10_emit ml_RX6_138 rfl rfl (by omega) (by omega) (Nat.le_of_ble_eq_true rfl) dX6_product_85 (fun σ1 h => ?_)
    refine p_iinc C (y := (y4 + 1)) (fun z3 => [some (.ref (ad 1)), some (.ref (ad p1)), some (.int y2), some (.int y3), some (.int z3), none]) dX6_product_88 rfl rfl (by decide) rfl (fun _ => rfl) h (fun z3 h => ?_)
    refine a_goto C dX6_product_91 (tgt := 10) rfl ?_
    exact hk10 _ _ _ _ h
  have j69 : ∀ (k10 : Int32 → Int32 → Int32 → HS → Option (Int32 × HS)) (hk10 : ∀ (y2 : Int32) (y3 : Int32) (y4 : Int32) (σ : HS), k10 y2 y3 y4 σ = some R → AW ids ad ca Γ 10 [some (.ref (ad 1)), some (.ref (ad p1)), some (.int y2), some (.int y3), some (.int y4), none] [] σ) (y2 : Int32) (y4 : Int32) (y5 : Int32) (v0 : Int32) (σ : HS), f_X6_product_69 fE p1 k10 y2 y4 y5 v0 σ = some R → AW ids ad ca Γ 69 [some (.ref (ad 1)), some (.ref (ad p1)), some (.int y2), none, some (.int y4), some (.int y5)] [.int v0] σ := by
    intro k10 hk10 y2 y4 y5 v0 σ h
    unfold f_X6_product_69 at h
    refine a_istore_n C dX6_product_69 (i := 3) rfl (by decide) rfl (vs1 := [some (.ref (ad 1)), some (.ref (ad p1)), some (.int y2), some (.int v0), some (.int y4), some (.int y5)]) rfl ?_
    refine a_aload_n C dX6_product_70 (i := 1) rfl rfl ?_
    refine a_iload C dX6_product_71 rfl ?_
    refine a_bipush C dX6_product_73 (v := 42) rfl ?_
    refine p_ic_ne C (X := y5.toInt) (Y := 42) rfl (by decide) dX6_product_75 (tgt := 83) rfl h (fun h => ?_) (fun h => ?_)
    ·
      refine a_bipush C dX6_product_83 (v := (-4)) rfl ?_
      refine AW.sub (vs' := [some (.ref (ad 1)), some (.ref (ad p1)), some (.int y2), some (.int v0), some (.int y4), none]) (lsub_of (by simp [lsubB])) ?_
      exact j85 k10 hk10 _ _ _ _ _ h
    ·
      refine a_bipush C dX6_product_78 (v := (-3)) rfl ?_
      refine a_goto C dX6_product_80 (tgt := 85) rfl ?_
      refine AW.sub (vs' := [some (.ref (ad 1)), some (.ref (ad p1)), some (.int y2), some (.int v0), some (.int y4), none]) (lsub_of (by simp [lsubB])) ?_
      exact j85 k10 hk10 _ _ _ _ _ h
  have j68 : ∀ (k10 : Int32 → Int32 → Int32 → HS → Option (Int32 × HS)) (hk10 : ∀ (y2 : Int32) (y3 : Int32) (y4 : Int32) (σ : HS), k10 y2 y3 y4 σ = some R → AW ids ad ca Γ 10 [some (.ref (ad 1)), some (.ref (ad p1)), some (.int y2), some (.int y3), some (.int y4), none] [] σ) (y2 : Int32) (y4 : Int32) (y5 : Int32) (σ : HS), f_X6_product_68 fE p1 k10 y2 y4 y5 σ = some R → AW ids ad ca Γ 68 [some (.ref (ad 1)), some (.ref (ad p1)), some (.int y2), none, some (.int y4), some (.int y5)] [] σ := by
    intro k10 hk10 y2 y4 y5 σ h
    unfold f_X6_product_68 at h
    refine a_iconst C dX6_product_68 (v := 0) rfl ?_
    exact j69 k10 hk10 _ _ _ _ _ h
  have j32 : ∀ (k10 : Int32 → Int32 → Int32 → HS → Option (Int32 × HS)) (hk10 : ∀ (y2 : Int32) (y3 : Int32) (y4 : Int32) (σ : HS), k10 y2 y3 y4 σ = some R → AW ids ad ca Γ 10 [some (.ref (ad 1)), some (.ref (ad p1)), some (.int y2), some (.int y3), some (.int y4), none] [] σ) (y2 : Int32) (y3 : Int32) (y4 : Int32) (σ : HS), f_X6_product_32 fE p1 k10 y2 y3 y4 σ = some R → AW ids ad ca Γ 32 [some (.ref (ad 1)), some (.ref (ad p1)), some (.int y2), some (.int y3), some (.int y4), none] [] σ := by
    intro k10 hk10 y2 y3 y4 σ h
    unfold f_X6_product_32 at h
    refine a_iload C dX6_product_32 rfl ?_
    refine a_sipush C dX6_product_34 (v := 400) rfl ?_
    refine p_ic_ge C (X := y4.toInt) (Y := 400) rfl (by decide) dX6_product_37 (tgt := 94) rfl h (fun h => ?_) (fun h => ?_)
    ·
      refine a_iload_n C dX6_product_94 (i := 3) rfl rfl ?_
      refine ite_n h (fun c h => ?_)
      exact a_iret Rt dX6_product_95 (nar_z c).1 (ret_eq (h.trans (congrArg some hR.symm)))
    ·
      refine a_aload_n C dX6_product_40 (i := 0) rfl rfl ?_
      refine a_get C fl_RX6_53 (i := 1) kd_1 (hid 1 (by decide)) (v := .int (σ.1 1 6)) rfl dX6_product_41 ?_
      refine p_istore C (fun z1 => [some (.ref (ad 1)), some (.ref (ad p1)), some (.int y2), some (.int y3), some (.int y4), some (.int z1)]) dX6_product_44 (by decide) rfl (fun _ => rfl) h (fun z1 h => ?_)
      refine a_aload_n C dX6_product_46 (i := 0) rfl rfl ?_
      refine a_iload C dX6_product_47 rfl ?_
      refine p_callVi C (As := [.int z1]) (i := 1) kd_1 (hid 1 (by decide)) ⟨_, _, rfl⟩ (by decide) h (fun _ _ e => Z_X6_take hid e) mi_X6_take ml_RX6_77 rfl rfl (by omega) (by omega) (Nat.le_of_ble_eq_true rfl) dX6_product_49 (fun r3 σ2 h => ?_)
      refine p_if_eq C (X := r3.toInt) rfl dX6_product_52 (tgt := 68) rfl h (fun h => ?_) (fun h => ?_)
      ·
        refine AW.sub (vs' := [some (.ref (ad 1)), some (.ref (ad p1)), some (.int y2), none, some (.int y4), some (.int z1)]) (lsub_of (by simp [lsubB])) ?_
        exact j68 k10 hk10 _ _ _ _ h
      ·
        refine a_aload_n C dX6_product_55 (i := 0) rfl rfl ?_
        refine a_aload_n C dX6_product_56 (i := 1) rfl rfl ?_
        refine a_iload_n C dX6_product_57 (i := 2) rfl rfl ?_
        refine p_callVi C (As := [.ref (ad p1), .int y2]) (i := 1) kd_1 (hid 1 (by decide)) ⟨_, _, rfl⟩ (by decide) h (fun _ _ e => Z_X6_unit hid fE hE hp1 e) mi_X6_unit ml_RX6_147 rfl rfl (by omega) (by omega) (Nat.le_of_ble_eq_true rfl) dX6_product_58 (fun r5 σ4 h => ?_)
        refine p_if_eq C (X := r5.toInt) rfl dX6_product_61 (tgt := 68) rfl h (fun h => ?_) (fun h => ?_)
        ·
          refine AW.sub (vs' := [some (.ref (ad 1)), some (.ref (ad p1)), some (.int y2), none, some (.int y4), some (.int z1)]) (lsub_of (by simp [lsubB])) ?_
          exact j68 k10 hk10 _ _ _ _ h
        ·
          refine a_iconst C dX6_product_64 (v := 1) rfl ?_
          refine a_goto C dX6_product_65 (tgt := 69) rfl ?_
          refine AW.sub (vs' := [some (.ref (ad 1)), some (.ref (ad p1)), some (.int y2), none, some (.int y4), some (.int z1)]) (lsub_of (by simp [lsubB])) ?_
          exact j69 k10 hk10 _ _ _ _ _ h
  have j10 : ∀ (n : Nat) (y2 : Int32) (y3 : Int32) (y4 : Int32) (σ : HS), f_X6_product_10 fE p1 n y2 y3 y4 σ = some R → AW ids ad ca Γ 10 [some (.ref (ad 1)), some (.ref (ad p1)), some (.int y2), some (.int y3), some (.int y4), none] [] σ := by
    intro n
    induction n with
    | zero => intro y2 y3 y4 σ h; exact nn h
    | succ n ih =>
      intro y2 y3 y4 σ h
      have h : b_X6_product_10 fE p1 (f_X6_product_10 fE p1 n) y2 y3 y4 σ = some R := h
      unfold b_X6_product_10 at h
      refine a_iload_n C dX6_product_10 (i := 3) rfl rfl ?_
      refine p_if_eq C (X := y3.toInt) rfl dX6_product_11 (tgt := 94) rfl h (fun h => ?_) (fun h => ?_)
      ·
        refine a_iload_n C dX6_product_94 (i := 3) rfl rfl ?_
        refine ite_n h (fun c h => ?_)
        exact a_iret Rt dX6_product_95 (nar_z c).1 (ret_eq (h.trans (congrArg some hR.symm)))
      ·
        refine a_aload_n C dX6_product_14 (i := 0) rfl rfl ?_
        refine a_get C fl_RX6_53 (i := 1) kd_1 (hid 1 (by decide)) (v := .int (σ.1 1 6)) rfl dX6_product_15 ?_
        refine a_bipush C dX6_product_18 (v := 42) rfl ?_
        refine p_ic_eq C (X := (σ.1 1 6).toInt) (Y := 42) rfl (by decide) dX6_product_20 (tgt := 32) rfl h (fun h => ?_) (fun h => ?_)
        ·
          exact j32 (f_X6_product_10 fE p1 n) (fun y2 y3 y4 σ h => ih y2 y3 y4 σ h) _ _ _ _ h
        ·
          refine a_aload_n C dX6_product_23 (i := 0) rfl rfl ?_
          refine a_get C fl_RX6_53 (i := 1) kd_1 (hid 1 (by decide)) (v := .int (σ.1 1 6)) rfl dX6_product_24 ?_
          refine a_bipush C dX6_product_27 (v := 47) rfl ?_
          refine p_ic_ne C (X := (σ.1 1 6).toInt) (Y := 47) rfl (by decide) dX6_product_29 (tgt := 94) rfl h (fun h => ?_) (fun h => ?_)
          ·
            refine a_iload_n C dX6_product_94 (i := 3) rfl rfl ?_
            refine ite_n h (fun c h => ?_)
            exact a_iret Rt dX6_product_95 (nar_z c).1 (ret_eq (h.trans (congrArg some hR.symm)))
          ·
            exact j32 (f_X6_product_10 fE p1 n) (fun y2 y3 y4 σ h => ih y2 y3 y4 σ h) _ _ _ _ h
  refine a_aload_n C dX6_product_0 (i := 0) rfl rfl ?_
  refine a_aload_n C dX6_product_1 (i := 1) rfl rfl ?_
  refine a_iload_n C dX6_product_2 (i := 2) rfl rfl ?_
  refine p_callVi C (As := [.ref (ad p1), .int x2]) (i := 1) kd_1 (hid 1 (by decide)) ⟨_, _, rfl⟩ (by decide) h (fun _ _ e => Z_X6_unit hid fE hE hp1 e) mi_X6_unit ml_RX6_147 rfl rfl (by omega) (by omega) (Nat.le_of_ble_eq_true rfl) dX6_product_3 (fun r2 σ1 h => ?_)
  refine a_istore_n C dX6_product_6 (i := 3) rfl (by decide) rfl (vs1 := [some (.ref (ad 1)), some (.ref (ad p1)), some (.int x2), some (.int r2), none, none]) rfl ?_
  refine a_iconst C dX6_product_7 (v := 0) rfl ?_
  refine a_istore C dX6_product_8 (by decide) rfl (vs1 := [some (.ref (ad 1)), some (.ref (ad p1)), some (.int x2), some (.int r2), some (.int 0), none]) rfl ?_
  exact j10 _ _ _ _ _ h
set_option maxHeartbeats 4000000 in
set_option maxRecDepth 100000 in
theorem Zg_X6_expression {l : Launch} {D : va_G} {ids : List Nat} {ad : Nat → Nat} {ca : Nat → ClassId} {σ : HS} {p1 : Nat} {x2 : Int32} {r0 : Int32} {s0 : HS} (hid : ∀ i, i < 277 → i ∈ ids) (fE : Nat → Int32 → HS → Option (Int32 × HS)) {fr0 lo0 : Nat} (hE : ∀ (p1 : Nat) (x2 : Int32) (σ s0 : HS) (r0 : Int32), txtOK p1 → fE p1 x2 σ = some (r0, s0) → Ki l D ids ad ca yX6_expression cX6_expression 6 .boolean fr0 lo0 [.ref (ad 1), .ref (ad p1), .int x2] σ (fun r σ1 => r = r0 ∧ σ1 = s0)) (hp1 : txtOK p1) (h : g_X6_expression fE p1 x2 σ = some (r0, s0)) : Ki l D ids ad ca yX6_expression cX6_expression 6 .boolean (fr0 + 4) (lo0 + 90) [.ref (ad 1), .ref (ad p1), .int x2] σ (fun r σ1 => r = r0 ∧ σ1 = s0) := by
  obtain ⟨R, hR⟩ : ∃ R, (r0, s0) = R := ⟨_, rfl⟩
  replace h := h.trans (congrArg some hR)
  refine Ki.of (by decide) (Nat.le_of_ble_eq_true rfl) 3 (fun Γ C Rt => ?_)
  show AW ids ad ca Γ 0 [some (.ref (ad 1)), some (.ref (ad p1)), some (.int x2), none, none, none] [] σ
  unfold g_X6_expression at h
  have j84 : ∀ (k10 : Int32 → Int32 → Int32 → HS → Option (Int32 × HS)) (hk10 : ∀ (y2 : Int32) (y3 : Int32) (y4 : Int32) (σ : HS), k10 y2 y3 y4 σ = some R → AW ids ad ca Γ 10 [some (.ref (ad 1)), some (.ref (ad p1)), some (.int y2), some (.int y3), some (.int y4), none] [] σ) (y2 : Int32) (y3 : Int32) (y4 : Int32) (v0 : Int32) (σ : HS), f_X6_expression_84 fE p1 k10 y2 y3 y4 v0 σ = some R → AW ids ad ca Γ 84 [some (.ref (ad 1)), some (.ref (ad p1)), some (.int y2), some (.int y3), some (.int y4), none] [.int v0, .ref (ad p1)] σ := by
    intro k10 hk10 y2 y3 y4 v0 σ h
    unfold f_X6_expression_84 at h
    refine p_callVv C (As := [.int v0]) (i := p1) hp1.1.1 (hid _ hp1.1.2) ⟨_, _, rfl⟩ (by decide) h (fun _ e => Z_X10_emit hid hp1 e) mi_X10_emit ml_RX6_138 rfl rfl (by omega) (by omega) (Nat.le_of_ble_eq_true rfl) dX6_expression_84 (fun σ1 h => ?_)
    refine p_iinc C (y := (y4 + 1)) (fun z3 => [some (.ref (ad 1)), some (.ref (ad p1)), some (.int y2), some (.int y3), some (.int z3), none]) dX6_expression_87 rfl rfl (by decide) rfl (fun _ => rfl) h (fun z3 h => ?_)
    refine a_goto C dX6_expression_90 (tgt := 10) rfl ?_
    exact hk10 _ _ _ _ h
  have j69 : ∀ (k10 : Int32 → Int32 → Int32 → HS → Option (Int32 × HS)) (hk10 : ∀ (y2 : Int32) (y3 : Int32) (y4 : Int32) (σ : HS), k10 y2 y3 y4 σ = some R → AW ids ad ca Γ 10 [some (.ref (ad 1)), some (.ref (ad p1)), some (.int y2), some (.int y3), some (.int y4), none] [] σ) (y2 : Int32) (y4 : Int32) (y5 : Int32) (v0 : Int32) (σ : HS), f_X6_expression_69 fE p1 k10 y2 y4 y5 v0 σ = some R → AW ids ad ca Γ 69 [some (.ref (ad 1)), some (.ref (ad p1)), some (.int y2), none, some (.int y4), some (.int y5)] [.int v0] σ := by
    intro k10 hk10 y2 y4 y5 v0 σ h
    unfold f_X6_expression_69 at h
    refine a_istore_n C dX6_expression_69 (i := 3) rfl (by decide) rfl (vs1 := [some (.ref (ad 1)), some (.ref (ad p1)), some (.int y2), some (.int v0), some (.int y4), some (.int y5)]) rfl ?_
    refine a_aload_n C dX6_expression_70 (i := 1) rfl rfl ?_
    refine a_iload C dX6_expression_71 rfl ?_
    refine a_bipush C dX6_expression_73 (v := 43) rfl ?_
    refine p_ic_ne C (X := y5.toInt) (Y := 43) rfl (by decide) dX6_expression_75 (tgt := 82) rfl h (fun h => ?_) (fun h => ?_)
    ·
      refine a_bipush C dX6_expression_82 (v := (-2)) rfl ?_
      refine AW.sub (vs' := [some (.ref (ad 1)), some (.ref (ad p1)), some (.int y2), some (.int v0), some (.int y4), none]) (lsub_of (by simp [lsubB])) ?_
      exact j84 k10 hk10 _ _ _ _ _ h
    ·
      refine a_iconst C dX6_expression_78 (v := (-1)) rfl ?_
      refine a_goto C dX6_expression_79 (tgt := 84) rfl ?_
      refine AW.sub (vs' := [some (.ref (ad 1)), some (.ref (ad p1)), some (.int y2), some (.int v0), some (.int y4), none]) (lsub_of (by simp [lsubB])) ?_
      exact j84 k10 hk10 _ _ _ _ _ h
  have j68 : ∀ (k10 : Int32 → Int32 → Int32 → HS → Option (Int32 × HS)) (hk10 : ∀ (y2 : Int32) (y3 : Int32) (y4 : Int32) (σ : HS), k10 y2 y3 y4 σ = some R → AW ids ad ca Γ 10 [some (.ref (ad 1)), some (.ref (ad p1)), some (.int y2), some (.int y3), some (.int y4), none] [] σ) (y2 : Int32) (y4 : Int32) (y5 : Int32) (σ : HS), f_X6_expression_68 fE p1 k10 y2 y4 y5 σ = some R → AW ids ad ca Γ 68 [some (.ref (ad 1)), some (.ref (ad p1)), some (.int y2), none, some (.int y4), some (.int y5)] [] σ := by
    intro k10 hk10 y2 y4 y5 σ h
    unfold f_X6_expression_68 at h
    refine a_iconst C dX6_expression_68 (v := 0) rfl ?_
    exact j69 k10 hk10 _ _ _ _ _ h
  have j32 : ∀ (k10 : Int32 → Int32 → Int32 → HS → Option (Int32 × HS)) (hk10 : ∀ (y2 : Int32) (y3 : Int32) (y4 : Int32) (σ : HS), k10 y2 y3 y4 σ = some R → AW ids ad ca Γ 10 [some (.ref (ad 1)), some (.ref (ad p1)), some (.int y2), some (.int y3), some (.int y4), none] [] σ) (y2 : Int32) (y3 : Int32) (y4 : Int32) (σ : HS), f_X6_expression_32 fE p1 k10 y2 y3 y4 σ = some R → AW ids ad ca Γ 32 [some (.ref (ad 1)), some (.ref (ad p1)), some (.int y2), some (.int y3), some (.int y4), none] [] σ := by
    intro k10 hk10 y2 y3 y4 σ h
    unfold f_X6_expression_32 at h
    refine a_iload C dX6_expression_32 rfl ?_
    refine a_sipush C dX6_expression_34 (v := 400) rfl ?_
    refine p_ic_ge C (X := y4.toInt) (Y := 400) rfl (by decide) dX6_expression_37 (tgt := 93) rfl h (fun h => ?_) (fun h => ?_)
    ·
      refine a_iload_n C dX6_expression_93 (i := 3) rfl rfl ?_
      refine ite_n h (fun c h => ?_)
      exact a_iret Rt dX6_expression_94 (nar_z c).1 (ret_eq (h.trans (congrArg some hR.symm)))
    ·
      refine a_aload_n C dX6_expression_40 (i := 0) rfl rfl ?_
      refine a_get C fl_RX6_53 (i := 1) kd_1 (hid 1 (by decide)) (v := .int (σ.1 1 6)) rfl dX6_expression_41 ?_
      refine p_istore C (fun z1 => [some (.ref (ad 1)), some (.ref (ad p1)), some (.int y2), some (.int y3), some (.int y4), some (.int z1)]) dX6_expression_44 (by decide) rfl (fun _ => rfl) h (fun z1 h => ?_)
      refine a_aload_n C dX6_expression_46 (i := 0) rfl rfl ?_
      refine a_iload C dX6_expression_47 rfl ?_
      refine p_callVi C (As := [.int z1]) (i := 1) kd_1 (hid 1 (by decide)) ⟨_, _, rfl⟩ (by decide) h (fun _ _ e => Z_X6_take hid e) mi_X6_take ml_RX6_77 rfl rfl (by omega) (by omega) (Nat.le_of_ble_eq_true rfl) dX6_expression_49 (fun r3 σ2 h => ?_)
      refine p_if_eq C (X := r3.toInt) rfl dX6_expression_52 (tgt := 68) rfl h (fun h => ?_) (fun h => ?_)
      ·
        refine AW.sub (vs' := [some (.ref (ad 1)), some (.ref (ad p1)), some (.int y2), none, some (.int y4), some (.int z1)]) (lsub_of (by simp [lsubB])) ?_
        exact j68 k10 hk10 _ _ _ _ h
      ·
        refine a_aload_n C dX6_expression_55 (i := 0) rfl rfl ?_
        refine a_aload_n C dX6_expression_56 (i := 1) rfl rfl ?_
        refine a_iload_n C dX6_expression_57 (i := 2) rfl rfl ?_
        refine p_callVi C (As := [.ref (ad p1), .int y2]) (i := 1) kd_1 (hid 1 (by decide)) ⟨_, _, rfl⟩ (by decide) h (fun _ _ e => Z_X6_product hid fE hE hp1 e) mi_X6_product ml_RX6_144 rfl rfl (by omega) (by omega) (Nat.le_of_ble_eq_true rfl) dX6_expression_58 (fun r5 σ4 h => ?_)
        refine p_if_eq C (X := r5.toInt) rfl dX6_expression_61 (tgt := 68) rfl h (fun h => ?_) (fun h => ?_)
        ·
          refine AW.sub (vs' := [some (.ref (ad 1)), some (.ref (ad p1)), some (.int y2), none, some (.int y4), some (.int z1)]) (lsub_of (by simp [lsubB])) ?_
          exact j68 k10 hk10 _ _ _ _ h
        ·
          refine a_iconst C dX6_expression_64 (v := 1) rfl ?_
          refine a_goto C dX6_expression_65 (tgt := 69) rfl ?_
          refine AW.sub (vs' := [some (.ref (ad 1)), some (.ref (ad p1)), some (.int y2), none, some (.int y4), some (.int z1)]) (lsub_of (by simp [lsubB])) ?_
          exact j69 k10 hk10 _ _ _ _ _ h
  have j10 : ∀ (n : Nat) (y2 : Int32) (y3 : Int32) (y4 : Int32) (σ : HS), f_X6_expression_10 fE p1 n y2 y3 y4 σ = some R → AW ids ad ca Γ 10 [some (.ref (ad 1)), some (.ref (ad p1)), some (.int y2), some (.int y3), some (.int y4), none] [] σ := by
    intro n
    induction n with
    | zero => intro y2 y3 y4 σ h; exact nn h
    | succ n ih =>
      intro y2 y3 y4 σ h
      have h : b_X6_expression_10 fE p1 (f_X6_expression_10 fE p1 n) y2 y3 y4 σ = some R := h
      unfold b_X6_expression_10 at h
      refine a_iload_n C dX6_expression_10 (i := 3) rfl rfl ?_
      refine p_if_eq C (X := y3.toInt) rfl dX6_expression_11 (tgt := 93) rfl h (fun h => ?_) (fun h => ?_)
      ·
        refine a_iload_n C dX6_expression_93 (i := 3) rfl rfl ?_
        refine ite_n h (fun c h => ?_)
        exact a_iret Rt dX6_expression_94 (nar_z c).1 (ret_eq (h.trans (congrArg some hR.symm)))
      ·
        refine a_aload_n C dX6_expression_14 (i := 0) rfl rfl ?_
        refine a_get C fl_RX6_53 (i := 1) kd_1 (hid 1 (by decide)) (v := .int (σ.1 1 6)) rfl dX6_expression_15 ?_
        refine a_bipush C dX6_expression_18 (v := 43) rfl ?_
        refine p_ic_eq C (X := (σ.1 1 6).toInt) (Y := 43) rfl (by decide) dX6_expression_20 (tgt := 32) rfl h (fun h => ?_) (fun h => ?_)
        ·
          exact j32 (f_X6_expression_10 fE p1 n) (fun y2 y3 y4 σ h => ih y2 y3 y4 σ h) _ _ _ _ h
        ·
          refine a_aload_n C dX6_expression_23 (i := 0) rfl rfl ?_
          refine a_get C fl_RX6_53 (i := 1) kd_1 (hid 1 (by decide)) (v := .int (σ.1 1 6)) rfl dX6_expression_24 ?_
          refine a_bipush C dX6_expression_27 (v := 45) rfl ?_
          refine p_ic_ne C (X := (σ.1 1 6).toInt) (Y := 45) rfl (by decide) dX6_expression_29 (tgt := 93) rfl h (fun h => ?_) (fun h => ?_)
          ·
            refine a_iload_n C dX6_expression_93 (i := 3) rfl rfl ?_
            refine ite_n h (fun c h => ?_)
            exact a_iret Rt dX6_expression_94 (nar_z c).1 (ret_eq (h.trans (congrArg some hR.symm)))
          ·
            exact j32 (f_X6_expression_10 fE p1 n) (fun y2 y3 y4 σ h => ih y2 y3 y4 σ h) _ _ _ _ h
  refine a_aload_n C dX6_expression_0 (i := 0) rfl rfl ?_
  refine a_aload_n C dX6_expression_1 (i := 1) rfl rfl ?_
  refine a_iload_n C dX6_expression_2 (i := 2) rfl rfl ?_
  refine p_callVi C (As := [.ref (ad p1), .int x2]) (i := 1) kd_1 (hid 1 (by decide)) ⟨_, _, rfl⟩ (by decide) h (fun _ _ e => Z_X6_product hid fE hE hp1 e) mi_X6_product ml_RX6_144 rfl rfl (by omega) (by omega) (Nat.le_of_ble_eq_true rfl) dX6_expression_3 (fun r2 σ1 h => ?_)
  refine a_istore_n C dX6_expression_6 (i := 3) rfl (by decide) rfl (vs1 := [some (.ref (ad 1)), some (.ref (ad p1)), some (.int x2), some (.int r2), none, none]) rfl ?_
  refine a_iconst C dX6_expression_7 (v := 0) rfl ?_
  refine a_istore C dX6_expression_8 (by decide) rfl (vs1 := [some (.ref (ad 1)), some (.ref (ad p1)), some (.int x2), some (.int r2), some (.int 0), none]) rfl ?_
  exact j10 _ _ _ _ _ h
theorem Z_X6_expression {l : Launch} {D : va_G} {ids : List Nat} {ad : Nat → Nat} {ca : Nat → ClassId} (hid : ∀ i, i < 277 → i ∈ ids) : ∀ (n : Nat) (p1 : Nat) (x2 : Int32) (σ s0 : HS) (r0 : Int32), txtOK p1 → f_X6_expression n p1 x2 σ = some (r0, s0) → Ki l D ids ad ca yX6_expression cX6_expression 6 .boolean (4 * n) (90 * n) [.ref (ad 1), .ref (ad p1), .int x2] σ (fun r σ1 => r = r0 ∧ σ1 = s0) := by
  intro n
  induction n with
  | zero => intro p1 x2 σ s0 r0 hp h; exact nn h
  | succ n ih => intro p1 x2 σ s0 r0 hp h; exact Zg_X6_expression hid (f_X6_expression n) ih hp h
set_option maxHeartbeats 4000000 in
set_option maxRecDepth 100000 in
theorem Z_X6_condition {l : Launch} {D : va_G} {ids : List Nat} {ad : Nat → Nat} {ca : Nat → ClassId} {σ : HS} {p1 : Nat} {r0 : Int32} {s0 : HS} (hid : ∀ i, i < 277 → i ∈ ids) (hp1 : txtOK p1) (h : f_X6_condition p1 σ = some (r0, s0)) : Ki l D ids ad ca yX6_condition cX6_condition 3 .boolean 33 745 [.ref (ad 1), .ref (ad p1)] σ (fun r σ1 => r = r0 ∧ σ1 = s0) := by
  obtain ⟨R, hR⟩ : ∃ R, (r0, s0) = R := ⟨_, rfl⟩
  replace h := h.trans (congrArg some hR)
  refine Ki.of (by decide) (Nat.le_of_ble_eq_true rfl) 1 (fun Γ C Rt => ?_)
  show AW ids ad ca Γ 0 [some (.ref (ad 1)), some (.ref (ad p1)), none] [] σ
  unfold f_X6_condition at h
  refine a_aload_n C dX6_condition_0 (i := 0) rfl rfl ?_
  refine a_bipush C dX6_condition_1 (v := 8) rfl ?_
  refine p_callVi C (As := [.int 8]) (i := 1) kd_1 (hid 1 (by decide)) ⟨_, _, rfl⟩ (by decide) h (fun _ _ e => Z_X6_take hid e) mi_X6_take ml_RX6_77 rfl rfl (Nat.le_of_ble_eq_true rfl) (Nat.le_of_ble_eq_true rfl) (Nat.le_of_ble_eq_true rfl) dX6_condition_3 (fun r2 σ1 h => ?_)
  refine p_if_eq C (X := r2.toInt) rfl dX6_condition_6 (tgt := 45) rfl h (fun h => ?_) (fun h => ?_)
  ·
    refine a_iconst C dX6_condition_45 (v := 0) rfl ?_
    exact a_iret Rt dX6_condition_46 (nar_z (by decide)).1 (ret_eq (h.trans (congrArg some hR.symm)))
  ·
    refine a_aload_n C dX6_condition_9 (i := 0) rfl rfl ?_
    refine a_aload_n C dX6_condition_10 (i := 1) rfl rfl ?_
    refine a_iconst C dX6_condition_11 (v := 0) rfl ?_
    refine p_callVi C (As := [.ref (ad p1), .int 0]) (i := 1) kd_1 (hid 1 (by decide)) ⟨_, _, rfl⟩ (by decide) h (fun _ _ e => Z_X6_expression hid 8 _ _ _ _ _ hp1 e) mi_X6_expression ml_RX6_135 rfl rfl (Nat.le_of_ble_eq_true rfl) (Nat.le_of_ble_eq_true rfl) (Nat.le_of_ble_eq_true rfl) dX6_condition_12 (fun r4 σ3 h => ?_)
    refine p_if_eq C (X := r4.toInt) rfl dX6_condition_15 (tgt := 45) rfl h (fun h => ?_) (fun h => ?_)
    ·
      refine a_iconst C dX6_condition_45 (v := 0) rfl ?_
      exact a_iret Rt dX6_condition_46 (nar_z (by decide)).1 (ret_eq (h.trans (congrArg some hR.symm)))
    ·
      refine a_aload_n C dX6_condition_18 (i := 0) rfl rfl ?_
      refine a_bipush C dX6_condition_19 (v := 60) rfl ?_
      refine p_callVi C (As := [.int 60]) (i := 1) kd_1 (hid 1 (by decide)) ⟨_, _, rfl⟩ (by decide) h (fun _ _ e => Z_X6_take hid e) mi_X6_take ml_RX6_77 rfl rfl (Nat.le_of_ble_eq_true rfl) (Nat.le_of_ble_eq_true rfl) (Nat.le_of_ble_eq_true rfl) dX6_condition_21 (fun r6 σ5 h => ?_)
      refine p_if_eq C (X := r6.toInt) rfl dX6_condition_24 (tgt := 45) rfl h (fun h => ?_) (fun h => ?_)
      ·
        refine a_iconst C dX6_condition_45 (v := 0) rfl ?_
        exact a_iret Rt dX6_condition_46 (nar_z (by decide)).1 (ret_eq (h.trans (congrArg some hR.symm)))
      ·
        refine a_aload_n C dX6_condition_27 (i := 0) rfl rfl ?_
        refine a_aload_n C dX6_condition_28 (i := 1) rfl rfl ?_
        refine a_iconst C dX6_condition_29 (v := 0) rfl ?_
        refine p_callVi C (As := [.ref (ad p1), .int 0]) (i := 1) kd_1 (hid 1 (by decide)) ⟨_, _, rfl⟩ (by decide) h (fun _ _ e => Z_X6_expression hid 8 _ _ _ _ _ hp1 e) mi_X6_expression ml_RX6_135 rfl rfl (Nat.le_of_ble_eq_true rfl) (Nat.le_of_ble_eq_true rfl) (Nat.le_of_ble_eq_true rfl) dX6_condition_30 (fun r8 σ7 h => ?_)
        refine p_if_eq C (X := r8.toInt) rfl dX6_condition_33 (tgt := 45) rfl h (fun h => ?_) (fun h => ?_)
        ·
          refine a_iconst C dX6_condition_45 (v := 0) rfl ?_
          exact a_iret Rt dX6_condition_46 (nar_z (by decide)).1 (ret_eq (h.trans (congrArg some hR.symm)))
        ·
          refine a_aload_n C dX6_condition_36 (i := 0) rfl rfl ?_
          refine a_bipush C dX6_condition_37 (v := 9) rfl ?_
          refine p_callVi C (As := [.int 9]) (i := 1) kd_1 (hid 1 (by decide)) ⟨_, _, rfl⟩ (by decide) h (fun _ _ e => Z_X6_take hid e) mi_X6_take ml_RX6_77 rfl rfl (Nat.le_of_ble_eq_true rfl) (Nat.le_of_ble_eq_true rfl) (Nat.le_of_ble_eq_true rfl) dX6_condition_39 (fun r10 σ9 h => ?_)
          refine p_if_ne C (X := r10.toInt) rfl dX6_condition_42 (tgt := 47) rfl h (fun h => ?_) (fun h => ?_)
          ·
            refine a_aload_n C dX6_condition_47 (i := 1) rfl rfl ?_
            refine a_bipush C dX6_condition_48 (v := (-5)) rfl ?_
            refine p_callVv C (As := [.int (-5)]) (i := p1) hp1.1.1 (hid _ hp1.1.2) ⟨_, _, rfl⟩ (by decide) h (fun _ e => Z_X10_emit hid hp1 e) mi_X10_emit ml_RX6_138 rfl rfl (Nat.le_of_ble_eq_true rfl) (Nat.le_of_ble_eq_true rfl) (Nat.le_of_ble_eq_true rfl) dX6_condition_50 (fun σ11 h => ?_)
            refine a_aload_n C dX6_condition_53 (i := 1) rfl rfl ?_
            refine a_get C fl_RX6_129 (i := p1) hp1.1.1 (hid _ hp1.1.2) (v := .int (σ11.1 p1 8)) rfl dX6_condition_54 ?_
            refine p_istore_n C (fun z13 => [some (.ref (ad 1)), some (.ref (ad p1)), some (.int z13)]) dX6_condition_57 (i := 2) rfl (by decide) rfl (fun _ => rfl) h (fun z13 h => ?_)
            refine a_aload_n C dX6_condition_58 (i := 1) rfl rfl ?_
            refine a_iconst C dX6_condition_59 (v := 0) rfl ?_
            refine p_callVv C (As := [.int 0]) (i := p1) hp1.1.1 (hid _ hp1.1.2) ⟨_, _, rfl⟩ (by decide) h (fun _ e => Z_X10_emit hid hp1 e) mi_X10_emit ml_RX6_138 rfl rfl (Nat.le_of_ble_eq_true rfl) (Nat.le_of_ble_eq_true rfl) (Nat.le_of_ble_eq_true rfl) dX6_condition_60 (fun σ14 h => ?_)
            refine a_aload_n C dX6_condition_63 (i := 0) rfl rfl ?_
            refine a_aload_n C dX6_condition_64 (i := 1) rfl rfl ?_
            refine a_iconst C dX6_condition_65 (v := 0) rfl ?_
            refine p_callVi C (As := [.ref (ad p1), .int 0]) (i := 1) kd_1 (hid 1 (by decide)) ⟨_, _, rfl⟩ (by decide) h (fun _ _ e => Z_X6_expression hid 8 _ _ _ _ _ hp1 e) mi_X6_expression ml_RX6_135 rfl rfl (Nat.le_of_ble_eq_true rfl) (Nat.le_of_ble_eq_true rfl) (Nat.le_of_ble_eq_true rfl) dX6_condition_66 (fun r17 σ16 h => ?_)
            refine p_if_eq C (X := r17.toInt) rfl dX6_condition_69 (tgt := 81) rfl h (fun h => ?_) (fun h => ?_)
            ·
              refine a_iconst C dX6_condition_81 (v := 0) rfl ?_
              exact a_iret Rt dX6_condition_82 (nar_z (by decide)).1 (ret_eq (h.trans (congrArg some hR.symm)))
            ·
              refine a_aload_n C dX6_condition_72 (i := 0) rfl rfl ?_
              refine a_bipush C dX6_condition_73 (v := 10) rfl ?_
              refine p_callVi C (As := [.int 10]) (i := 1) kd_1 (hid 1 (by decide)) ⟨_, _, rfl⟩ (by decide) h (fun _ _ e => Z_X6_take hid e) mi_X6_take ml_RX6_77 rfl rfl (Nat.le_of_ble_eq_true rfl) (Nat.le_of_ble_eq_true rfl) (Nat.le_of_ble_eq_true rfl) dX6_condition_75 (fun r19 σ18 h => ?_)
              refine p_if_ne C (X := r19.toInt) rfl dX6_condition_78 (tgt := 83) rfl h (fun h => ?_) (fun h => ?_)
              ·
                refine a_aload_n C dX6_condition_83 (i := 1) rfl rfl ?_
                refine a_bipush C dX6_condition_84 (v := (-6)) rfl ?_
                refine p_callVv C (As := [.int (-6)]) (i := p1) hp1.1.1 (hid _ hp1.1.2) ⟨_, _, rfl⟩ (by decide) h (fun _ e => Z_X10_emit hid hp1 e) mi_X10_emit ml_RX6_138 rfl rfl (Nat.le_of_ble_eq_true rfl) (Nat.le_of_ble_eq_true rfl) (Nat.le_of_ble_eq_true rfl) dX6_condition_86 (fun σ20 h => ?_)
                refine a_iload_n C dX6_condition_89 (i := 2) rfl rfl ?_
                refine a_aload_n C dX6_condition_90 (i := 1) rfl rfl ?_
                refine a_get C fl_RX6_141 (i := p1) hp1.1.1 (hid _ hp1.1.2) (v := .ref (ad (p1 + 11))) rfl dX6_condition_91 ?_
                refine a_alen C (by rw [hp1.2.2.2.2.2.1.1.1]; decide) (hid _ hp1.2.2.2.2.2.1.1.2) rfl dX6_condition_94 ?_
                refine p_ic_ge C (X := z13.toInt) (Y := (Int32.ofNat (al (p1 + 11))).toInt) rfl rfl dX6_condition_95 (tgt := 108) rfl h (fun h => ?_) (fun h => ?_)
                ·
                  refine a_iconst C dX6_condition_108 (v := 1) rfl ?_
                  exact a_iret Rt dX6_condition_109 (nar_z (by decide)).1 (ret_eq (h.trans (congrArg some hR.symm)))
                ·
                  refine a_aload_n C dX6_condition_98 (i := 1) rfl rfl ?_
                  refine a_get C fl_RX6_141 (i := p1) hp1.1.1 (hid _ hp1.1.2) (v := .ref (ad (p1 + 11))) rfl dX6_condition_99 ?_
                  refine a_iload_n C dX6_condition_102 (i := 2) rfl rfl ?_
                  refine a_aload_n C dX6_condition_103 (i := 1) rfl rfl ?_
                  refine a_get C fl_RX6_129 (i := p1) hp1.1.1 (hid _ hp1.1.2) (v := .int (σ20.1 p1 8)) rfl dX6_condition_104 ?_
                  refine p_iast C (i := (p1 + 11)) hp1.2.2.2.2.2.1.1 hid (by rw [hp1.2.2.2.2.2.1.2]; rfl) dX6_condition_107 h (fun σ22 h => ?_)
                  refine a_iconst C dX6_condition_108 (v := 1) rfl ?_
                  exact a_iret Rt dX6_condition_109 (nar_z (by decide)).1 (ret_eq (h.trans (congrArg some hR.symm)))
              ·
                refine a_iconst C dX6_condition_81 (v := 0) rfl ?_
                exact a_iret Rt dX6_condition_82 (nar_z (by decide)).1 (ret_eq (h.trans (congrArg some hR.symm)))
          ·
            refine a_iconst C dX6_condition_45 (v := 0) rfl ?_
            exact a_iret Rt dX6_condition_46 (nar_z (by decide)).1 (ret_eq (h.trans (congrArg some hR.symm)))
set_option maxHeartbeats 4000000 in
set_option maxRecDepth 100000 in
theorem Z_X6_tellingLaw {l : Launch} {D : va_G} {ids : List Nat} {ad : Nat → Nat} {ca : Nat → ClassId} {σ : HS} {p1 : Nat} {x2 : Int32} {r0 : Int32} {s0 : HS} (hid : ∀ i, i < 277 → i ∈ ids) (hp1 : txtOK p1) (h : f_X6_tellingLaw p1 x2 σ = some (r0, s0)) : Ki l D ids ad ca yX6_tellingLaw cX6_tellingLaw 4 .boolean 34 767 [.ref (ad 1), .ref (ad p1), .int x2] σ (fun r σ1 => r = r0 ∧ σ1 = s0) := by
  obtain ⟨R, hR⟩ : ∃ R, (r0, s0) = R := ⟨_, rfl⟩
  replace h := h.trans (congrArg some hR)
  refine Ki.of (by decide) (Nat.le_of_ble_eq_true rfl) 1 (fun Γ C Rt => ?_)
  show AW ids ad ca Γ 0 [some (.ref (ad 1)), some (.ref (ad p1)), some (.int x2), none] [] σ
  unfold f_X6_tellingLaw at h
  have j63 : ∀ (σ : HS), f_X6_tellingLaw_63 p1 σ = some R → AW ids ad ca Γ 63 [some (.ref (ad 1)), some (.ref (ad p1)), none, none] [] σ := by
    intro σ h
    unfold f_X6_tellingLaw_63 at h
    refine a_aload_n C dX6_tellingLaw_63 (i := 0) rfl rfl ?_
    refine a_get C fl_RX6_53 (i := 1) kd_1 (hid 1 (by decide)) (v := .int (σ.1 1 6)) rfl dX6_tellingLaw_64 ?_
    refine a_bipush C dX6_tellingLaw_67 (v := 8) rfl ?_
    refine p_ic_ne C (X := (σ.1 1 6).toInt) (Y := 8) rfl (by decide) dX6_tellingLaw_69 (tgt := 78) rfl h (fun h => ?_) (fun h => ?_)
    ·
      refine a_aload_n C dX6_tellingLaw_78 (i := 0) rfl rfl ?_
      refine a_aload_n C dX6_tellingLaw_79 (i := 1) rfl rfl ?_
      refine a_iconst C dX6_tellingLaw_80 (v := 0) rfl ?_
      refine p_callVi C (As := [.ref (ad p1), .int 0]) (i := 1) kd_1 (hid 1 (by decide)) ⟨_, _, rfl⟩ (by decide) h (fun _ _ e => Z_X6_expression hid 8 _ _ _ _ _ hp1 e) mi_X6_expression ml_RX6_135 rfl rfl (Nat.le_of_ble_eq_true rfl) (Nat.le_of_ble_eq_true rfl) (Nat.le_of_ble_eq_true rfl) dX6_tellingLaw_81 (fun r2 σ1 h => ?_)
      refine p_if_ne C (X := r2.toInt) rfl dX6_tellingLaw_84 (tgt := 89) rfl h (fun h => ?_) (fun h => ?_)
      ·
        refine a_aload_n C dX6_tellingLaw_89 (i := 1) rfl rfl ?_
        refine a_bipush C dX6_tellingLaw_90 (v := (-6)) rfl ?_
        refine p_callVv C (As := [.int (-6)]) (i := p1) hp1.1.1 (hid _ hp1.1.2) ⟨_, _, rfl⟩ (by decide) h (fun _ e => Z_X10_emit hid hp1 e) mi_X10_emit ml_RX6_138 rfl rfl (Nat.le_of_ble_eq_true rfl) (Nat.le_of_ble_eq_true rfl) (Nat.le_of_ble_eq_true rfl) dX6_tellingLaw_92 (fun σ3 h => ?_)
        refine a_aload_n C dX6_tellingLaw_95 (i := 0) rfl rfl ?_
        refine a_bipush C dX6_tellingLaw_96 (v := 59) rfl ?_
        refine p_callVi C (As := [.int 59]) (i := 1) kd_1 (hid 1 (by decide)) ⟨_, _, rfl⟩ (by decide) h (fun _ _ e => Z_X6_take hid e) mi_X6_take ml_RX6_77 rfl rfl (Nat.le_of_ble_eq_true rfl) (Nat.le_of_ble_eq_true rfl) (Nat.le_of_ble_eq_true rfl) dX6_tellingLaw_98 (fun r6 σ5 h => ?_)
        refine ite_n h (fun c h => ?_)
        exact a_iret Rt dX6_tellingLaw_101 (nar_z c).1 (ret_eq (h.trans (congrArg some hR.symm)))
      ·
        refine a_iconst C dX6_tellingLaw_87 (v := 0) rfl ?_
        exact a_iret Rt dX6_tellingLaw_88 (nar_z (by decide)).1 (ret_eq (h.trans (congrArg some hR.symm)))
    ·
      refine a_aload_n C dX6_tellingLaw_72 (i := 0) rfl rfl ?_
      refine a_iconst C dX6_tellingLaw_73 (v := 2) rfl ?_
      refine p_callVi C (As := [.int 2]) (i := 1) kd_1 (hid 1 (by decide)) ⟨_, _, rfl⟩ (by decide) h (fun _ _ e => Z_X6_refuse hid e) mi_X6_refuse ml_RX6_60 rfl rfl (Nat.le_of_ble_eq_true rfl) (Nat.le_of_ble_eq_true rfl) (Nat.le_of_ble_eq_true rfl) dX6_tellingLaw_74 (fun r8 σ7 h => ?_)
      refine ite_n h (fun c h => ?_)
      exact a_iret Rt dX6_tellingLaw_77 (nar_z c).1 (ret_eq (h.trans (congrArg some hR.symm)))
  have j33 : ∀ (n : Nat) (y3 : Int32) (σ : HS), f_X6_tellingLaw_33 p1 n y3 σ = some R → AW ids ad ca Γ 33 [some (.ref (ad 1)), some (.ref (ad p1)), none, some (.int y3)] [] σ := by
    intro n
    induction n with
    | zero => intro y3 σ h; exact nn h
    | succ n ih =>
      intro y3 σ h
      have h : b_X6_tellingLaw_33 p1 (f_X6_tellingLaw_33 p1 n) y3 σ = some R := h
      unfold b_X6_tellingLaw_33 at h
      refine a_aload_n C dX6_tellingLaw_33 (i := 0) rfl rfl ?_
      refine a_get C fl_RX6_53 (i := 1) kd_1 (hid 1 (by decide)) (v := .int (σ.1 1 6)) rfl dX6_tellingLaw_34 ?_
      refine a_bipush C dX6_tellingLaw_37 (v := 8) rfl ?_
      refine p_ic_ne C (X := (σ.1 1 6).toInt) (Y := 8) rfl (by decide) dX6_tellingLaw_39 (tgt := 63) rfl h (fun h => ?_) (fun h => ?_)
      ·
        refine AW.sub (vs' := [some (.ref (ad 1)), some (.ref (ad p1)), none, none]) (lsub_of (by simp [lsubB])) ?_
        exact j63 _ h
      ·
        refine a_iload_n C dX6_tellingLaw_42 (i := 3) rfl rfl ?_
        refine a_iconst C dX6_tellingLaw_43 (v := 4) rfl ?_
        refine p_ic_ge C (X := y3.toInt) (Y := 4) rfl (by decide) dX6_tellingLaw_44 (tgt := 63) rfl h (fun h => ?_) (fun h => ?_)
        ·
          refine AW.sub (vs' := [some (.ref (ad 1)), some (.ref (ad p1)), none, none]) (lsub_of (by simp [lsubB])) ?_
          exact j63 _ h
        ·
          refine a_aload_n C dX6_tellingLaw_47 (i := 0) rfl rfl ?_
          refine a_aload_n C dX6_tellingLaw_48 (i := 1) rfl rfl ?_
          refine p_callVi C (As := [.ref (ad p1)]) (i := 1) kd_1 (hid 1 (by decide)) ⟨_, _, rfl⟩ (by decide) h (fun _ _ e => Z_X6_condition hid hp1 e) mi_X6_condition ml_RX6_132 rfl rfl (Nat.le_of_ble_eq_true rfl) (Nat.le_of_ble_eq_true rfl) (Nat.le_of_ble_eq_true rfl) dX6_tellingLaw_49 (fun r2 σ1 h => ?_)
          refine p_if_ne C (X := r2.toInt) rfl dX6_tellingLaw_52 (tgt := 57) rfl h (fun h => ?_) (fun h => ?_)
          ·
            refine p_iinc C (y := (y3 + 1)) (fun z3 => [some (.ref (ad 1)), some (.ref (ad p1)), none, some (.int z3)]) dX6_tellingLaw_57 rfl rfl (by decide) rfl (fun _ => rfl) h (fun z3 h => ?_)
            refine a_goto C dX6_tellingLaw_60 (tgt := 33) rfl ?_
            exact ih _ _ h
          ·
            refine a_iconst C dX6_tellingLaw_55 (v := 0) rfl ?_
            exact a_iret Rt dX6_tellingLaw_56 (nar_z (by decide)).1 (ret_eq (h.trans (congrArg some hR.symm)))
  refine a_aload_n C dX6_tellingLaw_0 (i := 1) rfl rfl ?_
  refine a_get C fl_RX6_126 (i := p1) hp1.1.1 (hid _ hp1.1.2) (v := .ref (ad (p1 + 12))) rfl dX6_tellingLaw_1 ?_
  refine a_iload_n C dX6_tellingLaw_4 (i := 2) rfl rfl ?_
  refine a_iconst C dX6_tellingLaw_5 (v := 2) rfl ?_
  refine a_isub C dX6_tellingLaw_6 ?_
  refine a_aload_n C dX6_tellingLaw_7 (i := 1) rfl rfl ?_
  refine a_get C fl_RX6_129 (i := p1) hp1.1.1 (hid _ hp1.1.2) (v := .int (σ.1 p1 8)) rfl dX6_tellingLaw_8 ?_
  refine p_iast C (i := (p1 + 12)) hp1.2.2.2.2.2.2.1.1 hid (by rw [hp1.2.2.2.2.2.2.1.2]; rfl) dX6_tellingLaw_11 h (fun σ1 h => ?_)
  refine a_aload_n C dX6_tellingLaw_12 (i := 0) rfl rfl ?_
  refine a_iload_n C dX6_tellingLaw_13 (i := 2) rfl rfl ?_
  refine p_callVi C (As := [.int x2]) (i := 1) kd_1 (hid 1 (by decide)) ⟨_, _, rfl⟩ (by decide) h (fun _ _ e => Z_X6_take hid e) mi_X6_take ml_RX6_77 rfl rfl (Nat.le_of_ble_eq_true rfl) (Nat.le_of_ble_eq_true rfl) (Nat.le_of_ble_eq_true rfl) dX6_tellingLaw_14 (fun r3 σ2 h => ?_)
  refine p_if_eq C (X := r3.toInt) rfl dX6_tellingLaw_17 (tgt := 29) rfl h (fun h => ?_) (fun h => ?_)
  ·
    refine a_iconst C dX6_tellingLaw_29 (v := 0) rfl ?_
    exact a_iret Rt dX6_tellingLaw_30 (nar_z (by decide)).1 (ret_eq (h.trans (congrArg some hR.symm)))
  ·
    refine a_aload_n C dX6_tellingLaw_20 (i := 0) rfl rfl ?_
    refine a_bipush C dX6_tellingLaw_21 (v := 61) rfl ?_
    refine p_callVi C (As := [.int 61]) (i := 1) kd_1 (hid 1 (by decide)) ⟨_, _, rfl⟩ (by decide) h (fun _ _ e => Z_X6_take hid e) mi_X6_take ml_RX6_77 rfl rfl (Nat.le_of_ble_eq_true rfl) (Nat.le_of_ble_eq_true rfl) (Nat.le_of_ble_eq_true rfl) dX6_tellingLaw_23 (fun r5 σ4 h => ?_)
    refine p_if_ne C (X := r5.toInt) rfl dX6_tellingLaw_26 (tgt := 31) rfl h (fun h => ?_) (fun h => ?_)
    ·
      refine a_iconst C dX6_tellingLaw_31 (v := 0) rfl ?_
      refine a_istore_n C dX6_tellingLaw_32 (i := 3) rfl (by decide) rfl (vs1 := [some (.ref (ad 1)), some (.ref (ad p1)), some (.int x2), some (.int 0)]) rfl ?_
      refine AW.sub (vs' := [some (.ref (ad 1)), some (.ref (ad p1)), none, some (.int 0)]) (lsub_of (by simp [lsubB])) ?_
      exact j33 _ _ _ h
    ·
      refine a_iconst C dX6_tellingLaw_29 (v := 0) rfl ?_
      exact a_iret Rt dX6_tellingLaw_30 (nar_z (by decide)).1 (ret_eq (h.trans (congrArg some hR.symm)))
set_option maxHeartbeats 4000000 in
set_option maxRecDepth 100000 in
theorem Z_X6_takeName {l : Launch} {D : va_G} {ids : List Nat} {ad : Nat → Nat} {ca : Nat → ClassId} {σ : HS} {r0 : Int32} {s0 : HS} (hid : ∀ i, i < 277 → i ∈ ids) (h : f_X6_takeName σ = some (r0, s0)) : Ki l D ids ad ca yX6_takeName cX6_takeName 4 .boolean 2 42 [.ref (ad 1)] σ (fun r σ1 => r = r0 ∧ σ1 = s0) := by
  obtain ⟨R, hR⟩ : ∃ R, (r0, s0) = R := ⟨_, rfl⟩
  replace h := h.trans (congrArg some hR)
  refine Ki.of (by decide) (Nat.le_of_ble_eq_true rfl) 3 (fun Γ C Rt => ?_)
  show AW ids ad ca Γ 0 [some (.ref (ad 1)), none, none, none] [] σ
  unfold f_X6_takeName at h
  have j86 : ∀ (σ : HS), f_X6_takeName_86 σ = some R → AW ids ad ca Γ 86 [some (.ref (ad 1)), none, none, none] [] σ := by
    intro σ h
    unfold f_X6_takeName_86 at h
    refine a_aload_n C dX6_takeName_86 (i := 0) rfl rfl ?_
    refine a_bipush C dX6_takeName_87 (v := 20) rfl ?_
    refine p_callVi C (As := [.int 20]) (i := 1) kd_1 (hid 1 (by decide)) ⟨_, _, rfl⟩ (by decide) h (fun _ _ e => Z_X6_take hid e) mi_X6_take ml_RX6_77 rfl rfl (Nat.le_of_ble_eq_true rfl) (Nat.le_of_ble_eq_true rfl) (Nat.le_of_ble_eq_true rfl) dX6_takeName_89 (fun r2 σ1 h => ?_)
    refine ite_n h (fun c h => ?_)
    exact a_iret Rt dX6_takeName_92 (nar_z c).1 (ret_eq (h.trans (congrArg some hR.symm)))
  have j48 : ∀ (k15 : Int64 → Int32 → HS → Option (Int32 × HS)) (hk15 : ∀ (y1 : Int64) (y3 : Int32) (σ : HS), k15 y1 y3 σ = some R → AW ids ad ca Γ 15 [some (.ref (ad 1)), some (.long y1), none, some (.int y3)] [] σ) (y1 : Int64) (y3 : Int32) (σ : HS), f_X6_takeName_48 k15 y1 y3 σ = some R → AW ids ad ca Γ 48 [some (.ref (ad 1)), some (.long y1), none, some (.int y3)] [] σ := by
    intro k15 hk15 y1 y3 σ h
    unfold f_X6_takeName_48 at h
    refine p_iinc C (y := (y3 + 1)) (fun z1 => [some (.ref (ad 1)), some (.long y1), none, some (.int z1)]) dX6_takeName_48 rfl rfl (by decide) rfl (fun _ => rfl) h (fun z1 h => ?_)
    refine a_goto C dX6_takeName_51 (tgt := 15) rfl ?_
    exact hk15 _ _ _ h
  have j15 : ∀ (n : Nat) (y1 : Int64) (y3 : Int32) (σ : HS), f_X6_takeName_15 n y1 y3 σ = some R → AW ids ad ca Γ 15 [some (.ref (ad 1)), some (.long y1), none, some (.int y3)] [] σ := by
    intro n
    induction n with
    | zero => intro y1 y3 σ h; exact nn h
    | succ n ih =>
      intro y1 y3 σ h
      have h : b_X6_takeName_15 (f_X6_takeName_15 n) y1 y3 σ = some R := h
      unfold b_X6_takeName_15 at h
      refine a_iload_n C dX6_takeName_15 (i := 3) rfl rfl ?_
      refine a_aload_n C dX6_takeName_16 (i := 0) rfl rfl ?_
      refine a_get C fl_RX6_31 (i := 1) kd_1 (hid 1 (by decide)) (v := .int (σ.1 1 9)) rfl dX6_takeName_17 ?_
      refine p_ic_ge C (X := y3.toInt) (Y := (σ.1 1 9).toInt) rfl rfl dX6_takeName_20 (tgt := 54) rfl h (fun h => ?_) (fun h => ?_)
      ·
        refine a_aload_n C dX6_takeName_54 (i := 0) rfl rfl ?_
        refine a_get C fl_RX6_31 (i := 1) kd_1 (hid 1 (by decide)) (v := .int (σ.1 1 9)) rfl dX6_takeName_55 ?_
        refine a_aload_n C dX6_takeName_58 (i := 0) rfl rfl ?_
        refine a_get C fl_RX6_22 (i := 1) kd_1 (hid 1 (by decide)) (v := .ref (ad 7)) rfl dX6_takeName_59 ?_
        refine a_alen C (by rw [kd_7]; decide) (hid 7 (by decide)) (v := 12) (by rw [al_7]; rfl) dX6_takeName_62 ?_
        refine p_ic_ge C (X := (σ.1 1 9).toInt) (Y := 12) rfl (by decide) dX6_takeName_63 (tgt := 86) rfl h (fun h => ?_) (fun h => ?_)
        ·
          refine AW.sub (vs' := [some (.ref (ad 1)), none, none, none]) (lsub_of (by simp [lsubB])) ?_
          exact j86 _ h
        ·
          refine a_aload_n C dX6_takeName_66 (i := 0) rfl rfl ?_
          refine a_get C fl_RX6_22 (i := 1) kd_1 (hid 1 (by decide)) (v := .ref (ad 7)) rfl dX6_takeName_67 ?_
          refine a_aload_n C dX6_takeName_70 (i := 0) rfl rfl ?_
          refine a_get C fl_RX6_31 (i := 1) kd_1 (hid 1 (by decide)) (v := .int (σ.1 1 9)) rfl dX6_takeName_71 ?_
          refine a_lload_n C dX6_takeName_74 (i := 1) rfl rfl ?_
          refine p_last C (i := 7) kd_7 (hid 7 (by decide)) (by rw [al_7]; rfl) dX6_takeName_75 h (fun σ1 h => ?_)
          refine a_aload_n C dX6_takeName_76 (i := 0) rfl rfl ?_
          refine a_dup C dX6_takeName_77 rfl ?_
          refine a_get C fl_RX6_31 (i := 1) kd_1 (hid 1 (by decide)) (v := .int (σ1.1 1 9)) rfl dX6_takeName_78 ?_
          refine a_iconst C dX6_takeName_81 (v := 1) rfl ?_
          refine a_iadd C dX6_takeName_82 ?_
          refine p_put C fp_RX6_31 (i := 1) kd_1 (hid 1 (by decide)) rfl rfl dX6_takeName_83 h (fun σ2 h => ?_)
          refine AW.sub (vs' := [some (.ref (ad 1)), none, none, none]) (lsub_of (by simp [lsubB])) ?_
          exact j86 _ h
      ·
        refine a_aload_n C dX6_takeName_23 (i := 0) rfl rfl ?_
        refine a_get C fl_RX6_53 (i := 1) kd_1 (hid 1 (by decide)) (v := .int (σ.1 1 6)) rfl dX6_takeName_24 ?_
        refine a_bipush C dX6_takeName_27 (v := 20) rfl ?_
        refine p_ic_ne C (X := (σ.1 1 6).toInt) (Y := 20) rfl (by decide) dX6_takeName_29 (tgt := 48) rfl h (fun h => ?_) (fun h => ?_)
        ·
          exact j48 (f_X6_takeName_15 n) (fun y1 y3 σ h => ih y1 y3 σ h) _ _ _ h
        ·
          refine a_aload_n C dX6_takeName_32 (i := 0) rfl rfl ?_
          refine a_get C fl_RX6_22 (i := 1) kd_1 (hid 1 (by decide)) (v := .ref (ad 7)) rfl dX6_takeName_33 ?_
          refine a_iload_n C dX6_takeName_36 (i := 3) rfl rfl ?_
          refine p_lald C (i := 7) kd_7 (hid 7 (by decide)) (by rw [al_7]; rfl) dX6_takeName_37 h (fun h => ?_)
          refine a_lload_n C dX6_takeName_38 (i := 1) rfl rfl ?_
          refine a_lcmp C dX6_takeName_39 ?_
          refine p_if_ne C (X := (lg_cmp (σ.2.1 7 y3.toInt.toNat) y1).toInt) rfl dX6_takeName_40 (tgt := 48) rfl h (fun h => ?_) (fun h => ?_)
          ·
            exact j48 (f_X6_takeName_15 n) (fun y1 y3 σ h => ih y1 y3 σ h) _ _ _ h
          ·
            refine a_aload_n C dX6_takeName_43 (i := 0) rfl rfl ?_
            refine a_iconst C dX6_takeName_44 (v := 3) rfl ?_
            refine p_callVv C (As := [.int 3]) (i := 1) kd_1 (hid 1 (by decide)) ⟨_, _, rfl⟩ (by decide) h (fun _ e => Z_X6_noteLater hid e) mi_X6_noteLater ml_RX6_73 rfl rfl (Nat.le_of_ble_eq_true rfl) (Nat.le_of_ble_eq_true rfl) (Nat.le_of_ble_eq_true rfl) dX6_takeName_45 (fun σ3 h => ?_)
            exact j48 (f_X6_takeName_15 n) (fun y1 y3 σ h => ih y1 y3 σ h) _ _ _ h
  refine a_aload_n C dX6_takeName_0 (i := 0) rfl rfl ?_
  refine a_get C fl_RX6_12 (i := 1) kd_1 (hid 1 (by decide)) (v := .ref (ad 2)) rfl dX6_takeName_1 ?_
  refine a_get C fl_RX6_64 (i := 2) kd_2 (hid 2 (by decide)) (v := .ref (ad 6)) rfl dX6_takeName_4 ?_
  refine a_aload_n C dX6_takeName_7 (i := 0) rfl rfl ?_
  refine a_get C fl_RX6_46 (i := 1) kd_1 (hid 1 (by decide)) (v := .int (σ.1 1 5)) rfl dX6_takeName_8 ?_
  refine p_lald C (i := 6) kd_6 (hid 6 (by decide)) (by rw [al_6]; rfl) dX6_takeName_11 h (fun h => ?_)
  refine p_lstore_n C (fun z1 => [some (.ref (ad 1)), some (.long z1), none, none]) dX6_takeName_12 (i := 1) rfl (by decide) rfl (fun _ => rfl) h (fun z1 h => ?_)
  refine a_iconst C dX6_takeName_13 (v := 0) rfl ?_
  refine a_istore_n C dX6_takeName_14 (i := 3) rfl (by decide) rfl (vs1 := [some (.ref (ad 1)), some (.long z1), none, some (.int 0)]) rfl ?_
  exact j15 _ _ _ _ h
set_option maxHeartbeats 4000000 in
set_option maxRecDepth 100000 in
theorem Z_X6_tellingPattern {l : Launch} {D : va_G} {ids : List Nat} {ad : Nat → Nat} {ca : Nat → ClassId} {σ : HS} {p1 : Nat} {r0 : Int32} {s0 : HS} (hid : ∀ i, i < 277 → i ∈ ids) (hp1 : txtOK p1) (h : f_X6_tellingPattern p1 σ = some (r0, s0)) : Ki l D ids ad ca yX6_tellingPattern cX6_tellingPattern 4 .boolean 3 66 [.ref (ad 1), .ref (ad p1)] σ (fun r σ1 => r = r0 ∧ σ1 = s0) := by
  obtain ⟨R, hR⟩ : ∃ R, (r0, s0) = R := ⟨_, rfl⟩
  replace h := h.trans (congrArg some hR)
  refine Ki.of (by decide) (Nat.le_of_ble_eq_true rfl) 2 (fun Γ C Rt => ?_)
  show AW ids ad ca Γ 0 [some (.ref (ad 1)), some (.ref (ad p1)), none, none] [] σ
  unfold f_X6_tellingPattern at h
  have j102 : ∀ (y2 : Int32) (y3 : Int32) (σ : HS), f_X6_tellingPattern_102 p1 y2 y3 σ = some R → AW ids ad ca Γ 102 [some (.ref (ad 1)), some (.ref (ad p1)), some (.int y2), some (.int y3)] [] σ := by
    intro y2 y3 σ h
    unfold f_X6_tellingPattern_102 at h
    refine a_aload_n C dX6_tellingPattern_102 (i := 0) rfl rfl ?_
    refine a_get C fl_RX6_53 (i := 1) kd_1 (hid 1 (by decide)) (v := .int (σ.1 1 6)) rfl dX6_tellingPattern_103 ?_
    refine a_bipush C dX6_tellingPattern_106 (v := 21) rfl ?_
    refine p_ic_ne C (X := (σ.1 1 6).toInt) (Y := 21) rfl (by decide) dX6_tellingPattern_108 (tgt := 117) rfl h (fun h => ?_) (fun h => ?_)
    ·
      refine a_aload_n C dX6_tellingPattern_117 (i := 1) rfl rfl ?_
      refine a_get C fl_RX6_123 (i := p1) hp1.1.1 (hid _ hp1.1.2) (v := .ref (ad (p1 + 10))) rfl dX6_tellingPattern_118 ?_
      refine a_iload_n C dX6_tellingPattern_121 (i := 2) rfl rfl ?_
      refine a_iload_n C dX6_tellingPattern_122 (i := 3) rfl rfl ?_
      refine p_iast C (i := (p1 + 10)) hp1.2.2.2.2.1.1 hid (by rw [hp1.2.2.2.2.1.2]; rfl) dX6_tellingPattern_123 h (fun σ1 h => ?_)
      refine a_aload_n C dX6_tellingPattern_124 (i := 1) rfl rfl ?_
      refine a_dup C dX6_tellingPattern_125 rfl ?_
      refine a_get C fl_RX6_116 (i := p1) hp1.1.1 (hid _ hp1.1.2) (v := .int (σ1.1 p1 4)) rfl dX6_tellingPattern_126 ?_
      refine a_iconst C dX6_tellingPattern_129 (v := 1) rfl ?_
      refine a_iadd C dX6_tellingPattern_130 ?_
      refine p_put C fp_RX6_116 (i := p1) hp1.1.1 (hid _ hp1.1.2) rfl rfl dX6_tellingPattern_131 h (fun σ2 h => ?_)
      refine a_aload_n C dX6_tellingPattern_134 (i := 0) rfl rfl ?_
      refine a_bipush C dX6_tellingPattern_135 (v := 59) rfl ?_
      refine p_callVi C (As := [.int 59]) (i := 1) kd_1 (hid 1 (by decide)) ⟨_, _, rfl⟩ (by decide) h (fun _ _ e => Z_X6_take hid e) mi_X6_take ml_RX6_77 rfl rfl (Nat.le_of_ble_eq_true rfl) (Nat.le_of_ble_eq_true rfl) (Nat.le_of_ble_eq_true rfl) dX6_tellingPattern_137 (fun r4 σ3 h => ?_)
      refine ite_n h (fun c h => ?_)
      exact a_iret Rt dX6_tellingPattern_140 (nar_z c).1 (ret_eq (h.trans (congrArg some hR.symm)))
    ·
      refine a_aload_n C dX6_tellingPattern_111 (i := 0) rfl rfl ?_
      refine a_iconst C dX6_tellingPattern_112 (v := 2) rfl ?_
      refine p_callVi C (As := [.int 2]) (i := 1) kd_1 (hid 1 (by decide)) ⟨_, _, rfl⟩ (by decide) h (fun _ _ e => Z_X6_refuse hid e) mi_X6_refuse ml_RX6_60 rfl rfl (Nat.le_of_ble_eq_true rfl) (Nat.le_of_ble_eq_true rfl) (Nat.le_of_ble_eq_true rfl) dX6_tellingPattern_113 (fun r6 σ5 h => ?_)
      refine ite_n h (fun c h => ?_)
      exact a_iret Rt dX6_tellingPattern_116 (nar_z c).1 (ret_eq (h.trans (congrArg some hR.symm)))
  have j57 : ∀ (n : Nat) (y2 : Int32) (y3 : Int32) (σ : HS), f_X6_tellingPattern_57 p1 n y2 y3 σ = some R → AW ids ad ca Γ 57 [some (.ref (ad 1)), some (.ref (ad p1)), some (.int y2), some (.int y3)] [] σ := by
    intro n
    induction n with
    | zero => intro y2 y3 σ h; exact nn h
    | succ n ih =>
      intro y2 y3 σ h
      have h : b_X6_tellingPattern_57 p1 (f_X6_tellingPattern_57 p1 n) y2 y3 σ = some R := h
      unfold b_X6_tellingPattern_57 at h
      refine a_aload_n C dX6_tellingPattern_57 (i := 0) rfl rfl ?_
      refine a_get C fl_RX6_53 (i := 1) kd_1 (hid 1 (by decide)) (v := .int (σ.1 1 6)) rfl dX6_tellingPattern_58 ?_
      refine a_bipush C dX6_tellingPattern_61 (v := 21) rfl ?_
      refine p_ic_ne C (X := (σ.1 1 6).toInt) (Y := 21) rfl (by decide) dX6_tellingPattern_63 (tgt := 102) rfl h (fun h => ?_) (fun h => ?_)
      ·
        exact j102 _ _ _ h
      ·
        refine a_iload_n C dX6_tellingPattern_66 (i := 3) rfl rfl ?_
        refine a_bipush C dX6_tellingPattern_67 (v := 8) rfl ?_
        refine p_ic_ge C (X := y3.toInt) (Y := 8) rfl (by decide) dX6_tellingPattern_69 (tgt := 102) rfl h (fun h => ?_) (fun h => ?_)
        ·
          exact j102 _ _ _ h
        ·
          refine a_aload_n C dX6_tellingPattern_72 (i := 0) rfl rfl ?_
          refine a_iconst C dX6_tellingPattern_73 (v := 0) rfl ?_
          refine a_bipush C dX6_tellingPattern_74 (v := 9) rfl ?_
          refine p_callVi C (As := [.int 0, .int 9]) (i := 1) kd_1 (hid 1 (by decide)) ⟨_, _, rfl⟩ (by decide) h (fun _ _ e => Z_X6_takeNumber hid e) mi_X6_takeNumber ml_RX6_90 rfl rfl (Nat.le_of_ble_eq_true rfl) (Nat.le_of_ble_eq_true rfl) (Nat.le_of_ble_eq_true rfl) dX6_tellingPattern_76 (fun r2 σ1 h => ?_)
          refine p_if_ne C (X := r2.toInt) rfl dX6_tellingPattern_79 (tgt := 84) rfl h (fun h => ?_) (fun h => ?_)
          ·
            refine a_aload_n C dX6_tellingPattern_84 (i := 1) rfl rfl ?_
            refine a_get C fl_RX6_119 (i := p1) hp1.1.1 (hid _ hp1.1.2) (v := .ref (ad (p1 + 4))) rfl dX6_tellingPattern_85 ?_
            refine a_iload_n C dX6_tellingPattern_88 (i := 2) rfl rfl ?_
            refine p_aaldH C (t := p1) hp1 hid dX6_tellingPattern_89 h (fun hr3 h => ?_)
            refine a_iload_n C dX6_tellingPattern_90 (i := 3) rfl rfl ?_
            refine a_aload_n C dX6_tellingPattern_91 (i := 0) rfl rfl ?_
            refine a_get C fl_RX6_67 (i := 1) kd_1 (hid 1 (by decide)) (v := .int (σ1.1 1 7)) rfl dX6_tellingPattern_92 ?_
            refine p_iast C (i := (p1 + 5 + y2.toInt.toNat)) hr3.1 hid (by rw [hr3.2]; rfl) dX6_tellingPattern_95 h (fun σ4 h => ?_)
            refine p_iinc C (y := (y3 + 1)) (fun z5 => [some (.ref (ad 1)), some (.ref (ad p1)), some (.int y2), some (.int z5)]) dX6_tellingPattern_96 rfl rfl (by decide) rfl (fun _ => rfl) h (fun z5 h => ?_)
            refine a_goto C dX6_tellingPattern_99 (tgt := 57) rfl ?_
            exact ih _ _ _ h
          ·
            refine a_iconst C dX6_tellingPattern_82 (v := 0) rfl ?_
            exact a_iret Rt dX6_tellingPattern_83 (nar_z (by decide)).1 (ret_eq (h.trans (congrArg some hR.symm)))
  refine a_aload_n C dX6_tellingPattern_0 (i := 1) rfl rfl ?_
  refine a_get C fl_RX6_116 (i := p1) hp1.1.1 (hid _ hp1.1.2) (v := .int (σ.1 p1 4)) rfl dX6_tellingPattern_1 ?_
  refine p_istore_n C (fun z1 => [some (.ref (ad 1)), some (.ref (ad p1)), some (.int z1), none]) dX6_tellingPattern_4 (i := 2) rfl (by decide) rfl (fun _ => rfl) h (fun z1 h => ?_)
  refine a_iload_n C dX6_tellingPattern_5 (i := 2) rfl rfl ?_
  refine a_iconst C dX6_tellingPattern_6 (v := 5) rfl ?_
  refine p_ic_lt C (X := z1.toInt) (Y := 5) rfl (by decide) dX6_tellingPattern_7 (tgt := 16) rfl h (fun h => ?_) (fun h => ?_)
  ·
    refine a_aload_n C dX6_tellingPattern_16 (i := 0) rfl rfl ?_
    refine a_iconst C dX6_tellingPattern_17 (v := 1) rfl ?_
    refine p_callVi C (As := [.int 1]) (i := 1) kd_1 (hid 1 (by decide)) ⟨_, _, rfl⟩ (by decide) h (fun _ _ e => Z_X6_take hid e) mi_X6_take ml_RX6_77 rfl rfl (Nat.le_of_ble_eq_true rfl) (Nat.le_of_ble_eq_true rfl) (Nat.le_of_ble_eq_true rfl) dX6_tellingPattern_18 (fun r3 σ2 h => ?_)
    refine p_if_eq C (X := r3.toInt) rfl dX6_tellingPattern_21 (tgt := 41) rfl h (fun h => ?_) (fun h => ?_)
    ·
      refine a_iconst C dX6_tellingPattern_41 (v := 0) rfl ?_
      exact a_iret Rt dX6_tellingPattern_42 (nar_z (by decide)).1 (ret_eq (h.trans (congrArg some hR.symm)))
    ·
      refine a_aload_n C dX6_tellingPattern_24 (i := 0) rfl rfl ?_
      refine p_callVi C (As := []) (i := 1) kd_1 (hid 1 (by decide)) ⟨_, _, rfl⟩ (by decide) h (fun _ _ e => Z_X6_takeName hid e) mi_X6_takeName ml_RX6_103 rfl rfl (Nat.le_of_ble_eq_true rfl) (Nat.le_of_ble_eq_true rfl) (Nat.le_of_ble_eq_true rfl) dX6_tellingPattern_25 (fun r5 σ4 h => ?_)
      refine p_if_eq C (X := r5.toInt) rfl dX6_tellingPattern_28 (tgt := 41) rfl h (fun h => ?_) (fun h => ?_)
      ·
        refine a_iconst C dX6_tellingPattern_41 (v := 0) rfl ?_
        exact a_iret Rt dX6_tellingPattern_42 (nar_z (by decide)).1 (ret_eq (h.trans (congrArg some hR.symm)))
      ·
        refine a_aload_n C dX6_tellingPattern_31 (i := 0) rfl rfl ?_
        refine a_iconst C dX6_tellingPattern_32 (v := 0) rfl ?_
        refine a_bipush C dX6_tellingPattern_33 (v := 9) rfl ?_
        refine p_callVi C (As := [.int 0, .int 9]) (i := 1) kd_1 (hid 1 (by decide)) ⟨_, _, rfl⟩ (by decide) h (fun _ _ e => Z_X6_takeNumber hid e) mi_X6_takeNumber ml_RX6_90 rfl rfl (Nat.le_of_ble_eq_true rfl) (Nat.le_of_ble_eq_true rfl) (Nat.le_of_ble_eq_true rfl) dX6_tellingPattern_35 (fun r7 σ6 h => ?_)
        refine p_if_ne C (X := r7.toInt) rfl dX6_tellingPattern_38 (tgt := 43) rfl h (fun h => ?_) (fun h => ?_)
        ·
          refine a_aload_n C dX6_tellingPattern_43 (i := 1) rfl rfl ?_
          refine a_get C fl_RX6_119 (i := p1) hp1.1.1 (hid _ hp1.1.2) (v := .ref (ad (p1 + 4))) rfl dX6_tellingPattern_44 ?_
          refine a_iload_n C dX6_tellingPattern_47 (i := 2) rfl rfl ?_
          refine p_aaldH C (t := p1) hp1 hid dX6_tellingPattern_48 h (fun hr8 h => ?_)
          refine a_iconst C dX6_tellingPattern_49 (v := 0) rfl ?_
          refine a_aload_n C dX6_tellingPattern_50 (i := 0) rfl rfl ?_
          refine a_get C fl_RX6_67 (i := 1) kd_1 (hid 1 (by decide)) (v := .int (σ6.1 1 7)) rfl dX6_tellingPattern_51 ?_
          refine p_iastc C (i := (p1 + 5 + z1.toInt.toNat)) 0 hr8.1 hid (by decide) (show 0 < al (p1 + 5 + z1.toInt.toNat) by have := hr8.2; omega) dX6_tellingPattern_54 h (fun σ9 h => ?_)
          refine a_iconst C dX6_tellingPattern_55 (v := 1) rfl ?_
          refine a_istore_n C dX6_tellingPattern_56 (i := 3) rfl (by decide) rfl (vs1 := [some (.ref (ad 1)), some (.ref (ad p1)), some (.int z1), some (.int 1)]) rfl ?_
          exact j57 _ _ _ _ h
        ·
          refine a_iconst C dX6_tellingPattern_41 (v := 0) rfl ?_
          exact a_iret Rt dX6_tellingPattern_42 (nar_z (by decide)).1 (ret_eq (h.trans (congrArg some hR.symm)))
  ·
    refine a_aload_n C dX6_tellingPattern_10 (i := 0) rfl rfl ?_
    refine a_iconst C dX6_tellingPattern_11 (v := 2) rfl ?_
    refine p_callVi C (As := [.int 2]) (i := 1) kd_1 (hid 1 (by decide)) ⟨_, _, rfl⟩ (by decide) h (fun _ _ e => Z_X6_refuse hid e) mi_X6_refuse ml_RX6_60 rfl rfl (Nat.le_of_ble_eq_true rfl) (Nat.le_of_ble_eq_true rfl) (Nat.le_of_ble_eq_true rfl) dX6_tellingPattern_12 (fun r11 σ10 h => ?_)
    refine ite_n h (fun c h => ?_)
    exact a_iret Rt dX6_tellingPattern_15 (nar_z c).1 (ret_eq (h.trans (congrArg some hR.symm)))
set_option maxHeartbeats 4000000 in
set_option maxRecDepth 100000 in
theorem Z_X6_tellingThing {l : Launch} {D : va_G} {ids : List Nat} {ad : Nat → Nat} {ca : Nat → ClassId} {σ : HS} {p1 : Nat} {r0 : Int32} {s0 : HS} (hid : ∀ i, i < 277 → i ∈ ids) (hp1 : txtOK p1) (h : f_X6_tellingThing p1 σ = some (r0, s0)) : Ki l D ids ad ca yX6_tellingThing cX6_tellingThing 3 .boolean 3 66 [.ref (ad 1), .ref (ad p1)] σ (fun r σ1 => r = r0 ∧ σ1 = s0) := by
  obtain ⟨R, hR⟩ : ∃ R, (r0, s0) = R := ⟨_, rfl⟩
  replace h := h.trans (congrArg some hR)
  refine Ki.of (by decide) (Nat.le_of_ble_eq_true rfl) 1 (fun Γ C Rt => ?_)
  show AW ids ad ca Γ 0 [some (.ref (ad 1)), some (.ref (ad p1)), none] [] σ
  unfold f_X6_tellingThing at h
  refine a_aload_n C dX6_tellingThing_0 (i := 1) rfl rfl ?_
  refine a_get C fl_RX6_100 (i := p1) hp1.1.1 (hid _ hp1.1.2) (v := .int (σ.1 p1 0)) rfl dX6_tellingThing_1 ?_
  refine p_istore_n C (fun z1 => [some (.ref (ad 1)), some (.ref (ad p1)), some (.int z1)]) dX6_tellingThing_4 (i := 2) rfl (by decide) rfl (fun _ => rfl) h (fun z1 h => ?_)
  refine a_iload_n C dX6_tellingThing_5 (i := 2) rfl rfl ?_
  refine a_bipush C dX6_tellingThing_6 (v := 7) rfl ?_
  refine p_ic_lt C (X := z1.toInt) (Y := 7) rfl (by decide) dX6_tellingThing_8 (tgt := 17) rfl h (fun h => ?_) (fun h => ?_)
  ·
    refine a_aload_n C dX6_tellingThing_17 (i := 0) rfl rfl ?_
    refine a_iconst C dX6_tellingThing_18 (v := 0) rfl ?_
    refine p_callVi C (As := [.int 0]) (i := 1) kd_1 (hid 1 (by decide)) ⟨_, _, rfl⟩ (by decide) h (fun _ _ e => Z_X6_take hid e) mi_X6_take ml_RX6_77 rfl rfl (Nat.le_of_ble_eq_true rfl) (Nat.le_of_ble_eq_true rfl) (Nat.le_of_ble_eq_true rfl) dX6_tellingThing_19 (fun r3 σ2 h => ?_)
    refine p_if_eq C (X := r3.toInt) rfl dX6_tellingThing_22 (tgt := 42) rfl h (fun h => ?_) (fun h => ?_)
    ·
      refine a_iconst C dX6_tellingThing_42 (v := 0) rfl ?_
      exact a_iret Rt dX6_tellingThing_43 (nar_z (by decide)).1 (ret_eq (h.trans (congrArg some hR.symm)))
    ·
      refine a_aload_n C dX6_tellingThing_25 (i := 0) rfl rfl ?_
      refine p_callVi C (As := []) (i := 1) kd_1 (hid 1 (by decide)) ⟨_, _, rfl⟩ (by decide) h (fun _ _ e => Z_X6_takeName hid e) mi_X6_takeName ml_RX6_103 rfl rfl (Nat.le_of_ble_eq_true rfl) (Nat.le_of_ble_eq_true rfl) (Nat.le_of_ble_eq_true rfl) dX6_tellingThing_26 (fun r5 σ4 h => ?_)
      refine p_if_eq C (X := r5.toInt) rfl dX6_tellingThing_29 (tgt := 42) rfl h (fun h => ?_) (fun h => ?_)
      ·
        refine a_iconst C dX6_tellingThing_42 (v := 0) rfl ?_
        exact a_iret Rt dX6_tellingThing_43 (nar_z (by decide)).1 (ret_eq (h.trans (congrArg some hR.symm)))
      ·
        refine a_aload_n C dX6_tellingThing_32 (i := 0) rfl rfl ?_
        refine a_iconst C dX6_tellingThing_33 (v := 1) rfl ?_
        refine a_bipush C dX6_tellingThing_34 (v := 9) rfl ?_
        refine p_callVi C (As := [.int 1, .int 9]) (i := 1) kd_1 (hid 1 (by decide)) ⟨_, _, rfl⟩ (by decide) h (fun _ _ e => Z_X6_takeNumber hid e) mi_X6_takeNumber ml_RX6_90 rfl rfl (Nat.le_of_ble_eq_true rfl) (Nat.le_of_ble_eq_true rfl) (Nat.le_of_ble_eq_true rfl) dX6_tellingThing_36 (fun r7 σ6 h => ?_)
        refine p_if_ne C (X := r7.toInt) rfl dX6_tellingThing_39 (tgt := 44) rfl h (fun h => ?_) (fun h => ?_)
        ·
          refine a_aload_n C dX6_tellingThing_44 (i := 1) rfl rfl ?_
          refine a_get C fl_RX6_107 (i := p1) hp1.1.1 (hid _ hp1.1.2) (v := .ref (ad (p1 + 1))) rfl dX6_tellingThing_45 ?_
          refine a_iload_n C dX6_tellingThing_48 (i := 2) rfl rfl ?_
          refine a_aload_n C dX6_tellingThing_49 (i := 0) rfl rfl ?_
          refine a_get C fl_RX6_67 (i := 1) kd_1 (hid 1 (by decide)) (v := .int (σ6.1 1 7)) rfl dX6_tellingThing_50 ?_
          refine p_iast C (i := (p1 + 1)) hp1.2.1.1 hid (by rw [hp1.2.1.2]; rfl) dX6_tellingThing_53 h (fun σ8 h => ?_)
          refine a_aload_n C dX6_tellingThing_54 (i := 0) rfl rfl ?_
          refine a_iconst C dX6_tellingThing_55 (v := 0) rfl ?_
          refine a_bipush C dX6_tellingThing_56 (v := 9) rfl ?_
          refine p_callVi C (As := [.int 0, .int 9]) (i := 1) kd_1 (hid 1 (by decide)) ⟨_, _, rfl⟩ (by decide) h (fun _ _ e => Z_X6_takeNumber hid e) mi_X6_takeNumber ml_RX6_90 rfl rfl (Nat.le_of_ble_eq_true rfl) (Nat.le_of_ble_eq_true rfl) (Nat.le_of_ble_eq_true rfl) dX6_tellingThing_58 (fun r10 σ9 h => ?_)
          refine p_if_ne C (X := r10.toInt) rfl dX6_tellingThing_61 (tgt := 66) rfl h (fun h => ?_) (fun h => ?_)
          ·
            refine a_aload_n C dX6_tellingThing_66 (i := 1) rfl rfl ?_
            refine a_get C fl_RX6_110 (i := p1) hp1.1.1 (hid _ hp1.1.2) (v := .ref (ad (p1 + 2))) rfl dX6_tellingThing_67 ?_
            refine a_iload_n C dX6_tellingThing_70 (i := 2) rfl rfl ?_
            refine a_aload_n C dX6_tellingThing_71 (i := 0) rfl rfl ?_
            refine a_get C fl_RX6_67 (i := 1) kd_1 (hid 1 (by decide)) (v := .int (σ9.1 1 7)) rfl dX6_tellingThing_72 ?_
            refine p_iast C (i := (p1 + 2)) hp1.2.2.1.1 hid (by rw [hp1.2.2.1.2]; rfl) dX6_tellingThing_75 h (fun σ11 h => ?_)
            refine a_aload_n C dX6_tellingThing_76 (i := 0) rfl rfl ?_
            refine a_iconst C dX6_tellingThing_77 (v := 0) rfl ?_
            refine a_bipush C dX6_tellingThing_78 (v := 9) rfl ?_
            refine p_callVi C (As := [.int 0, .int 9]) (i := 1) kd_1 (hid 1 (by decide)) ⟨_, _, rfl⟩ (by decide) h (fun _ _ e => Z_X6_takeNumber hid e) mi_X6_takeNumber ml_RX6_90 rfl rfl (Nat.le_of_ble_eq_true rfl) (Nat.le_of_ble_eq_true rfl) (Nat.le_of_ble_eq_true rfl) dX6_tellingThing_80 (fun r13 σ12 h => ?_)
            refine p_if_ne C (X := r13.toInt) rfl dX6_tellingThing_83 (tgt := 88) rfl h (fun h => ?_) (fun h => ?_)
            ·
              refine a_aload_n C dX6_tellingThing_88 (i := 1) rfl rfl ?_
              refine a_get C fl_RX6_113 (i := p1) hp1.1.1 (hid _ hp1.1.2) (v := .ref (ad (p1 + 3))) rfl dX6_tellingThing_89 ?_
              refine a_iload_n C dX6_tellingThing_92 (i := 2) rfl rfl ?_
              refine a_aload_n C dX6_tellingThing_93 (i := 0) rfl rfl ?_
              refine a_get C fl_RX6_67 (i := 1) kd_1 (hid 1 (by decide)) (v := .int (σ12.1 1 7)) rfl dX6_tellingThing_94 ?_
              refine p_iast C (i := (p1 + 3)) hp1.2.2.2.1.1 hid (by rw [hp1.2.2.2.1.2]; rfl) dX6_tellingThing_97 h (fun σ14 h => ?_)
              refine a_aload_n C dX6_tellingThing_98 (i := 1) rfl rfl ?_
              refine a_dup C dX6_tellingThing_99 rfl ?_
              refine a_get C fl_RX6_100 (i := p1) hp1.1.1 (hid _ hp1.1.2) (v := .int (σ14.1 p1 0)) rfl dX6_tellingThing_100 ?_
              refine a_iconst C dX6_tellingThing_103 (v := 1) rfl ?_
              refine a_iadd C dX6_tellingThing_104 ?_
              refine p_put C fp_RX6_100 (i := p1) hp1.1.1 (hid _ hp1.1.2) rfl rfl dX6_tellingThing_105 h (fun σ15 h => ?_)
              refine a_aload_n C dX6_tellingThing_108 (i := 0) rfl rfl ?_
              refine a_bipush C dX6_tellingThing_109 (v := 59) rfl ?_
              refine p_callVi C (As := [.int 59]) (i := 1) kd_1 (hid 1 (by decide)) ⟨_, _, rfl⟩ (by decide) h (fun _ _ e => Z_X6_take hid e) mi_X6_take ml_RX6_77 rfl rfl (Nat.le_of_ble_eq_true rfl) (Nat.le_of_ble_eq_true rfl) (Nat.le_of_ble_eq_true rfl) dX6_tellingThing_111 (fun r17 σ16 h => ?_)
              refine ite_n h (fun c h => ?_)
              exact a_iret Rt dX6_tellingThing_114 (nar_z c).1 (ret_eq (h.trans (congrArg some hR.symm)))
            ·
              refine a_iconst C dX6_tellingThing_86 (v := 0) rfl ?_
              exact a_iret Rt dX6_tellingThing_87 (nar_z (by decide)).1 (ret_eq (h.trans (congrArg some hR.symm)))
          ·
            refine a_iconst C dX6_tellingThing_64 (v := 0) rfl ?_
            exact a_iret Rt dX6_tellingThing_65 (nar_z (by decide)).1 (ret_eq (h.trans (congrArg some hR.symm)))
        ·
          refine a_iconst C dX6_tellingThing_42 (v := 0) rfl ?_
          exact a_iret Rt dX6_tellingThing_43 (nar_z (by decide)).1 (ret_eq (h.trans (congrArg some hR.symm)))
  ·
    refine a_aload_n C dX6_tellingThing_11 (i := 0) rfl rfl ?_
    refine a_iconst C dX6_tellingThing_12 (v := 2) rfl ?_
    refine p_callVi C (As := [.int 2]) (i := 1) kd_1 (hid 1 (by decide)) ⟨_, _, rfl⟩ (by decide) h (fun _ _ e => Z_X6_refuse hid e) mi_X6_refuse ml_RX6_60 rfl rfl (Nat.le_of_ble_eq_true rfl) (Nat.le_of_ble_eq_true rfl) (Nat.le_of_ble_eq_true rfl) dX6_tellingThing_13 (fun r19 σ18 h => ?_)
    refine ite_n h (fun c h => ?_)
    exact a_iret Rt dX6_tellingThing_16 (nar_z c).1 (ret_eq (h.trans (congrArg some hR.symm)))
set_option maxHeartbeats 4000000 in
set_option maxRecDepth 100000 in
theorem Z_X6_telling {l : Launch} {D : va_G} {ids : List Nat} {ad : Nat → Nat} {ca : Nat → ClassId} {σ : HS} {p1 : Nat} {r0 : Int32} {s0 : HS} (hid : ∀ i, i < 277 → i ∈ ids) (hp1 : txtOK p1) (h : f_X6_telling p1 σ = some (r0, s0)) : Ki l D ids ad ca yX6_telling cX6_telling 3 .boolean 35 790 [.ref (ad 1), .ref (ad p1)] σ (fun r σ1 => r = r0 ∧ σ1 = s0) := by
  obtain ⟨R, hR⟩ : ∃ R, (r0, s0) = R := ⟨_, rfl⟩
  replace h := h.trans (congrArg some hR)
  refine Ki.of (by decide) (Nat.le_of_ble_eq_true rfl) 1 (fun Γ C Rt => ?_)
  show AW ids ad ca Γ 0 [some (.ref (ad 1)), some (.ref (ad p1)), none] [] σ
  unfold f_X6_telling at h
  have j148 : ∀ (v0 : Int32) (σ : HS), f_X6_telling_148 p1 v0 σ = some R → AW ids ad ca Γ 148 [some (.ref (ad 1)), some (.ref (ad p1)), none] [.int v0] σ := by
    intro v0 σ h
    unfold f_X6_telling_148 at h
    refine a_istore_n C dX6_telling_148 (i := 2) rfl (by decide) rfl (vs1 := [some (.ref (ad 1)), some (.ref (ad p1)), some (.int v0)]) rfl ?_
    refine a_aload_n C dX6_telling_149 (i := 1) rfl rfl ?_
    refine a_aload_n C dX6_telling_150 (i := 0) rfl rfl ?_
    refine a_get C fl_RX6_67 (i := 1) kd_1 (hid 1 (by decide)) (v := .int (σ.1 1 7)) rfl dX6_telling_151 ?_
    refine p_put C fp_RX6_97 (i := p1) hp1.1.1 (hid _ hp1.1.2) rfl rfl dX6_telling_154 h (fun σ1 h => ?_)
    refine a_iload_n C dX6_telling_157 (i := 2) rfl rfl ?_
    refine p_if_eq C (X := v0.toInt) rfl dX6_telling_158 (tgt := 174) rfl h (fun h => ?_) (fun h => ?_)
    ·
      refine a_iconst C dX6_telling_174 (v := 0) rfl ?_
      exact a_iret Rt dX6_telling_175 (nar_z (by decide)).1 (ret_eq (h.trans (congrArg some hR.symm)))
    ·
      refine a_aload_n C dX6_telling_161 (i := 0) rfl rfl ?_
      refine a_bipush C dX6_telling_162 (v := 59) rfl ?_
      refine p_callVi C (As := [.int 59]) (i := 1) kd_1 (hid 1 (by decide)) ⟨_, _, rfl⟩ (by decide) h (fun _ _ e => Z_X6_take hid e) mi_X6_take ml_RX6_77 rfl rfl (Nat.le_of_ble_eq_true rfl) (Nat.le_of_ble_eq_true rfl) (Nat.le_of_ble_eq_true rfl) dX6_telling_164 (fun r3 σ2 h => ?_)
      refine p_if_eq C (X := r3.toInt) rfl dX6_telling_167 (tgt := 174) rfl h (fun h => ?_) (fun h => ?_)
      ·
        refine a_iconst C dX6_telling_174 (v := 0) rfl ?_
        exact a_iret Rt dX6_telling_175 (nar_z (by decide)).1 (ret_eq (h.trans (congrArg some hR.symm)))
      ·
        refine a_iconst C dX6_telling_170 (v := 1) rfl ?_
        refine a_goto C dX6_telling_171 (tgt := 175) rfl ?_
        exact a_iret Rt dX6_telling_175 (nar_z (by decide)).1 (ret_eq (h.trans (congrArg some hR.symm)))
  have j147 : ∀ (σ : HS), f_X6_telling_147 p1 σ = some R → AW ids ad ca Γ 147 [some (.ref (ad 1)), some (.ref (ad p1)), none] [] σ := by
    intro σ h
    unfold f_X6_telling_147 at h
    refine a_iconst C dX6_telling_147 (v := 0) rfl ?_
    exact j148 _ _ h
  have j86 : ∀ (v0 : Int32) (σ : HS), f_X6_telling_86 p1 v0 σ = some R → AW ids ad ca Γ 86 [some (.ref (ad 1)), some (.ref (ad p1)), none] [.int v0] σ := by
    intro v0 σ h
    unfold f_X6_telling_86 at h
    refine a_istore_n C dX6_telling_86 (i := 2) rfl (by decide) rfl (vs1 := [some (.ref (ad 1)), some (.ref (ad p1)), some (.int v0)]) rfl ?_
    refine a_aload_n C dX6_telling_87 (i := 1) rfl rfl ?_
    refine a_aload_n C dX6_telling_88 (i := 0) rfl rfl ?_
    refine a_get C fl_RX6_67 (i := 1) kd_1 (hid 1 (by decide)) (v := .int (σ.1 1 7)) rfl dX6_telling_89 ?_
    refine p_put C fp_RX6_94 (i := p1) hp1.1.1 (hid _ hp1.1.2) rfl rfl dX6_telling_92 h (fun σ1 h => ?_)
    refine a_iload_n C dX6_telling_95 (i := 2) rfl rfl ?_
    refine p_if_eq C (X := v0.toInt) rfl dX6_telling_96 (tgt := 112) rfl h (fun h => ?_) (fun h => ?_)
    ·
      refine a_iconst C dX6_telling_112 (v := 0) rfl ?_
      exact a_iret Rt dX6_telling_113 (nar_z (by decide)).1 (ret_eq (h.trans (congrArg some hR.symm)))
    ·
      refine a_aload_n C dX6_telling_99 (i := 0) rfl rfl ?_
      refine a_bipush C dX6_telling_100 (v := 59) rfl ?_
      refine p_callVi C (As := [.int 59]) (i := 1) kd_1 (hid 1 (by decide)) ⟨_, _, rfl⟩ (by decide) h (fun _ _ e => Z_X6_take hid e) mi_X6_take ml_RX6_77 rfl rfl (Nat.le_of_ble_eq_true rfl) (Nat.le_of_ble_eq_true rfl) (Nat.le_of_ble_eq_true rfl) dX6_telling_102 (fun r3 σ2 h => ?_)
      refine p_if_eq C (X := r3.toInt) rfl dX6_telling_105 (tgt := 112) rfl h (fun h => ?_) (fun h => ?_)
      ·
        refine a_iconst C dX6_telling_112 (v := 0) rfl ?_
        exact a_iret Rt dX6_telling_113 (nar_z (by decide)).1 (ret_eq (h.trans (congrArg some hR.symm)))
      ·
        refine a_iconst C dX6_telling_108 (v := 1) rfl ?_
        refine a_goto C dX6_telling_109 (tgt := 113) rfl ?_
        exact a_iret Rt dX6_telling_113 (nar_z (by decide)).1 (ret_eq (h.trans (congrArg some hR.symm)))
  have j85 : ∀ (σ : HS), f_X6_telling_85 p1 σ = some R → AW ids ad ca Γ 85 [some (.ref (ad 1)), some (.ref (ad p1)), none] [] σ := by
    intro σ h
    unfold f_X6_telling_85 at h
    refine a_iconst C dX6_telling_85 (v := 0) rfl ?_
    exact j86 _ _ h
  have j53 : ∀ (σ : HS), f_X6_telling_53 p1 σ = some R → AW ids ad ca Γ 53 [some (.ref (ad 1)), some (.ref (ad p1)), none] [] σ := by
    intro σ h
    unfold f_X6_telling_53 at h
    refine a_aload_n C dX6_telling_53 (i := 0) rfl rfl ?_
    refine a_get C fl_RX6_53 (i := 1) kd_1 (hid 1 (by decide)) (v := .int (σ.1 1 6)) rfl dX6_telling_54 ?_
    refine a_bipush C dX6_telling_57 (v := 6) rfl ?_
    refine p_ic_ne C (X := (σ.1 1 6).toInt) (Y := 6) rfl (by decide) dX6_telling_59 (tgt := 114) rfl h (fun h => ?_) (fun h => ?_)
    ·
      refine a_aload_n C dX6_telling_114 (i := 0) rfl rfl ?_
      refine a_get C fl_RX6_53 (i := 1) kd_1 (hid 1 (by decide)) (v := .int (σ.1 1 6)) rfl dX6_telling_115 ?_
      refine a_bipush C dX6_telling_118 (v := 7) rfl ?_
      refine p_ic_ne C (X := (σ.1 1 6).toInt) (Y := 7) rfl (by decide) dX6_telling_120 (tgt := 176) rfl h (fun h => ?_) (fun h => ?_)
      ·
        refine a_aload_n C dX6_telling_176 (i := 0) rfl rfl ?_
        refine a_iconst C dX6_telling_177 (v := 1) rfl ?_
        refine p_callVi C (As := [.int 1]) (i := 1) kd_1 (hid 1 (by decide)) ⟨_, _, rfl⟩ (by decide) h (fun _ _ e => Z_X6_refuse hid e) mi_X6_refuse ml_RX6_60 rfl rfl (Nat.le_of_ble_eq_true rfl) (Nat.le_of_ble_eq_true rfl) (Nat.le_of_ble_eq_true rfl) dX6_telling_178 (fun r2 σ1 h => ?_)
        refine ite_n h (fun c h => ?_)
        exact a_iret Rt dX6_telling_181 (nar_z c).1 (ret_eq (h.trans (congrArg some hR.symm)))
      ·
        refine a_aload_n C dX6_telling_123 (i := 0) rfl rfl ?_
        refine a_bipush C dX6_telling_124 (v := 7) rfl ?_
        refine p_callVi C (As := [.int 7]) (i := 1) kd_1 (hid 1 (by decide)) ⟨_, _, rfl⟩ (by decide) h (fun _ _ e => Z_X6_take hid e) mi_X6_take ml_RX6_77 rfl rfl (Nat.le_of_ble_eq_true rfl) (Nat.le_of_ble_eq_true rfl) (Nat.le_of_ble_eq_true rfl) dX6_telling_126 (fun r4 σ3 h => ?_)
        refine p_if_eq C (X := r4.toInt) rfl dX6_telling_129 (tgt := 147) rfl h (fun h => ?_) (fun h => ?_)
        ·
          exact j147 _ h
        ·
          refine a_aload_n C dX6_telling_132 (i := 0) rfl rfl ?_
          refine a_iconst C dX6_telling_133 (v := 0) rfl ?_
          refine a_sipush C dX6_telling_134 (v := 9999) rfl ?_
          refine p_callVi C (As := [.int 0, .int 9999]) (i := 1) kd_1 (hid 1 (by decide)) ⟨_, _, rfl⟩ (by decide) h (fun _ _ e => Z_X6_takeNumber hid e) mi_X6_takeNumber ml_RX6_90 rfl rfl (Nat.le_of_ble_eq_true rfl) (Nat.le_of_ble_eq_true rfl) (Nat.le_of_ble_eq_true rfl) dX6_telling_137 (fun r6 σ5 h => ?_)
          refine p_if_eq C (X := r6.toInt) rfl dX6_telling_140 (tgt := 147) rfl h (fun h => ?_) (fun h => ?_)
          ·
            exact j147 _ h
          ·
            refine a_iconst C dX6_telling_143 (v := 1) rfl ?_
            refine a_goto C dX6_telling_144 (tgt := 148) rfl ?_
            exact j148 _ _ h
    ·
      refine a_aload_n C dX6_telling_62 (i := 0) rfl rfl ?_
      refine a_bipush C dX6_telling_63 (v := 6) rfl ?_
      refine p_callVi C (As := [.int 6]) (i := 1) kd_1 (hid 1 (by decide)) ⟨_, _, rfl⟩ (by decide) h (fun _ _ e => Z_X6_take hid e) mi_X6_take ml_RX6_77 rfl rfl (Nat.le_of_ble_eq_true rfl) (Nat.le_of_ble_eq_true rfl) (Nat.le_of_ble_eq_true rfl) dX6_telling_65 (fun r8 σ7 h => ?_)
      refine p_if_eq C (X := r8.toInt) rfl dX6_telling_68 (tgt := 85) rfl h (fun h => ?_) (fun h => ?_)
      ·
        exact j85 _ h
      ·
        refine a_aload_n C dX6_telling_71 (i := 0) rfl rfl ?_
        refine a_iconst C dX6_telling_72 (v := 0) rfl ?_
        refine a_bipush C dX6_telling_73 (v := 99) rfl ?_
        refine p_callVi C (As := [.int 0, .int 99]) (i := 1) kd_1 (hid 1 (by decide)) ⟨_, _, rfl⟩ (by decide) h (fun _ _ e => Z_X6_takeNumber hid e) mi_X6_takeNumber ml_RX6_90 rfl rfl (Nat.le_of_ble_eq_true rfl) (Nat.le_of_ble_eq_true rfl) (Nat.le_of_ble_eq_true rfl) dX6_telling_75 (fun r10 σ9 h => ?_)
        refine p_if_eq C (X := r10.toInt) rfl dX6_telling_78 (tgt := 85) rfl h (fun h => ?_) (fun h => ?_)
        ·
          exact j85 _ h
        ·
          refine a_iconst C dX6_telling_81 (v := 1) rfl ?_
          refine a_goto C dX6_telling_82 (tgt := 86) rfl ?_
          exact j86 _ _ h
  refine a_aload_n C dX6_telling_0 (i := 0) rfl rfl ?_
  refine a_get C fl_RX6_53 (i := 1) kd_1 (hid 1 (by decide)) (v := .int (σ.1 1 6)) rfl dX6_telling_1 ?_
  refine p_if_ne C (X := (σ.1 1 6).toInt) rfl dX6_telling_4 (tgt := 13) rfl h (fun h => ?_) (fun h => ?_)
  ·
    refine a_aload_n C dX6_telling_13 (i := 0) rfl rfl ?_
    refine a_get C fl_RX6_53 (i := 1) kd_1 (hid 1 (by decide)) (v := .int (σ.1 1 6)) rfl dX6_telling_14 ?_
    refine a_iconst C dX6_telling_17 (v := 1) rfl ?_
    refine p_ic_ne C (X := (σ.1 1 6).toInt) (Y := 1) rfl (by decide) dX6_telling_18 (tgt := 27) rfl h (fun h => ?_) (fun h => ?_)
    ·
      refine a_aload_n C dX6_telling_27 (i := 0) rfl rfl ?_
      refine a_get C fl_RX6_53 (i := 1) kd_1 (hid 1 (by decide)) (v := .int (σ.1 1 6)) rfl dX6_telling_28 ?_
      refine a_iconst C dX6_telling_31 (v := 2) rfl ?_
      refine p_ic_lt C (X := (σ.1 1 6).toInt) (Y := 2) rfl (by decide) dX6_telling_32 (tgt := 53) rfl h (fun h => ?_) (fun h => ?_)
      ·
        exact j53 _ h
      ·
        refine a_aload_n C dX6_telling_35 (i := 0) rfl rfl ?_
        refine a_get C fl_RX6_53 (i := 1) kd_1 (hid 1 (by decide)) (v := .int (σ.1 1 6)) rfl dX6_telling_36 ?_
        refine a_iconst C dX6_telling_39 (v := 5) rfl ?_
        refine p_ic_gt C (X := (σ.1 1 6).toInt) (Y := 5) rfl (by decide) dX6_telling_40 (tgt := 53) rfl h (fun h => ?_) (fun h => ?_)
        ·
          exact j53 _ h
        ·
          refine a_aload_n C dX6_telling_43 (i := 0) rfl rfl ?_
          refine a_aload_n C dX6_telling_44 (i := 1) rfl rfl ?_
          refine a_aload_n C dX6_telling_45 (i := 0) rfl rfl ?_
          refine a_get C fl_RX6_53 (i := 1) kd_1 (hid 1 (by decide)) (v := .int (σ.1 1 6)) rfl dX6_telling_46 ?_
          refine p_callVi C (As := [.ref (ad p1), .int (σ.1 1 6)]) (i := 1) kd_1 (hid 1 (by decide)) ⟨_, _, rfl⟩ (by decide) h (fun _ _ e => Z_X6_tellingLaw hid hp1 e) mi_X6_tellingLaw ml_RX6_86 rfl rfl (Nat.le_of_ble_eq_true rfl) (Nat.le_of_ble_eq_true rfl) (Nat.le_of_ble_eq_true rfl) dX6_telling_49 (fun r2 σ1 h => ?_)
          refine ite_n h (fun c h => ?_)
          exact a_iret Rt dX6_telling_52 (nar_z c).1 (ret_eq (h.trans (congrArg some hR.symm)))
    ·
      refine a_aload_n C dX6_telling_21 (i := 0) rfl rfl ?_
      refine a_aload_n C dX6_telling_22 (i := 1) rfl rfl ?_
      refine p_callVi C (As := [.ref (ad p1)]) (i := 1) kd_1 (hid 1 (by decide)) ⟨_, _, rfl⟩ (by decide) h (fun _ _ e => Z_X6_tellingPattern hid hp1 e) mi_X6_tellingPattern ml_RX6_83 rfl rfl (Nat.le_of_ble_eq_true rfl) (Nat.le_of_ble_eq_true rfl) (Nat.le_of_ble_eq_true rfl) dX6_telling_23 (fun r4 σ3 h => ?_)
      refine ite_n h (fun c h => ?_)
      exact a_iret Rt dX6_telling_26 (nar_z c).1 (ret_eq (h.trans (congrArg some hR.symm)))
  ·
    refine a_aload_n C dX6_telling_7 (i := 0) rfl rfl ?_
    refine a_aload_n C dX6_telling_8 (i := 1) rfl rfl ?_
    refine p_callVi C (As := [.ref (ad p1)]) (i := 1) kd_1 (hid 1 (by decide)) ⟨_, _, rfl⟩ (by decide) h (fun _ _ e => Z_X6_tellingThing hid hp1 e) mi_X6_tellingThing ml_RX6_80 rfl rfl (Nat.le_of_ble_eq_true rfl) (Nat.le_of_ble_eq_true rfl) (Nat.le_of_ble_eq_true rfl) dX6_telling_9 (fun r6 σ5 h => ?_)
    refine ite_n h (fun c h => ?_)
    exact a_iret Rt dX6_telling_12 (nar_z c).1 (ret_eq (h.trans (congrArg some hR.symm)))
set_option maxHeartbeats 4000000 in
set_option maxRecDepth 100000 in
theorem Z_X6_readInto {l : Launch} {D : va_G} {ids : List Nat} {ad : Nat → Nat} {ca : Nat → ClassId} {K : (Nat → Nat) × (Nat → Nat)} {σ : HS} {p1 : Nat} {r0 : Int32} {s0 : HS} (hid : ∀ i, i < 277 → i ∈ ids) (hp1 : txtOK p1) (h : f_X6_readInto p1 σ = some (r0, s0)) : KiS l D ids ad ca K yX6_readInto cX6_readInto 4 .int 36 812 [.ref (ad 1), .ref (ad p1)] σ (fun r σ1 => r = r0 ∧ σ1 = s0) := by
  obtain ⟨R, hR⟩ : ∃ R, (r0, s0) = R := ⟨_, rfl⟩
  replace h := h.trans (congrArg some hR)
  refine KiS.of (by decide) (Nat.le_of_ble_eq_true rfl) 2 (fun Γ C E Rt => ?_)
  show AW ids ad ca Γ 0 [some (.ref (ad 1)), some (.ref (ad p1)), none, none] [] σ
  unfold f_X6_readInto at h
  have j120 : ∀ (σ : HS), f_X6_readInto_120 p1 σ = some R → AW ids ad ca Γ 120 [some (.ref (ad 1)), none, none, none] [] σ := by
    intro σ h
    unfold f_X6_readInto_120 at h
    refine a_aload_n C dX6_readInto_120 (i := 0) rfl rfl ?_
    refine a_get C fl_RX6_34 (i := 1) kd_1 (hid 1 (by decide)) (v := .int (σ.1 1 2)) rfl dX6_readInto_121 ?_
    exact a_iret Rt dX6_readInto_124 rfl (ret_eq (h.trans (congrArg some hR.symm)))
  have j90 : ∀ (σ : HS), f_X6_readInto_90 p1 σ = some R → AW ids ad ca Γ 90 [some (.ref (ad 1)), none, none, none] [] σ := by
    intro σ h
    unfold f_X6_readInto_90 at h
    refine a_aload_n C dX6_readInto_90 (i := 0) rfl rfl ?_
    refine a_get C fl_RX6_34 (i := 1) kd_1 (hid 1 (by decide)) (v := .int (σ.1 1 2)) rfl dX6_readInto_91 ?_
    refine p_if_ne C (X := (σ.1 1 2).toInt) rfl dX6_readInto_94 (tgt := 120) rfl h (fun h => ?_) (fun h => ?_)
    ·
      exact j120 _ h
    ·
      refine a_aload_n C dX6_readInto_97 (i := 0) rfl rfl ?_
      refine a_get C fl_RX6_37 (i := 1) kd_1 (hid 1 (by decide)) (v := .int (σ.1 1 3)) rfl dX6_readInto_98 ?_
      refine p_if_eq C (X := (σ.1 1 3).toInt) rfl dX6_readInto_101 (tgt := 120) rfl h (fun h => ?_) (fun h => ?_)
      ·
        exact j120 _ h
      ·
        refine a_aload_n C dX6_readInto_104 (i := 0) rfl rfl ?_
        refine a_aload_n C dX6_readInto_105 (i := 0) rfl rfl ?_
        refine a_get C fl_RX6_37 (i := 1) kd_1 (hid 1 (by decide)) (v := .int (σ.1 1 3)) rfl dX6_readInto_106 ?_
        refine p_put C fp_RX6_34 (i := 1) kd_1 (hid 1 (by decide)) rfl rfl dX6_readInto_109 h (fun σ1 h => ?_)
        refine a_aload_n C dX6_readInto_112 (i := 0) rfl rfl ?_
        refine a_aload_n C dX6_readInto_113 (i := 0) rfl rfl ?_
        refine a_get C fl_RX6_40 (i := 1) kd_1 (hid 1 (by decide)) (v := .int (σ1.1 1 4)) rfl dX6_readInto_114 ?_
        refine p_put C fp_RX6_18 (i := 1) kd_1 (hid 1 (by decide)) rfl rfl dX6_readInto_117 h (fun σ2 h => ?_)
        exact j120 _ h
  have j58 : ∀ (n : Nat) (y2 : Int32) (y3 : Int32) (σ : HS), f_X6_readInto_58 p1 n y2 y3 σ = some R → AW ids ad ca Γ 58 [some (.ref (ad 1)), some (.ref (ad p1)), some (.int y2), some (.int y3)] [] σ := by
    intro n
    induction n with
    | zero => intro y2 y3 σ h; exact nn h
    | succ n ih =>
      intro y2 y3 σ h
      have h : b_X6_readInto_58 p1 (f_X6_readInto_58 p1 n) y2 y3 σ = some R := h
      unfold b_X6_readInto_58 at h
      refine a_iload_n C dX6_readInto_58 (i := 2) rfl rfl ?_
      refine p_if_eq C (X := y2.toInt) rfl dX6_readInto_59 (tgt := 90) rfl h (fun h => ?_) (fun h => ?_)
      ·
        refine AW.sub (vs' := [some (.ref (ad 1)), none, none, none]) (lsub_of (by simp [lsubB])) ?_
        exact j90 _ h
      ·
        refine a_aload_n C dX6_readInto_62 (i := 0) rfl rfl ?_
        refine a_get C fl_RX6_53 (i := 1) kd_1 (hid 1 (by decide)) (v := .int (σ.1 1 6)) rfl dX6_readInto_63 ?_
        refine a_bipush C dX6_readInto_66 (v := 22) rfl ?_
        refine p_ic_eq C (X := (σ.1 1 6).toInt) (Y := 22) rfl (by decide) dX6_readInto_68 (tgt := 90) rfl h (fun h => ?_) (fun h => ?_)
        ·
          refine AW.sub (vs' := [some (.ref (ad 1)), none, none, none]) (lsub_of (by simp [lsubB])) ?_
          exact j90 _ h
        ·
          refine a_iload_n C dX6_readInto_71 (i := 3) rfl rfl ?_
          refine a_sipush C dX6_readInto_72 (v := 400) rfl ?_
          refine p_ic_gt C (X := y3.toInt) (Y := 400) rfl (by decide) dX6_readInto_75 (tgt := 90) rfl h (fun h => ?_) (fun h => ?_)
          ·
            refine AW.sub (vs' := [some (.ref (ad 1)), none, none, none]) (lsub_of (by simp [lsubB])) ?_
            exact j90 _ h
          ·
            refine a_aload_n C dX6_readInto_78 (i := 0) rfl rfl ?_
            refine a_aload_n C dX6_readInto_79 (i := 1) rfl rfl ?_
            refine p_callVi C (As := [.ref (ad p1)]) (i := 1) kd_1 (hid 1 (by decide)) ⟨_, _, rfl⟩ (by decide) h (fun _ _ e => Z_X6_telling hid hp1 e) mi_X6_telling ml_RX6_56 rfl rfl (Nat.le_of_ble_eq_true rfl) (Nat.le_of_ble_eq_true rfl) (Nat.le_of_ble_eq_true rfl) dX6_readInto_80 (fun r2 σ1 h => ?_)
            refine a_istore_n C dX6_readInto_83 (i := 2) rfl (by decide) rfl (vs1 := [some (.ref (ad 1)), some (.ref (ad p1)), some (.int r2), some (.int y3)]) rfl ?_
            refine p_iinc C (y := (y3 + 1)) (fun z3 => [some (.ref (ad 1)), some (.ref (ad p1)), some (.int r2), some (.int z3)]) dX6_readInto_84 rfl rfl (by decide) rfl (fun _ => rfl) h (fun z3 h => ?_)
            refine a_goto C dX6_readInto_87 (tgt := 58) rfl ?_
            exact ih _ _ _ h
  refine a_aload_n C dX6_readInto_0 (i := 1) rfl rfl ?_
  refine p_callVv C (As := []) (i := p1) hp1.1.1 (hid _ hp1.1.2) ⟨_, _, rfl⟩ (by decide) h (fun _ e => Z_X10_clear hid hp1 e) mi_X10_clear ml_RX6_26 rfl rfl (Nat.le_of_ble_eq_true rfl) (Nat.le_of_ble_eq_true rfl) (Nat.le_of_ble_eq_true rfl) dX6_readInto_1 (fun σ1 h => ?_)
  refine a_aload_n C dX6_readInto_4 (i := 0) rfl rfl ?_
  refine a_iconst C dX6_readInto_5 (v := 0) rfl ?_
  refine p_put C fp_RX6_31 (i := 1) kd_1 (hid 1 (by decide)) rfl rfl dX6_readInto_6 h (fun σ3 h => ?_)
  refine a_aload_n C dX6_readInto_9 (i := 0) rfl rfl ?_
  refine a_iconst C dX6_readInto_10 (v := 0) rfl ?_
  refine p_put C fp_RX6_34 (i := 1) kd_1 (hid 1 (by decide)) rfl rfl dX6_readInto_11 h (fun σ4 h => ?_)
  refine a_aload_n C dX6_readInto_14 (i := 0) rfl rfl ?_
  refine a_iconst C dX6_readInto_15 (v := (-1)) rfl ?_
  refine p_put C fp_RX6_18 (i := 1) kd_1 (hid 1 (by decide)) rfl rfl dX6_readInto_16 h (fun σ5 h => ?_)
  refine a_aload_n C dX6_readInto_19 (i := 0) rfl rfl ?_
  refine a_iconst C dX6_readInto_20 (v := 0) rfl ?_
  refine p_put C fp_RX6_37 (i := 1) kd_1 (hid 1 (by decide)) rfl rfl dX6_readInto_21 h (fun σ6 h => ?_)
  refine a_aload_n C dX6_readInto_24 (i := 0) rfl rfl ?_
  refine a_iconst C dX6_readInto_25 (v := (-1)) rfl ?_
  refine p_put C fp_RX6_40 (i := 1) kd_1 (hid 1 (by decide)) rfl rfl dX6_readInto_26 h (fun σ7 h => ?_)
  refine a_aload_n C dX6_readInto_29 (i := 0) rfl rfl ?_
  refine a_get C fl_RX6_12 (i := 1) kd_1 (hid 1 (by decide)) (v := .ref (ad 2)) rfl dX6_readInto_30 ?_
  refine p_cVvS C E (As := []) (i := 2) kd_2 (hid 2 (by decide)) ⟨_, _, rfl⟩ (by decide) h (fun _ e => Z_X9_cut hid e) mi_X9_cut ml_RX6_43 rfl rfl (Nat.le_of_ble_eq_true rfl) (Nat.le_of_ble_eq_true rfl) (Nat.le_of_ble_eq_true rfl) dX6_readInto_33 (fun σ8 h => ?_)
  refine a_aload_n C dX6_readInto_36 (i := 0) rfl rfl ?_
  refine a_iconst C dX6_readInto_37 (v := 0) rfl ?_
  refine p_put C fp_RX6_46 (i := 1) kd_1 (hid 1 (by decide)) rfl rfl dX6_readInto_38 h (fun σ10 h => ?_)
  refine a_aload_n C dX6_readInto_41 (i := 0) rfl rfl ?_
  refine a_aload_n C dX6_readInto_42 (i := 0) rfl rfl ?_
  refine a_get C fl_RX6_12 (i := 1) kd_1 (hid 1 (by decide)) (v := .ref (ad 2)) rfl dX6_readInto_43 ?_
  refine a_get C fl_RX6_49 (i := 2) kd_2 (hid 2 (by decide)) (v := .ref (ad 4)) rfl dX6_readInto_46 ?_
  refine a_iconst C dX6_readInto_49 (v := 0) rfl ?_
  refine p_ialdc C (i := 4) 0 (show rowOK 4 from ⟨kd_4, by decide⟩) hid (by decide) (by rw [al_4]; decide) dX6_readInto_50 ?_
  refine p_put C fp_RX6_53 (i := 1) kd_1 (hid 1 (by decide)) rfl rfl dX6_readInto_51 h (fun σ11 h => ?_)
  refine a_iconst C dX6_readInto_54 (v := 1) rfl ?_
  refine a_istore_n C dX6_readInto_55 (i := 2) rfl (by decide) rfl (vs1 := [some (.ref (ad 1)), some (.ref (ad p1)), some (.int 1), none]) rfl ?_
  refine a_iconst C dX6_readInto_56 (v := 0) rfl ?_
  refine a_istore_n C dX6_readInto_57 (i := 3) rfl (by decide) rfl (vs1 := [some (.ref (ad 1)), some (.ref (ad p1)), some (.int 1), some (.int 0)]) rfl ?_
  exact j58 _ _ _ _ h

set_option maxHeartbeats 4000000 in
set_option maxRecDepth 100000 in
theorem Z_X7_meet {l : Launch} {D : va_G} {ids : List Nat} {ad : Nat → Nat} {ca : Nat → ClassId} {σ : HS} {x1 : Int32} {x2 : Int32} {x3 : Int32} {s0 : HS} (hid : ∀ i, i < 277 → i ∈ ids) (h : f_X7_meet x1 x2 x3 σ = some s0) : Kv l D ids ad ca yX7_meet cX7_meet 4 0 0 [.ref (ad 17), .int x1, .int x2, .int x3] σ (fun σ1 => σ1 = s0) := by
  obtain ⟨R, hR⟩ : ∃ R, s0 = R := ⟨_, rfl⟩
  replace h := h.trans (congrArg some hR)
  refine Kv.of (by decide) (Nat.le_of_ble_eq_true rfl) 0 (fun Γ C Rt => ?_)
  show AW ids ad ca Γ 0 [some (.ref (ad 17)), some (.int x1), some (.int x2), some (.int x3)] [] σ
  unfold f_X7_meet at h
  refine a_aload_n C dX7_meet_0 (i := 0) rfl rfl ?_
  refine a_get C fl_RX7_15 (i := 17) kd_17 (hid 17 (by decide)) (v := .ref (ad 19)) rfl dX7_meet_1 ?_
  refine a_iload_n C dX7_meet_4 (i := 1) rfl rfl ?_
  refine p_iald C (i := 19) (show rowOK 19 from ⟨kd_19, by decide⟩) hid (by rw [al_19]; rfl) dX7_meet_5 h (fun h => ?_)
  refine a_iconst C dX7_meet_6 (v := (-1)) rfl ?_
  refine p_ic_ne C (X := (σ.1 19 x1.toInt.toNat).toInt) (Y := (-1)) rfl (by decide) dX7_meet_7 (tgt := 54) rfl h (fun h => ?_) (fun h => ?_)
  ·
    exact a_vret Rt dX7_meet_54 (retv_eq (h.trans (congrArg some hR.symm)))
  ·
    refine a_aload_n C dX7_meet_10 (i := 0) rfl rfl ?_
    refine a_get C fl_RX7_30 (i := 17) kd_17 (hid 17 (by decide)) (v := .int (σ.1 17 1)) rfl dX7_meet_11 ?_
    refine a_sipush C dX7_meet_14 (v := 1024) rfl ?_
    refine p_ic_ge C (X := (σ.1 17 1).toInt) (Y := 1024) rfl (by decide) dX7_meet_17 (tgt := 54) rfl h (fun h => ?_) (fun h => ?_)
    ·
      exact a_vret Rt dX7_meet_54 (retv_eq (h.trans (congrArg some hR.symm)))
    ·
      refine a_aload_n C dX7_meet_20 (i := 0) rfl rfl ?_
      refine a_get C fl_RX7_15 (i := 17) kd_17 (hid 17 (by decide)) (v := .ref (ad 19)) rfl dX7_meet_21 ?_
      refine a_iload_n C dX7_meet_24 (i := 1) rfl rfl ?_
      refine a_iload_n C dX7_meet_25 (i := 2) rfl rfl ?_
      refine p_iast C (i := 19) (show rowOK 19 from ⟨kd_19, by decide⟩) hid (by rw [al_19]; rfl) dX7_meet_26 h (fun σ1 h => ?_)
      refine a_aload_n C dX7_meet_27 (i := 0) rfl rfl ?_
      refine a_get C fl_RX7_18 (i := 17) kd_17 (hid 17 (by decide)) (v := .ref (ad 20)) rfl dX7_meet_28 ?_
      refine a_iload_n C dX7_meet_31 (i := 1) rfl rfl ?_
      refine a_iload_n C dX7_meet_32 (i := 3) rfl rfl ?_
      refine p_iast C (i := 20) (show rowOK 20 from ⟨kd_20, by decide⟩) hid (by rw [al_20]; rfl) dX7_meet_33 h (fun σ2 h => ?_)
      refine a_aload_n C dX7_meet_34 (i := 0) rfl rfl ?_
      refine a_get C fl_RX7_11 (i := 17) kd_17 (hid 17 (by decide)) (v := .ref (ad 18)) rfl dX7_meet_35 ?_
      refine a_aload_n C dX7_meet_38 (i := 0) rfl rfl ?_
      refine a_get C fl_RX7_30 (i := 17) kd_17 (hid 17 (by decide)) (v := .int (σ2.1 17 1)) rfl dX7_meet_39 ?_
      refine a_iload_n C dX7_meet_42 (i := 1) rfl rfl ?_
      refine p_iast C (i := 18) (show rowOK 18 from ⟨kd_18, by decide⟩) hid (by rw [al_18]; rfl) dX7_meet_43 h (fun σ3 h => ?_)
      refine a_aload_n C dX7_meet_44 (i := 0) rfl rfl ?_
      refine a_dup C dX7_meet_45 rfl ?_
      refine a_get C fl_RX7_30 (i := 17) kd_17 (hid 17 (by decide)) (v := .int (σ3.1 17 1)) rfl dX7_meet_46 ?_
      refine a_iconst C dX7_meet_49 (v := 1) rfl ?_
      refine a_iadd C dX7_meet_50 ?_
      refine p_put C fp_RX7_30 (i := 17) kd_17 (hid 17 (by decide)) rfl rfl dX7_meet_51 h (fun σ4 h => ?_)
      exact a_vret Rt dX7_meet_54 (retv_eq (h.trans (congrArg some hR.symm)))
set_option maxHeartbeats 4000000 in
set_option maxRecDepth 100000 in
theorem Z_X7_goOnFrom {l : Launch} {D : va_G} {ids : List Nat} {ad : Nat → Nat} {ca : Nat → ClassId} {σ : HS} {x1 : Int32} {s0 : HS} (hid : ∀ i, i < 277 → i ∈ ids) (h : f_X7_goOnFrom x1 σ = some s0) : Kv l D ids ad ca yX7_goOnFrom cX7_goOnFrom 5 1 23 [.ref (ad 17), .int x1] σ (fun σ1 => σ1 = s0) := by
  obtain ⟨R, hR⟩ : ∃ R, s0 = R := ⟨_, rfl⟩
  replace h := h.trans (congrArg some hR)
  refine Kv.of (by decide) (Nat.le_of_ble_eq_true rfl) 3 (fun Γ C Rt => ?_)
  show AW ids ad ca Γ 0 [some (.ref (ad 17)), some (.int x1), none, none, none] [] σ
  unfold f_X7_goOnFrom at h
  have j50 : ∀ (k20 : Int32 → Int32 → Int32 → HS → Option (HS)) (hk20 : ∀ (y1 : Int32) (y2 : Int32) (y3 : Int32) (σ : HS), k20 y1 y2 y3 σ = some R → AW ids ad ca Γ 20 [some (.ref (ad 17)), some (.int y1), some (.int y2), some (.int y3), none] [] σ) (y1 : Int32) (y2 : Int32) (y3 : Int32) (σ : HS), f_X7_goOnFrom_50 k20 y1 y2 y3 σ = some R → AW ids ad ca Γ 50 [some (.ref (ad 17)), some (.int y1), some (.int y2), some (.int y3), none] [] σ := by
    intro k20 hk20 y1 y2 y3 σ h
    unfold f_X7_goOnFrom_50 at h
    refine p_iinc C (y := (y3 + 1)) (fun z1 => [some (.ref (ad 17)), some (.int y1), some (.int y2), some (.int z1), none]) dX7_goOnFrom_50 rfl rfl (by decide) rfl (fun _ => rfl) h (fun z1 h => ?_)
    refine a_goto C dX7_goOnFrom_53 (tgt := 20) rfl ?_
    exact hk20 _ _ _ _ h
  have j20 : ∀ (n : Nat) (y1 : Int32) (y2 : Int32) (y3 : Int32) (σ : HS), f_X7_goOnFrom_20 n y1 y2 y3 σ = some R → AW ids ad ca Γ 20 [some (.ref (ad 17)), some (.int y1), some (.int y2), some (.int y3), none] [] σ := by
    intro n
    induction n with
    | zero => intro y1 y2 y3 σ h; exact nn h
    | succ n ih =>
      intro y1 y2 y3 σ h
      have h : b_X7_goOnFrom_20 (f_X7_goOnFrom_20 n) y1 y2 y3 σ = some R := h
      unfold b_X7_goOnFrom_20 at h
      refine a_iload_n C dX7_goOnFrom_20 (i := 3) rfl rfl ?_
      refine a_bipush C dX7_goOnFrom_21 (v := 9) rfl ?_
      refine p_ic_gt C (X := y3.toInt) (Y := 9) rfl (by decide) dX7_goOnFrom_23 (tgt := 56) rfl h (fun h => ?_) (fun h => ?_)
      ·
        exact a_vret Rt dX7_goOnFrom_56 (retv_eq (h.trans (congrArg some hR.symm)))
      ·
        refine a_iconst C dX7_goOnFrom_26 (v := 1) rfl ?_
        refine a_iload_n C dX7_goOnFrom_27 (i := 3) rfl rfl ?_
        refine a_iconst C dX7_goOnFrom_28 (v := 1) rfl ?_
        refine a_isub C dX7_goOnFrom_29 ?_
        refine a_ishl C dX7_goOnFrom_30 ?_
        refine p_istore C (fun z1 => [some (.ref (ad 17)), some (.int y1), some (.int y2), some (.int y3), some (.int z1)]) dX7_goOnFrom_31 (by decide) rfl (fun _ => rfl) h (fun z1 h => ?_)
        refine a_iload_n C dX7_goOnFrom_33 (i := 2) rfl rfl ?_
        refine a_iload C dX7_goOnFrom_34 rfl ?_
        refine a_iand C dX7_goOnFrom_36 ?_
        refine p_if_ne C (X := (y2 &&& z1).toInt) rfl dX7_goOnFrom_37 (tgt := 50) rfl h (fun h => ?_) (fun h => ?_)
        ·
          refine AW.sub (vs' := [some (.ref (ad 17)), some (.int y1), some (.int y2), some (.int y3), none]) (lsub_of (by simp [lsubB])) ?_
          exact j50 (f_X7_goOnFrom_20 n) (fun y1 y2 y3 σ h => ih y1 y2 y3 σ h) _ _ _ _ h
        ·
          refine a_aload_n C dX7_goOnFrom_40 (i := 0) rfl rfl ?_
          refine a_iload_n C dX7_goOnFrom_41 (i := 2) rfl rfl ?_
          refine a_iload C dX7_goOnFrom_42 rfl ?_
          refine a_ior C dX7_goOnFrom_44 ?_
          refine a_iload_n C dX7_goOnFrom_45 (i := 1) rfl rfl ?_
          refine a_iload_n C dX7_goOnFrom_46 (i := 3) rfl rfl ?_
          refine p_callVv C (As := [.int (y2 ||| z1), .int y1, .int y3]) (i := 17) kd_17 (hid 17 (by decide)) ⟨_, _, rfl⟩ (by decide) h (fun _ e => Z_X7_meet hid e) mi_X7_meet ml_RX7_34 rfl rfl (Nat.le_of_ble_eq_true rfl) (Nat.le_of_ble_eq_true rfl) (Nat.le_of_ble_eq_true rfl) dX7_goOnFrom_47 (fun σ2 h => ?_)
          refine AW.sub (vs' := [some (.ref (ad 17)), some (.int y1), some (.int y2), some (.int y3), none]) (lsub_of (by simp [lsubB])) ?_
          exact j50 (f_X7_goOnFrom_20 n) (fun y1 y2 y3 σ h => ih y1 y2 y3 σ h) _ _ _ _ h
  refine a_iload_n C dX7_goOnFrom_0 (i := 1) rfl rfl ?_
  refine a_iconst C dX7_goOnFrom_1 (v := 1) rfl ?_
  refine a_ishr C dX7_goOnFrom_2 ?_
  refine p_istore_n C (fun z1 => [some (.ref (ad 17)), some (.int x1), some (.int z1), none, none]) dX7_goOnFrom_3 (i := 2) rfl (by decide) rfl (fun _ => rfl) h (fun z1 h => ?_)
  refine a_iload_n C dX7_goOnFrom_4 (i := 1) rfl rfl ?_
  refine a_iconst C dX7_goOnFrom_5 (v := 1) rfl ?_
  refine a_iand C dX7_goOnFrom_6 ?_
  refine p_if_ne C (X := (x1 &&& (1 : Int32)).toInt) rfl dX7_goOnFrom_7 (tgt := 18) rfl h (fun h => ?_) (fun h => ?_)
  ·
    refine a_iconst C dX7_goOnFrom_18 (v := 1) rfl ?_
    refine a_istore_n C dX7_goOnFrom_19 (i := 3) rfl (by decide) rfl (vs1 := [some (.ref (ad 17)), some (.int x1), some (.int z1), some (.int 1), none]) rfl ?_
    exact j20 _ _ _ _ _ h
  ·
    refine a_aload_n C dX7_goOnFrom_10 (i := 0) rfl rfl ?_
    refine a_iload_n C dX7_goOnFrom_11 (i := 2) rfl rfl ?_
    refine a_iload_n C dX7_goOnFrom_12 (i := 1) rfl rfl ?_
    refine a_iconst C dX7_goOnFrom_13 (v := 0) rfl ?_
    refine p_callVv C (As := [.int z1, .int x1, .int 0]) (i := 17) kd_17 (hid 17 (by decide)) ⟨_, _, rfl⟩ (by decide) h (fun _ e => Z_X7_meet hid e) mi_X7_meet ml_RX7_34 rfl rfl (Nat.le_of_ble_eq_true rfl) (Nat.le_of_ble_eq_true rfl) (Nat.le_of_ble_eq_true rfl) dX7_goOnFrom_14 (fun σ2 h => ?_)
    exact a_vret Rt dX7_goOnFrom_17 (retv_eq (h.trans (congrArg some hR.symm)))
set_option maxHeartbeats 4000000 in
set_option maxRecDepth 100000 in
theorem Z_X7_find {l : Launch} {D : va_G} {ids : List Nat} {ad : Nat → Nat} {ca : Nat → ClassId} {σ : HS} {x1 : Int32} {x2 : Int32} {r0 : Int32} {s0 : HS} (hid : ∀ i, i < 277 → i ∈ ids) (h : f_X7_find x1 x2 σ = some (r0, s0)) : Ki l D ids ad ca yX7_find cX7_find 6 .boolean 2 47 [.ref (ad 17), .int x1, .int x2] σ (fun r σ1 => r = r0 ∧ σ1 = s0) := by
  obtain ⟨R, hR⟩ : ∃ R, (r0, s0) = R := ⟨_, rfl⟩
  replace h := h.trans (congrArg some hR)
  refine Ki.of (by decide) (Nat.le_of_ble_eq_true rfl) 3 (fun Γ C Rt => ?_)
  show AW ids ad ca Γ 0 [some (.ref (ad 17)), some (.int x1), some (.int x2), none, none, none] [] σ
  unfold f_X7_find at h
  have j134 : ∀ (n : Nat) (y4 : Int32) (y5 : Int32) (σ : HS), f_X7_find_134 n y4 y5 σ = some R → AW ids ad ca Γ 134 [some (.ref (ad 17)), none, none, none, some (.int y4), some (.int y5)] [] σ := by
    intro n
    induction n with
    | zero => intro y4 y5 σ h; exact nn h
    | succ n ih =>
      intro y4 y5 σ h
      have h : b_X7_find_134 (f_X7_find_134 n) y4 y5 σ = some R := h
      unfold b_X7_find_134 at h
      refine a_iload C dX7_find_134 rfl ?_
      refine p_if_lt C (X := y5.toInt) rfl dX7_find_136 (tgt := 168) rfl h (fun h => ?_) (fun h => ?_)
      ·
        refine a_iconst C dX7_find_168 (v := 1) rfl ?_
        exact a_iret Rt dX7_find_169 (nar_z (by decide)).1 (ret_eq (h.trans (congrArg some hR.symm)))
      ·
        refine a_aload_n C dX7_find_139 (i := 0) rfl rfl ?_
        refine a_get C fl_RX7_21 (i := 17) kd_17 (hid 17 (by decide)) (v := .ref (ad 21)) rfl dX7_find_140 ?_
        refine a_iload C dX7_find_143 rfl ?_
        refine a_aload_n C dX7_find_145 (i := 0) rfl rfl ?_
        refine a_get C fl_RX7_18 (i := 17) kd_17 (hid 17 (by decide)) (v := .ref (ad 20)) rfl dX7_find_146 ?_
        refine a_iload C dX7_find_149 rfl ?_
        refine p_iald C (i := 20) (show rowOK 20 from ⟨kd_20, by decide⟩) hid (by rw [al_20]; rfl) dX7_find_151 h (fun h => ?_)
        refine p_iast C (i := 21) (show rowOK 21 from ⟨kd_21, by decide⟩) hid (by rw [al_21]; rfl) dX7_find_152 h (fun σ1 h => ?_)
        refine a_aload_n C dX7_find_153 (i := 0) rfl rfl ?_
        refine a_get C fl_RX7_15 (i := 17) kd_17 (hid 17 (by decide)) (v := .ref (ad 19)) rfl dX7_find_154 ?_
        refine a_iload C dX7_find_157 rfl ?_
        refine p_iald C (i := 19) (show rowOK 19 from ⟨kd_19, by decide⟩) hid (by rw [al_19]; rfl) dX7_find_159 h (fun h => ?_)
        refine p_istore C (fun z2 => [some (.ref (ad 17)), none, none, none, some (.int z2), some (.int y5)]) dX7_find_160 (by decide) rfl (fun _ => rfl) h (fun z2 h => ?_)
        refine p_iinc C (y := (y5 + (-1))) (fun z3 => [some (.ref (ad 17)), none, none, none, some (.int z2), some (.int z3)]) dX7_find_162 rfl rfl (by decide) rfl (fun _ => rfl) h (fun z3 h => ?_)
        refine a_goto C dX7_find_165 (tgt := 134) rfl ?_
        exact ih _ _ _ h
  have j111 : ∀ (y2 : Int32) (σ : HS), f_X7_find_111 y2 σ = some R → AW ids ad ca Γ 111 [some (.ref (ad 17)), none, some (.int y2), none, none, none] [] σ := by
    intro y2 σ h
    unfold f_X7_find_111 at h
    refine a_aload_n C dX7_find_111 (i := 0) rfl rfl ?_
    refine a_get C fl_RX7_15 (i := 17) kd_17 (hid 17 (by decide)) (v := .ref (ad 19)) rfl dX7_find_112 ?_
    refine a_iload_n C dX7_find_115 (i := 2) rfl rfl ?_
    refine p_iald C (i := 19) (show rowOK 19 from ⟨kd_19, by decide⟩) hid (by rw [al_19]; rfl) dX7_find_116 h (fun h => ?_)
    refine a_iconst C dX7_find_117 (v := (-1)) rfl ?_
    refine p_ic_ne C (X := (σ.1 19 y2.toInt.toNat).toInt) (Y := (-1)) rfl (by decide) dX7_find_118 (tgt := 123) rfl h (fun h => ?_) (fun h => ?_)
    ·
      refine a_iload_n C dX7_find_123 (i := 2) rfl rfl ?_
      refine a_istore C dX7_find_124 (by decide) rfl (vs1 := [some (.ref (ad 17)), none, some (.int y2), none, some (.int y2), none]) rfl ?_
      refine a_aload_n C dX7_find_126 (i := 0) rfl rfl ?_
      refine a_get C fl_RX7_38 (i := 17) kd_17 (hid 17 (by decide)) (v := .int (σ.1 17 5)) rfl dX7_find_127 ?_
      refine a_iconst C dX7_find_130 (v := 1) rfl ?_
      refine a_isub C dX7_find_131 ?_
      refine p_istore C (fun z1 => [some (.ref (ad 17)), none, some (.int y2), none, some (.int y2), some (.int z1)]) dX7_find_132 (by decide) rfl (fun _ => rfl) h (fun z1 h => ?_)
      refine AW.sub (vs' := [some (.ref (ad 17)), none, none, none, some (.int y2), some (.int z1)]) (lsub_of (by simp [lsubB])) ?_
      exact j134 _ _ _ _ h
    ·
      refine a_iconst C dX7_find_121 (v := 0) rfl ?_
      exact a_iret Rt dX7_find_122 (nar_z (by decide)).1 (ret_eq (h.trans (congrArg some hR.symm)))
  have j76 : ∀ (k51 : Int32 → Int32 → HS → Option (Int32 × HS)) (hk51 : ∀ (y2 : Int32) (y3 : Int32) (σ : HS), k51 y2 y3 σ = some R → AW ids ad ca Γ 51 [some (.ref (ad 17)), none, some (.int y2), some (.int y3), none, none] [] σ) (n : Nat) (y2 : Int32) (y3 : Int32) (y4 : Int32) (σ : HS), f_X7_find_76 k51 n y2 y3 y4 σ = some R → AW ids ad ca Γ 76 [some (.ref (ad 17)), none, some (.int y2), some (.int y3), some (.int y4), none] [] σ := by
    intro k51 hk51 n
    induction n with
    | zero => intro y2 y3 y4 σ h; exact nn h
    | succ n ih =>
      intro y2 y3 y4 σ h
      have h : b_X7_find_76 k51 (f_X7_find_76 k51 n) y2 y3 y4 σ = some R := h
      unfold b_X7_find_76 at h
      refine a_iload_n C dX7_find_76 (i := 3) rfl rfl ?_
      refine a_iload C dX7_find_77 rfl ?_
      refine p_ic_ge C (X := y3.toInt) (Y := y4.toInt) rfl rfl dX7_find_79 (tgt := 98) rfl h (fun h => ?_) (fun h => ?_)
      ·
        refine a_aload_n C dX7_find_98 (i := 0) rfl rfl ?_
        refine a_dup C dX7_find_99 rfl ?_
        refine a_get C fl_RX7_38 (i := 17) kd_17 (hid 17 (by decide)) (v := .int (σ.1 17 5)) rfl dX7_find_100 ?_
        refine a_iconst C dX7_find_103 (v := 1) rfl ?_
        refine a_iadd C dX7_find_104 ?_
        refine p_put C fp_RX7_38 (i := 17) kd_17 (hid 17 (by decide)) rfl rfl dX7_find_105 h (fun σ1 h => ?_)
        refine a_goto C dX7_find_108 (tgt := 51) rfl ?_
        refine AW.sub (vs' := [some (.ref (ad 17)), none, some (.int y2), some (.int y3), none, none]) (lsub_of (by simp [lsubB])) ?_
        exact hk51 _ _ _ h
      ·
        refine a_aload_n C dX7_find_82 (i := 0) rfl rfl ?_
        refine a_aload_n C dX7_find_83 (i := 0) rfl rfl ?_
        refine a_get C fl_RX7_11 (i := 17) kd_17 (hid 17 (by decide)) (v := .ref (ad 18)) rfl dX7_find_84 ?_
        refine a_iload_n C dX7_find_87 (i := 3) rfl rfl ?_
        refine p_iald C (i := 18) (show rowOK 18 from ⟨kd_18, by decide⟩) hid (by rw [al_18]; rfl) dX7_find_88 h (fun h => ?_)
        refine p_callVv C (As := [.int (σ.1 18 y3.toInt.toNat)]) (i := 17) kd_17 (hid 17 (by decide)) ⟨_, _, rfl⟩ (by decide) h (fun _ e => Z_X7_goOnFrom hid e) mi_X7_goOnFrom ml_RX7_41 rfl rfl (Nat.le_of_ble_eq_true rfl) (Nat.le_of_ble_eq_true rfl) (Nat.le_of_ble_eq_true rfl) dX7_find_89 (fun σ2 h => ?_)
        refine p_iinc C (y := (y3 + 1)) (fun z4 => [some (.ref (ad 17)), none, some (.int y2), some (.int z4), some (.int y4), none]) dX7_find_92 rfl rfl (by decide) rfl (fun _ => rfl) h (fun z4 h => ?_)
        refine a_goto C dX7_find_95 (tgt := 76) rfl ?_
        exact ih _ _ _ _ h
  have j51 : ∀ (n : Nat) (y2 : Int32) (y3 : Int32) (σ : HS), f_X7_find_51 n y2 y3 σ = some R → AW ids ad ca Γ 51 [some (.ref (ad 17)), none, some (.int y2), some (.int y3), none, none] [] σ := by
    intro n
    induction n with
    | zero => intro y2 y3 σ h; exact nn h
    | succ n ih =>
      intro y2 y3 σ h
      have h : b_X7_find_51 (f_X7_find_51 n) y2 y3 σ = some R := h
      unfold b_X7_find_51 at h
      refine a_aload_n C dX7_find_51 (i := 0) rfl rfl ?_
      refine a_get C fl_RX7_38 (i := 17) kd_17 (hid 17 (by decide)) (v := .int (σ.1 17 5)) rfl dX7_find_52 ?_
      refine a_bipush C dX7_find_55 (v := 12) rfl ?_
      refine p_ic_ge C (X := (σ.1 17 5).toInt) (Y := 12) rfl (by decide) dX7_find_57 (tgt := 111) rfl h (fun h => ?_) (fun h => ?_)
      ·
        refine AW.sub (vs' := [some (.ref (ad 17)), none, some (.int y2), none, none, none]) (lsub_of (by simp [lsubB])) ?_
        exact j111 _ _ h
      ·
        refine a_aload_n C dX7_find_60 (i := 0) rfl rfl ?_
        refine a_get C fl_RX7_15 (i := 17) kd_17 (hid 17 (by decide)) (v := .ref (ad 19)) rfl dX7_find_61 ?_
        refine a_iload_n C dX7_find_64 (i := 2) rfl rfl ?_
        refine p_iald C (i := 19) (show rowOK 19 from ⟨kd_19, by decide⟩) hid (by rw [al_19]; rfl) dX7_find_65 h (fun h => ?_)
        refine a_iconst C dX7_find_66 (v := (-1)) rfl ?_
        refine p_ic_ne C (X := (σ.1 19 y2.toInt.toNat).toInt) (Y := (-1)) rfl (by decide) dX7_find_67 (tgt := 111) rfl h (fun h => ?_) (fun h => ?_)
        ·
          refine AW.sub (vs' := [some (.ref (ad 17)), none, some (.int y2), none, none, none]) (lsub_of (by simp [lsubB])) ?_
          exact j111 _ _ h
        ·
          refine a_aload_n C dX7_find_70 (i := 0) rfl rfl ?_
          refine a_get C fl_RX7_30 (i := 17) kd_17 (hid 17 (by decide)) (v := .int (σ.1 17 1)) rfl dX7_find_71 ?_
          refine p_istore C (fun z1 => [some (.ref (ad 17)), none, some (.int y2), some (.int y3), some (.int z1), none]) dX7_find_74 (by decide) rfl (fun _ => rfl) h (fun z1 h => ?_)
          exact j76 (f_X7_find_51 n) (fun y2 y3 σ h => ih y2 y3 σ h) _ _ _ _ _ h
  refine a_iload_n C dX7_find_0 (i := 1) rfl rfl ?_
  refine p_if_lt C (X := x1.toInt) rfl dX7_find_1 (tgt := 22) rfl h (fun h => ?_) (fun h => ?_)
  ·
    refine a_iconst C dX7_find_22 (v := 0) rfl ?_
    exact a_iret Rt dX7_find_23 (nar_z (by decide)).1 (ret_eq (h.trans (congrArg some hR.symm)))
  ·
    refine a_iload_n C dX7_find_4 (i := 1) rfl rfl ?_
    refine a_sipush C dX7_find_5 (v := 1024) rfl ?_
    refine p_ic_ge C (X := x1.toInt) (Y := 1024) rfl (by decide) dX7_find_8 (tgt := 22) rfl h (fun h => ?_) (fun h => ?_)
    ·
      refine a_iconst C dX7_find_22 (v := 0) rfl ?_
      exact a_iret Rt dX7_find_23 (nar_z (by decide)).1 (ret_eq (h.trans (congrArg some hR.symm)))
    ·
      refine a_iload_n C dX7_find_11 (i := 2) rfl rfl ?_
      refine p_if_lt C (X := x2.toInt) rfl dX7_find_12 (tgt := 22) rfl h (fun h => ?_) (fun h => ?_)
      ·
        refine a_iconst C dX7_find_22 (v := 0) rfl ?_
        exact a_iret Rt dX7_find_23 (nar_z (by decide)).1 (ret_eq (h.trans (congrArg some hR.symm)))
      ·
        refine a_iload_n C dX7_find_15 (i := 2) rfl rfl ?_
        refine a_sipush C dX7_find_16 (v := 1024) rfl ?_
        refine p_ic_lt C (X := x2.toInt) (Y := 1024) rfl (by decide) dX7_find_19 (tgt := 24) rfl h (fun h => ?_) (fun h => ?_)
        ·
          refine a_aload_n C dX7_find_24 (i := 0) rfl rfl ?_
          refine a_get C fl_RX7_15 (i := 17) kd_17 (hid 17 (by decide)) (v := .ref (ad 19)) rfl dX7_find_25 ?_
          refine a_iconst C dX7_find_28 (v := (-1)) rfl ?_
          refine p_callSv C (As := [.ref (ad 19), .int (-1)]) h (fun _ e => Z_J7_fill_53178 hid (show rowOK 19 from ⟨kd_19, by decide⟩) e) ms_J7_fill_53178 ml_RX7_24 rfl rfl (Nat.le_of_ble_eq_true rfl) (Nat.le_of_ble_eq_true rfl) (Nat.le_of_ble_eq_true rfl) dX7_find_29 (fun σ1 h => ?_)
          refine a_aload_n C dX7_find_32 (i := 0) rfl rfl ?_
          refine a_iconst C dX7_find_33 (v := 0) rfl ?_
          refine p_put C fp_RX7_30 (i := 17) kd_17 (hid 17 (by decide)) rfl rfl dX7_find_34 h (fun σ3 h => ?_)
          refine a_aload_n C dX7_find_37 (i := 0) rfl rfl ?_
          refine a_iload_n C dX7_find_38 (i := 1) rfl rfl ?_
          refine a_iload_n C dX7_find_39 (i := 1) rfl rfl ?_
          refine a_iconst C dX7_find_40 (v := 0) rfl ?_
          refine p_callVv C (As := [.int x1, .int x1, .int 0]) (i := 17) kd_17 (hid 17 (by decide)) ⟨_, _, rfl⟩ (by decide) h (fun _ e => Z_X7_meet hid e) mi_X7_meet ml_RX7_34 rfl rfl (Nat.le_of_ble_eq_true rfl) (Nat.le_of_ble_eq_true rfl) (Nat.le_of_ble_eq_true rfl) dX7_find_41 (fun σ4 h => ?_)
          refine a_iconst C dX7_find_44 (v := 0) rfl ?_
          refine a_istore_n C dX7_find_45 (i := 3) rfl (by decide) rfl (vs1 := [some (.ref (ad 17)), some (.int x1), some (.int x2), some (.int 0), none, none]) rfl ?_
          refine a_aload_n C dX7_find_46 (i := 0) rfl rfl ?_
          refine a_iconst C dX7_find_47 (v := 0) rfl ?_
          refine p_put C fp_RX7_38 (i := 17) kd_17 (hid 17 (by decide)) rfl rfl dX7_find_48 h (fun σ6 h => ?_)
          refine AW.sub (vs' := [some (.ref (ad 17)), none, some (.int x2), some (.int 0), none, none]) (lsub_of (by simp [lsubB])) ?_
          exact j51 _ _ _ _ h
        ·
          refine a_iconst C dX7_find_22 (v := 0) rfl ?_
          exact a_iret Rt dX7_find_23 (nar_z (by decide)).1 (ret_eq (h.trans (congrArg some hR.symm)))
set_option maxHeartbeats 4000000 in
set_option maxRecDepth 100000 in
theorem Z_X8_finish {l : Launch} {D : va_G} {ids : List Nat} {ad : Nat → Nat} {ca : Nat → ClassId} {σ : HS} {s0 : HS} (hid : ∀ i, i < 277 → i ∈ ids) (h : f_X8_finish σ = some s0) : Kv l D ids ad ca yX8_finish cX8_finish 1 1 60 [.ref (ad 22)] σ (fun σ1 => σ1 = s0) := by
  obtain ⟨R, hR⟩ : ∃ R, s0 = R := ⟨_, rfl⟩
  replace h := h.trans (congrArg some hR)
  refine Kv.of (by decide) (Nat.le_of_ble_eq_true rfl) 0 (fun Γ C Rt => ?_)
  show AW ids ad ca Γ 0 [some (.ref (ad 22))] [] σ
  unfold f_X8_finish at h
  have j24 : ∀ (σ : HS), f_X8_finish_24 σ = some R → AW ids ad ca Γ 24 [some (.ref (ad 22))] [] σ := by
    intro σ h
    unfold f_X8_finish_24 at h
    refine a_aload_n C dX8_finish_24 (i := 0) rfl rfl ?_
    refine a_dup C dX8_finish_25 rfl ?_
    refine a_get C fl_RX8_32 (i := 22) kd_22 (hid 22 (by decide)) (v := .int (σ.1 22 2)) rfl dX8_finish_26 ?_
    refine a_iconst C dX8_finish_29 (v := 1) rfl ?_
    refine a_iadd C dX8_finish_30 ?_
    refine p_put C fp_RX8_32 (i := 22) kd_22 (hid 22 (by decide)) rfl rfl dX8_finish_31 h (fun σ1 h => ?_)
    exact a_vret Rt dX8_finish_34 (retv_eq (h.trans (congrArg some hR.symm)))
  refine a_aload_n C dX8_finish_0 (i := 0) rfl rfl ?_
  refine a_get C fl_RX8_32 (i := 22) kd_22 (hid 22 (by decide)) (v := .int (σ.1 22 2)) rfl dX8_finish_1 ?_
  refine p_if_ne C (X := (σ.1 22 2).toInt) rfl dX8_finish_4 (tgt := 24) rfl h (fun h => ?_) (fun h => ?_)
  ·
    exact j24 _ h
  ·
    refine a_aload_n C dX8_finish_7 (i := 0) rfl rfl ?_
    refine a_get C fl_RX8_9 (i := 22) kd_22 (hid 22 (by decide)) (v := .ref (ad 23)) rfl dX8_finish_8 ?_
    refine a_iconst C dX8_finish_11 (v := 0) rfl ?_
    refine a_aload_n C dX8_finish_12 (i := 0) rfl rfl ?_
    refine a_get C fl_RX8_13 (i := 22) kd_22 (hid 22 (by decide)) (v := .ref (ad 24)) rfl dX8_finish_13 ?_
    refine a_iconst C dX8_finish_16 (v := 0) rfl ?_
    refine a_aload_n C dX8_finish_17 (i := 0) rfl rfl ?_
    refine a_get C fl_RX8_25 (i := 22) kd_22 (hid 22 (by decide)) (v := .int (σ.1 22 3)) rfl dX8_finish_18 ?_
    refine p_copyi C (i0 := 23) (i1 := 24) (SP := 0) (DP := 0) (Z := (σ.1 22 3).toInt) ml_RX8_42 ac_w.1 ac_w.2.1 ac_w.2.2 (show rowOK 23 from ⟨kd_23, by decide⟩) (show rowOK 24 from ⟨kd_24, by decide⟩) hid (by rw [al_23]; rfl) (by rw [al_24]; rfl) (by decide) (by decide) rfl (Nat.le_of_ble_eq_true rfl) (Nat.le_of_ble_eq_true rfl) dX8_finish_21 h (fun σ1 h => ?_)
    exact j24 _ h
set_option maxHeartbeats 4000000 in
set_option maxRecDepth 100000 in
theorem Zg_X8_fill {l : Launch} {D : va_G} {ids : List Nat} {ad : Nat → Nat} {ca : Nat → ClassId} {σ : HS} {x1 : Int32} {x2 : Int32} {x3 : Int32} {s0 : HS} (hid : ∀ i, i < 277 → i ∈ ids) (fE : Int32 → Int32 → Int32 → HS → Option HS) {fr0 lo0 : Nat} (hE : ∀ (x1 x2 x3 : Int32) (σ s0 : HS), fE x1 x2 x3 σ = some s0 → Kv l D ids ad ca yX8_fill cX8_fill 6 fr0 lo0 [.ref (ad 22), .int x1, .int x2, .int x3] σ (fun σ1 => σ1 = s0)) (h : g_X8_fill fE x1 x2 x3 σ = some s0) : Kv l D ids ad ca yX8_fill cX8_fill 6 (fr0 + 2) (lo0 + 80) [.ref (ad 22), .int x1, .int x2, .int x3] σ (fun σ1 => σ1 = s0) := by
  obtain ⟨R, hR⟩ : ∃ R, s0 = R := ⟨_, rfl⟩
  replace h := h.trans (congrArg some hR)
  refine Kv.of (by decide) (Nat.le_of_ble_eq_true rfl) 2 (fun Γ C Rt => ?_)
  show AW ids ad ca Γ 0 [some (.ref (ad 22)), some (.int x1), some (.int x2), some (.int x3), none, none] [] σ
  unfold g_X8_fill at h
  have j78 : ∀ (k20 : Int32 → Int32 → Int32 → Int32 → HS → Option (HS)) (hk20 : ∀ (y1 : Int32) (y2 : Int32) (y3 : Int32) (y4 : Int32) (σ : HS), k20 y1 y2 y3 y4 σ = some R → AW ids ad ca Γ 20 [some (.ref (ad 22)), some (.int y1), some (.int y2), some (.int y3), some (.int y4), none] [] σ) (y1 : Int32) (y2 : Int32) (y3 : Int32) (y4 : Int32) (σ : HS), f_X8_fill_78 fE k20 y1 y2 y3 y4 σ = some R → AW ids ad ca Γ 78 [some (.ref (ad 22)), some (.int y1), some (.int y2), some (.int y3), some (.int y4), none] [] σ := by
    intro k20 hk20 y1 y2 y3 y4 σ h
    unfold f_X8_fill_78 at h
    refine p_iinc C (y := (y4 + 1)) (fun z1 => [some (.ref (ad 22)), some (.int y1), some (.int y2), some (.int y3), some (.int z1), none]) dX8_fill_78 rfl rfl (by decide) rfl (fun _ => rfl) h (fun z1 h => ?_)
    refine a_goto C dX8_fill_81 (tgt := 20) rfl ?_
    exact hk20 _ _ _ _ _ h
  have j20 : ∀ (n : Nat) (y1 : Int32) (y2 : Int32) (y3 : Int32) (y4 : Int32) (σ : HS), f_X8_fill_20 fE n y1 y2 y3 y4 σ = some R → AW ids ad ca Γ 20 [some (.ref (ad 22)), some (.int y1), some (.int y2), some (.int y3), some (.int y4), none] [] σ := by
    intro n
    induction n with
    | zero => intro y1 y2 y3 y4 σ h; exact nn h
    | succ n ih =>
      intro y1 y2 y3 y4 σ h
      have h : b_X8_fill_20 fE (f_X8_fill_20 fE n) y1 y2 y3 y4 σ = some R := h
      unfold b_X8_fill_20 at h
      refine a_iload C dX8_fill_20 rfl ?_
      refine a_aload_n C dX8_fill_22 (i := 0) rfl rfl ?_
      refine a_get C fl_RX8_29 (i := 22) kd_22 (hid 22 (by decide)) (v := .int (σ.1 22 4)) rfl dX8_fill_23 ?_
      refine p_ic_gt C (X := y4.toInt) (Y := (σ.1 22 4).toInt) rfl rfl dX8_fill_26 (tgt := 84) rfl h (fun h => ?_) (fun h => ?_)
      ·
        exact a_vret Rt dX8_fill_84 (retv_eq (h.trans (congrArg some hR.symm)))
      ·
        refine a_iload C dX8_fill_29 rfl ?_
        refine a_iload_n C dX8_fill_31 (i := 3) rfl rfl ?_
        refine p_ic_gt C (X := y4.toInt) (Y := y3.toInt) rfl rfl dX8_fill_32 (tgt := 84) rfl h (fun h => ?_) (fun h => ?_)
        ·
          exact a_vret Rt dX8_fill_84 (retv_eq (h.trans (congrArg some hR.symm)))
        ·
          refine a_iconst C dX8_fill_35 (v := 1) rfl ?_
          refine a_iload_n C dX8_fill_36 (i := 1) rfl rfl ?_
          refine a_iload C dX8_fill_37 rfl ?_
          refine a_iadd C dX8_fill_39 ?_
          refine a_aload_n C dX8_fill_40 (i := 0) rfl rfl ?_
          refine a_get C fl_RX8_25 (i := 22) kd_22 (hid 22 (by decide)) (v := .int (σ.1 22 3)) rfl dX8_fill_41 ?_
          refine p_irem C rfl dX8_fill_44 h (fun h => ?_)
          refine a_ishl C dX8_fill_45 ?_
          refine p_istore C (fun z1 => [some (.ref (ad 22)), some (.int y1), some (.int y2), some (.int y3), some (.int y4), some (.int z1)]) dX8_fill_46 (by decide) rfl (fun _ => rfl) h (fun z1 h => ?_)
          refine a_iload_n C dX8_fill_48 (i := 2) rfl rfl ?_
          refine a_iload C dX8_fill_49 rfl ?_
          refine a_iand C dX8_fill_51 ?_
          refine p_if_ne C (X := (y2 &&& z1).toInt) rfl dX8_fill_52 (tgt := 78) rfl h (fun h => ?_) (fun h => ?_)
          ·
            refine AW.sub (vs' := [some (.ref (ad 22)), some (.int y1), some (.int y2), some (.int y3), some (.int y4), none]) (lsub_of (by simp [lsubB])) ?_
            exact j78 (f_X8_fill_20 fE n) (fun y1 y2 y3 y4 σ h => ih y1 y2 y3 y4 σ h) _ _ _ _ _ h
          ·
            refine a_aload_n C dX8_fill_55 (i := 0) rfl rfl ?_
            refine a_get C fl_RX8_9 (i := 22) kd_22 (hid 22 (by decide)) (v := .ref (ad 23)) rfl dX8_fill_56 ?_
            refine a_iload_n C dX8_fill_59 (i := 1) rfl rfl ?_
            refine a_iload C dX8_fill_60 rfl ?_
            refine p_iast C (i := 23) (show rowOK 23 from ⟨kd_23, by decide⟩) hid (by rw [al_23]; rfl) dX8_fill_62 h (fun σ2 h => ?_)
            refine a_aload_n C dX8_fill_63 (i := 0) rfl rfl ?_
            refine a_iload_n C dX8_fill_64 (i := 1) rfl rfl ?_
            refine a_iconst C dX8_fill_65 (v := 1) rfl ?_
            refine a_iadd C dX8_fill_66 ?_
            refine a_iload_n C dX8_fill_67 (i := 2) rfl rfl ?_
            refine a_iload C dX8_fill_68 rfl ?_
            refine a_ior C dX8_fill_70 ?_
            refine a_iload_n C dX8_fill_71 (i := 3) rfl rfl ?_
            refine a_iload C dX8_fill_72 rfl ?_
            refine a_isub C dX8_fill_74 ?_
            refine p_callVv C (As := [.int (y1 + (1 : Int32)), .int (y2 ||| z1), .int (y3 - y4)]) (i := 22) kd_22 (hid 22 (by decide)) ⟨_, _, rfl⟩ (by decide) h (fun _ e => hE _ _ _ _ _ e) mi_X8_fill ml_RX8_35 rfl rfl (by omega) (by omega) (Nat.le_of_ble_eq_true rfl) dX8_fill_75 (fun σ3 h => ?_)
            refine AW.sub (vs' := [some (.ref (ad 22)), some (.int y1), some (.int y2), some (.int y3), some (.int y4), none]) (lsub_of (by simp [lsubB])) ?_
            exact j78 (f_X8_fill_20 fE n) (fun y1 y2 y3 y4 σ h => ih y1 y2 y3 y4 σ h) _ _ _ _ _ h
  refine a_iload_n C dX8_fill_0 (i := 1) rfl rfl ?_
  refine a_aload_n C dX8_fill_1 (i := 0) rfl rfl ?_
  refine a_get C fl_RX8_25 (i := 22) kd_22 (hid 22 (by decide)) (v := .int (σ.1 22 3)) rfl dX8_fill_2 ?_
  refine p_ic_lt C (X := x1.toInt) (Y := (σ.1 22 3).toInt) rfl rfl dX8_fill_5 (tgt := 17) rfl h (fun h => ?_) (fun h => ?_)
  ·
    refine a_iconst C dX8_fill_17 (v := 0) rfl ?_
    refine a_istore C dX8_fill_18 (by decide) rfl (vs1 := [some (.ref (ad 22)), some (.int x1), some (.int x2), some (.int x3), some (.int 0), none]) rfl ?_
    exact j20 _ _ _ _ _ _ h
  ·
    refine a_iload_n C dX8_fill_8 (i := 3) rfl rfl ?_
    refine p_if_ne C (X := x3.toInt) rfl dX8_fill_9 (tgt := 16) rfl h (fun h => ?_) (fun h => ?_)
    ·
      exact a_vret Rt dX8_fill_16 (retv_eq (h.trans (congrArg some hR.symm)))
    ·
      refine a_aload_n C dX8_fill_12 (i := 0) rfl rfl ?_
      refine p_callVv C (As := []) (i := 22) kd_22 (hid 22 (by decide)) ⟨_, _, rfl⟩ (by decide) h (fun _ e => Z_X8_finish hid e) mi_X8_finish ml_RX8_39 rfl rfl (by omega) (by omega) (Nat.le_of_ble_eq_true rfl) dX8_fill_13 (fun σ1 h => ?_)
      exact a_vret Rt dX8_fill_16 (retv_eq (h.trans (congrArg some hR.symm)))
theorem Z_X8_fill {l : Launch} {D : va_G} {ids : List Nat} {ad : Nat → Nat} {ca : Nat → ClassId} (hid : ∀ i, i < 277 → i ∈ ids) : ∀ (n : Nat) (x1 x2 x3 : Int32) (σ s0 : HS), f_X8_fill n x1 x2 x3 σ = some s0 → Kv l D ids ad ca yX8_fill cX8_fill 6 (2 * n) (80 * n) [.ref (ad 22), .int x1, .int x2, .int x3] σ (fun σ1 => σ1 = s0) := by
  intro n
  induction n with
  | zero => intro x1 x2 x3 σ s0 h; exact nn h
  | succ n ih => intro x1 x2 x3 σ s0 h; exact Zg_X8_fill hid (f_X8_fill n) ih h
set_option maxHeartbeats 4000000 in
set_option maxRecDepth 100000 in
theorem Z_X8_find {l : Launch} {D : va_G} {ids : List Nat} {ad : Nat → Nat} {ca : Nat → ClassId} {σ : HS} {x1 : Int32} {x2 : Int32} {x3 : Int32} {s0 : HS} (hid : ∀ i, i < 277 → i ∈ ids) (h : f_X8_find x1 x2 x3 σ = some s0) : Kv l D ids ad ca yX8_find cX8_find 4 15 585 [.ref (ad 22), .int x1, .int x2, .int x3] σ (fun σ1 => σ1 = s0) := by
  obtain ⟨R, hR⟩ : ∃ R, s0 = R := ⟨_, rfl⟩
  replace h := h.trans (congrArg some hR)
  refine Kv.of (by decide) (Nat.le_of_ble_eq_true rfl) 0 (fun Γ C Rt => ?_)
  show AW ids ad ca Γ 0 [some (.ref (ad 22)), some (.int x1), some (.int x2), some (.int x3)] [] σ
  unfold f_X8_find at h
  refine a_aload_n C dX8_find_0 (i := 0) rfl rfl ?_
  refine a_iconst C dX8_find_1 (v := 1) rfl ?_
  refine a_iload_n C dX8_find_2 (i := 1) rfl rfl ?_
  refine a_iconst C dX8_find_3 (v := 5) rfl ?_
  refine a_mmin C dX8_find_4 mm_RX8_16 mm_min.1 mm_min.2.1 mm_min.2.2 (Nat.le_of_ble_eq_true rfl) (Nat.le_of_ble_eq_true rfl) ?_
  refine a_mmax C dX8_find_7 mm_RX8_22 mm_max.1 mm_max.2.1 mm_max.2.2 (Nat.le_of_ble_eq_true rfl) (Nat.le_of_ble_eq_true rfl) ?_
  refine p_put C fp_RX8_25 (i := 22) kd_22 (hid 22 (by decide)) rfl rfl dX8_find_10 h (fun σ1 h => ?_)
  refine a_aload_n C dX8_find_13 (i := 0) rfl rfl ?_
  refine a_iload_n C dX8_find_14 (i := 2) rfl rfl ?_
  refine p_put C fp_RX8_29 (i := 22) kd_22 (hid 22 (by decide)) rfl rfl dX8_find_15 h (fun σ2 h => ?_)
  refine a_aload_n C dX8_find_18 (i := 0) rfl rfl ?_
  refine a_iconst C dX8_find_19 (v := 0) rfl ?_
  refine p_put C fp_RX8_32 (i := 22) kd_22 (hid 22 (by decide)) rfl rfl dX8_find_20 h (fun σ3 h => ?_)
  refine a_aload_n C dX8_find_23 (i := 0) rfl rfl ?_
  refine a_iconst C dX8_find_24 (v := 0) rfl ?_
  refine a_iconst C dX8_find_25 (v := 0) rfl ?_
  refine a_aload_n C dX8_find_26 (i := 0) rfl rfl ?_
  refine a_get C fl_RX8_25 (i := 22) kd_22 (hid 22 (by decide)) (v := .int (σ3.1 22 3)) rfl dX8_find_27 ?_
  refine a_iload_n C dX8_find_30 (i := 3) rfl rfl ?_
  refine a_imul C dX8_find_31 ?_
  refine p_callVv C (As := [.int 0, .int 0, .int ((σ3.1 22 3) * x3)]) (i := 22) kd_22 (hid 22 (by decide)) ⟨_, _, rfl⟩ (by decide) h (fun _ e => Z_X8_fill hid 7 _ _ _ _ _ e) mi_X8_fill ml_RX8_35 rfl rfl (Nat.le_of_ble_eq_true rfl) (Nat.le_of_ble_eq_true rfl) (Nat.le_of_ble_eq_true rfl) dX8_find_32 (fun σ4 h => ?_)
  exact a_vret Rt dX8_find_35 (retv_eq (h.trans (congrArg some hR.symm)))
set_option maxHeartbeats 4000000 in
set_option maxRecDepth 100000 in
theorem Z_X9_append {l : Launch} {D : va_G} {ids : List Nat} {ad : Nat → Nat} {ca : Nat → ClassId} {σ : HS} {x1 : Int32} {s0 : HS} (hid : ∀ i, i < 277 → i ∈ ids) (h : f_X9_append x1 σ = some s0) : Kv l D ids ad ca yX9_append cX9_append 3 0 0 [.ref (ad 2), .int x1] σ (fun σ1 => σ1 = s0) := by
  obtain ⟨R, hR⟩ : ∃ R, s0 = R := ⟨_, rfl⟩
  replace h := h.trans (congrArg some hR)
  refine Kv.of (by decide) (Nat.le_of_ble_eq_true rfl) 1 (fun Γ C Rt => ?_)
  show AW ids ad ca Γ 0 [some (.ref (ad 2)), some (.int x1), none] [] σ
  unfold f_X9_append at h
  have j43 : ∀ (k3 : Int32 → Int32 → HS → Option (HS)) (hk3 : ∀ (y1 : Int32) (y2 : Int32) (σ : HS), k3 y1 y2 σ = some R → AW ids ad ca Γ 3 [some (.ref (ad 2)), some (.int y1), some (.int y2)] [] σ) (y1 : Int32) (y2 : Int32) (σ : HS), f_X9_append_43 k3 y1 y2 σ = some R → AW ids ad ca Γ 43 [some (.ref (ad 2)), some (.int y1), some (.int y2)] [] σ := by
    intro k3 hk3 y1 y2 σ h
    unfold f_X9_append_43 at h
    refine p_iinc C (y := (y2 + (-8))) (fun z1 => [some (.ref (ad 2)), some (.int y1), some (.int z1)]) dX9_append_43 rfl rfl (by decide) rfl (fun _ => rfl) h (fun z1 h => ?_)
    refine a_goto C dX9_append_46 (tgt := 3) rfl ?_
    exact hk3 _ _ _ h
  have j3 : ∀ (n : Nat) (y1 : Int32) (y2 : Int32) (σ : HS), f_X9_append_3 n y1 y2 σ = some R → AW ids ad ca Γ 3 [some (.ref (ad 2)), some (.int y1), some (.int y2)] [] σ := by
    intro n
    induction n with
    | zero => intro y1 y2 σ h; exact nn h
    | succ n ih =>
      intro y1 y2 σ h
      have h : b_X9_append_3 (f_X9_append_3 n) y1 y2 σ = some R := h
      unfold b_X9_append_3 at h
      refine a_iload_n C dX9_append_3 (i := 2) rfl rfl ?_
      refine p_if_lt C (X := y2.toInt) rfl dX9_append_4 (tgt := 49) rfl h (fun h => ?_) (fun h => ?_)
      ·
        exact a_vret Rt dX9_append_49 (retv_eq (h.trans (congrArg some hR.symm)))
      ·
        refine a_aload_n C dX9_append_7 (i := 0) rfl rfl ?_
        refine a_get C fl_RX9_25 (i := 2) kd_2 (hid 2 (by decide)) (v := .int (σ.1 2 1)) rfl dX9_append_8 ?_
        refine a_sipush C dX9_append_11 (v := 2000) rfl ?_
        refine p_ic_ge C (X := (σ.1 2 1).toInt) (Y := 2000) rfl (by decide) dX9_append_14 (tgt := 43) rfl h (fun h => ?_) (fun h => ?_)
        ·
          exact j43 (f_X9_append_3 n) (fun y1 y2 σ h => ih y1 y2 σ h) _ _ _ h
        ·
          refine a_aload_n C dX9_append_17 (i := 0) rfl rfl ?_
          refine a_get C fl_RX9_9 (i := 2) kd_2 (hid 2 (by decide)) (v := .ref (ad 3)) rfl dX9_append_18 ?_
          refine a_aload_n C dX9_append_21 (i := 0) rfl rfl ?_
          refine a_get C fl_RX9_25 (i := 2) kd_2 (hid 2 (by decide)) (v := .int (σ.1 2 1)) rfl dX9_append_22 ?_
          refine a_iload_n C dX9_append_25 (i := 1) rfl rfl ?_
          refine a_iload_n C dX9_append_26 (i := 2) rfl rfl ?_
          refine a_iushr C dX9_append_27 ?_
          refine a_sipush C dX9_append_28 (v := 255) rfl ?_
          refine a_iand C dX9_append_31 ?_
          refine p_iast C (i := 3) (show rowOK 3 from ⟨kd_3, by decide⟩) hid (by rw [al_3]; rfl) dX9_append_32 h (fun σ1 h => ?_)
          refine a_aload_n C dX9_append_33 (i := 0) rfl rfl ?_
          refine a_dup C dX9_append_34 rfl ?_
          refine a_get C fl_RX9_25 (i := 2) kd_2 (hid 2 (by decide)) (v := .int (σ1.1 2 1)) rfl dX9_append_35 ?_
          refine a_iconst C dX9_append_38 (v := 1) rfl ?_
          refine a_iadd C dX9_append_39 ?_
          refine p_put C fp_RX9_25 (i := 2) kd_2 (hid 2 (by decide)) rfl rfl dX9_append_40 h (fun σ2 h => ?_)
          exact j43 (f_X9_append_3 n) (fun y1 y2 σ h => ih y1 y2 σ h) _ _ _ h
  refine a_bipush C dX9_append_0 (v := 24) rfl ?_
  refine a_istore_n C dX9_append_2 (i := 2) rfl (by decide) rfl (vs1 := [some (.ref (ad 2)), some (.int x1), some (.int 24)]) rfl ?_
  exact j3 _ _ _ _ h
set_option maxHeartbeats 4000000 in
set_option maxRecDepth 100000 in
theorem Z_X10_hasThing {l : Launch} {D : va_G} {ids : List Nat} {ad : Nat → Nat} {ca : Nat → ClassId} {σ : HS} {t : Nat} {x1 : Int32} {r0 : Int32} {s0 : HS} (hid : ∀ i, i < 277 → i ∈ ids) (ht : txtOK t) (h : f_X10_hasThing t x1 σ = some (r0, s0)) : Ki l D ids ad ca yX10_hasThing cX10_hasThing 2 .boolean 0 0 [.ref (ad t), .int x1] σ (fun r σ1 => r = r0 ∧ σ1 = s0) := by
  obtain ⟨R, hR⟩ : ∃ R, (r0, s0) = R := ⟨_, rfl⟩
  replace h := h.trans (congrArg some hR)
  refine Ki.of (by decide) (Nat.le_of_ble_eq_true rfl) 0 (fun Γ C Rt => ?_)
  show AW ids ad ca Γ 0 [some (.ref (ad t)), some (.int x1)] [] σ
  unfold f_X10_hasThing at h
  refine a_iload_n C dX10_hasThing_0 (i := 1) rfl rfl ?_
  refine p_if_lt C (X := x1.toInt) rfl dX10_hasThing_1 (tgt := 16) rfl h (fun h => ?_) (fun h => ?_)
  ·
    refine a_iconst C dX10_hasThing_16 (v := 0) rfl ?_
    exact a_iret Rt dX10_hasThing_17 (nar_z (by decide)).1 (ret_eq (h.trans (congrArg some hR.symm)))
  ·
    refine a_iload_n C dX10_hasThing_4 (i := 1) rfl rfl ?_
    refine a_aload_n C dX10_hasThing_5 (i := 0) rfl rfl ?_
    refine a_get C fl_RX10_38 (i := t) ht.1.1 (hid _ ht.1.2) (v := .int (σ.1 t 0)) rfl dX10_hasThing_6 ?_
    refine p_ic_ge C (X := x1.toInt) (Y := (σ.1 t 0).toInt) rfl rfl dX10_hasThing_9 (tgt := 16) rfl h (fun h => ?_) (fun h => ?_)
    ·
      refine a_iconst C dX10_hasThing_16 (v := 0) rfl ?_
      exact a_iret Rt dX10_hasThing_17 (nar_z (by decide)).1 (ret_eq (h.trans (congrArg some hR.symm)))
    ·
      refine a_iconst C dX10_hasThing_12 (v := 1) rfl ?_
      refine a_goto C dX10_hasThing_13 (tgt := 17) rfl ?_
      exact a_iret Rt dX10_hasThing_17 (nar_z (by decide)).1 (ret_eq (h.trans (congrArg some hR.symm)))
set_option maxHeartbeats 4000000 in
set_option maxRecDepth 100000 in
theorem Z_X11_feed {l : Launch} {D : va_G} {ids : List Nat} {ad : Nat → Nat} {ca : Nat → ClassId} {σ : HS} {x1 : Int32} {x2 : Int32} {x3 : Int32} {x4 : Int32} {x5 : Int32} {r0 : Int32} {s0 : HS} (hid : ∀ i, i < 277 → i ∈ ids) (h : f_X11_feed x1 x2 x3 x4 x5 σ = some (r0, s0)) : Ki l D ids ad ca yX11_feed cX11_feed 6 .int 1 22 [.ref (ad 0), .int x1, .int x2, .int x3, .int x4, .int x5] σ (fun r σ1 => r = r0 ∧ σ1 = s0) := by
  obtain ⟨R, hR⟩ : ∃ R, (r0, s0) = R := ⟨_, rfl⟩
  replace h := h.trans (congrArg some hR)
  refine Ki.of (by decide) (Nat.le_of_ble_eq_true rfl) 0 (fun Γ C Rt => ?_)
  show AW ids ad ca Γ 0 [some (.ref (ad 0)), some (.int x1), some (.int x2), some (.int x3), some (.int x4), some (.int x5)] [] σ
  unfold f_X11_feed at h
  refine a_aload_n C dX11_feed_0 (i := 0) rfl rfl ?_
  refine a_get C fl_RX11_10 (i := 0) kd_0 (hid 0 (by decide)) (v := .ref (ad 1)) rfl dX11_feed_1 ?_
  refine a_get C fl_RX11_89 (i := 1) kd_1 (hid 1 (by decide)) (v := .ref (ad 2)) rfl dX11_feed_4 ?_
  refine a_get C fl_RX11_93 (i := 2) kd_2 (hid 2 (by decide)) (v := .int (σ.1 2 1)) rfl dX11_feed_7 ?_
  refine a_bipush C dX11_feed_10 (v := 20) rfl ?_
  refine a_iadd C dX11_feed_12 ?_
  refine a_sipush C dX11_feed_13 (v := 2000) rfl ?_
  refine p_ic_le C (X := ((σ.1 2 1) + (20 : Int32)).toInt) (Y := 2000) rfl (by decide) dX11_feed_16 (tgt := 21) rfl h (fun h => ?_) (fun h => ?_)
  ·
    refine a_aload_n C dX11_feed_21 (i := 0) rfl rfl ?_
    refine a_get C fl_RX11_10 (i := 0) kd_0 (hid 0 (by decide)) (v := .ref (ad 1)) rfl dX11_feed_22 ?_
    refine a_get C fl_RX11_89 (i := 1) kd_1 (hid 1 (by decide)) (v := .ref (ad 2)) rfl dX11_feed_25 ?_
    refine a_iload_n C dX11_feed_28 (i := 1) rfl rfl ?_
    refine p_callVv C (As := [.int x1]) (i := 2) kd_2 (hid 2 (by decide)) ⟨_, _, rfl⟩ (by decide) h (fun _ e => Z_X9_append hid e) mi_X9_append ml_RX11_99 rfl rfl (Nat.le_of_ble_eq_true rfl) (Nat.le_of_ble_eq_true rfl) (Nat.le_of_ble_eq_true rfl) dX11_feed_29 (fun σ1 h => ?_)
    refine a_aload_n C dX11_feed_32 (i := 0) rfl rfl ?_
    refine a_get C fl_RX11_10 (i := 0) kd_0 (hid 0 (by decide)) (v := .ref (ad 1)) rfl dX11_feed_33 ?_
    refine a_get C fl_RX11_89 (i := 1) kd_1 (hid 1 (by decide)) (v := .ref (ad 2)) rfl dX11_feed_36 ?_
    refine a_iload_n C dX11_feed_39 (i := 2) rfl rfl ?_
    refine p_callVv C (As := [.int x2]) (i := 2) kd_2 (hid 2 (by decide)) ⟨_, _, rfl⟩ (by decide) h (fun _ e => Z_X9_append hid e) mi_X9_append ml_RX11_99 rfl rfl (Nat.le_of_ble_eq_true rfl) (Nat.le_of_ble_eq_true rfl) (Nat.le_of_ble_eq_true rfl) dX11_feed_40 (fun σ3 h => ?_)
    refine a_aload_n C dX11_feed_43 (i := 0) rfl rfl ?_
    refine a_get C fl_RX11_10 (i := 0) kd_0 (hid 0 (by decide)) (v := .ref (ad 1)) rfl dX11_feed_44 ?_
    refine a_get C fl_RX11_89 (i := 1) kd_1 (hid 1 (by decide)) (v := .ref (ad 2)) rfl dX11_feed_47 ?_
    refine a_iload_n C dX11_feed_50 (i := 3) rfl rfl ?_
    refine p_callVv C (As := [.int x3]) (i := 2) kd_2 (hid 2 (by decide)) ⟨_, _, rfl⟩ (by decide) h (fun _ e => Z_X9_append hid e) mi_X9_append ml_RX11_99 rfl rfl (Nat.le_of_ble_eq_true rfl) (Nat.le_of_ble_eq_true rfl) (Nat.le_of_ble_eq_true rfl) dX11_feed_51 (fun σ5 h => ?_)
    refine a_aload_n C dX11_feed_54 (i := 0) rfl rfl ?_
    refine a_get C fl_RX11_10 (i := 0) kd_0 (hid 0 (by decide)) (v := .ref (ad 1)) rfl dX11_feed_55 ?_
    refine a_get C fl_RX11_89 (i := 1) kd_1 (hid 1 (by decide)) (v := .ref (ad 2)) rfl dX11_feed_58 ?_
    refine a_iload C dX11_feed_61 rfl ?_
    refine p_callVv C (As := [.int x4]) (i := 2) kd_2 (hid 2 (by decide)) ⟨_, _, rfl⟩ (by decide) h (fun _ e => Z_X9_append hid e) mi_X9_append ml_RX11_99 rfl rfl (Nat.le_of_ble_eq_true rfl) (Nat.le_of_ble_eq_true rfl) (Nat.le_of_ble_eq_true rfl) dX11_feed_63 (fun σ7 h => ?_)
    refine a_aload_n C dX11_feed_66 (i := 0) rfl rfl ?_
    refine a_get C fl_RX11_10 (i := 0) kd_0 (hid 0 (by decide)) (v := .ref (ad 1)) rfl dX11_feed_67 ?_
    refine a_get C fl_RX11_89 (i := 1) kd_1 (hid 1 (by decide)) (v := .ref (ad 2)) rfl dX11_feed_70 ?_
    refine a_iload C dX11_feed_73 rfl ?_
    refine p_callVv C (As := [.int x5]) (i := 2) kd_2 (hid 2 (by decide)) ⟨_, _, rfl⟩ (by decide) h (fun _ e => Z_X9_append hid e) mi_X9_append ml_RX11_99 rfl rfl (Nat.le_of_ble_eq_true rfl) (Nat.le_of_ble_eq_true rfl) (Nat.le_of_ble_eq_true rfl) dX11_feed_75 (fun σ9 h => ?_)
    refine a_aload_n C dX11_feed_78 (i := 0) rfl rfl ?_
    refine a_get C fl_RX11_10 (i := 0) kd_0 (hid 0 (by decide)) (v := .ref (ad 1)) rfl dX11_feed_79 ?_
    refine a_get C fl_RX11_89 (i := 1) kd_1 (hid 1 (by decide)) (v := .ref (ad 2)) rfl dX11_feed_82 ?_
    refine a_get C fl_RX11_93 (i := 2) kd_2 (hid 2 (by decide)) (v := .int (σ9.1 2 1)) rfl dX11_feed_85 ?_
    exact a_iret Rt dX11_feed_88 rfl (ret_eq (h.trans (congrArg some hR.symm)))
  ·
    refine a_iconst C dX11_feed_19 (v := (-1)) rfl ?_
    exact a_iret Rt dX11_feed_20 rfl (ret_eq (h.trans (congrArg some hR.symm)))
set_option maxHeartbeats 4000000 in
set_option maxRecDepth 100000 in
theorem Z_X11_back {l : Launch} {D : va_G} {ids : List Nat} {ad : Nat → Nat} {ca : Nat → ClassId} {σ : HS} {x1 : Int32} {r0 : Int32} {s0 : HS} (hid : ∀ i, i < 277 → i ∈ ids) (h : f_X11_back x1 σ = some (r0, s0)) : Ki l D ids ad ca yX11_back cX11_back 2 .int 0 0 [.ref (ad 0), .int x1] σ (fun r σ1 => r = r0 ∧ σ1 = s0) := by
  obtain ⟨R, hR⟩ : ∃ R, (r0, s0) = R := ⟨_, rfl⟩
  replace h := h.trans (congrArg some hR)
  refine Ki.of (by decide) (Nat.le_of_ble_eq_true rfl) 0 (fun Γ C Rt => ?_)
  show AW ids ad ca Γ 0 [some (.ref (ad 0)), some (.int x1)] [] σ
  unfold f_X11_back at h
  refine a_iload_n C dX11_back_0 (i := 1) rfl rfl ?_
  refine p_if_lt C (X := x1.toInt) rfl dX11_back_1 (tgt := 18) rfl h (fun h => ?_) (fun h => ?_)
  ·
    refine a_iconst C dX11_back_18 (v := (-1)) rfl ?_
    exact a_iret Rt dX11_back_19 rfl (ret_eq (h.trans (congrArg some hR.symm)))
  ·
    refine a_iload_n C dX11_back_4 (i := 1) rfl rfl ?_
    refine a_aload_n C dX11_back_5 (i := 0) rfl rfl ?_
    refine a_get C fl_RX11_10 (i := 0) kd_0 (hid 0 (by decide)) (v := .ref (ad 1)) rfl dX11_back_6 ?_
    refine a_get C fl_RX11_89 (i := 1) kd_1 (hid 1 (by decide)) (v := .ref (ad 2)) rfl dX11_back_9 ?_
    refine a_get C fl_RX11_93 (i := 2) kd_2 (hid 2 (by decide)) (v := .int (σ.1 2 1)) rfl dX11_back_12 ?_
    refine p_ic_le C (X := x1.toInt) (Y := (σ.1 2 1).toInt) rfl rfl dX11_back_15 (tgt := 20) rfl h (fun h => ?_) (fun h => ?_)
    ·
      refine a_aload_n C dX11_back_20 (i := 0) rfl rfl ?_
      refine a_get C fl_RX11_10 (i := 0) kd_0 (hid 0 (by decide)) (v := .ref (ad 1)) rfl dX11_back_21 ?_
      refine a_get C fl_RX11_89 (i := 1) kd_1 (hid 1 (by decide)) (v := .ref (ad 2)) rfl dX11_back_24 ?_
      refine a_dup C dX11_back_27 rfl ?_
      refine a_get C fl_RX11_93 (i := 2) kd_2 (hid 2 (by decide)) (v := .int (σ.1 2 1)) rfl dX11_back_28 ?_
      refine a_iload_n C dX11_back_31 (i := 1) rfl rfl ?_
      refine a_isub C dX11_back_32 ?_
      refine p_put C fp_RX11_93 (i := 2) kd_2 (hid 2 (by decide)) rfl rfl dX11_back_33 h (fun σ1 h => ?_)
      refine a_aload_n C dX11_back_36 (i := 0) rfl rfl ?_
      refine a_get C fl_RX11_10 (i := 0) kd_0 (hid 0 (by decide)) (v := .ref (ad 1)) rfl dX11_back_37 ?_
      refine a_get C fl_RX11_89 (i := 1) kd_1 (hid 1 (by decide)) (v := .ref (ad 2)) rfl dX11_back_40 ?_
      refine a_get C fl_RX11_93 (i := 2) kd_2 (hid 2 (by decide)) (v := .int (σ1.1 2 1)) rfl dX11_back_43 ?_
      exact a_iret Rt dX11_back_46 rfl (ret_eq (h.trans (congrArg some hR.symm)))
    ·
      refine a_iconst C dX11_back_18 (v := (-1)) rfl ?_
      exact a_iret Rt dX11_back_19 rfl (ret_eq (h.trans (congrArg some hR.symm)))
set_option maxHeartbeats 4000000 in
set_option maxRecDepth 100000 in
theorem Z_X11_beginAnew {l : Launch} {D : va_G} {ids : List Nat} {ad : Nat → Nat} {ca : Nat → ClassId} {σ : HS} {s0 : HS} (hid : ∀ i, i < 277 → i ∈ ids) (h : f_X11_beginAnew σ = some s0) : Kv l D ids ad ca yX11_beginAnew cX11_beginAnew 3 2 81 [.ref (ad 0)] σ (fun σ1 => σ1 = s0) := by
  obtain ⟨R, hR⟩ : ∃ R, s0 = R := ⟨_, rfl⟩
  replace h := h.trans (congrArg some hR)
  refine Kv.of (by decide) (Nat.le_of_ble_eq_true rfl) 2 (fun Γ C Rt => ?_)
  show AW ids ad ca Γ 0 [some (.ref (ad 0)), none, none] [] σ
  unfold f_X11_beginAnew at h
  have j46 : ∀ (n : Nat) (y2 : Int32) (σ : HS), f_X11_beginAnew_46 n y2 σ = some R → AW ids ad ca Γ 46 [some (.ref (ad 0)), none, some (.int y2)] [] σ := by
    intro n
    induction n with
    | zero => intro y2 σ h; exact nn h
    | succ n ih =>
      intro y2 σ h
      have h : b_X11_beginAnew_46 (f_X11_beginAnew_46 n) y2 σ = some R := h
      unfold b_X11_beginAnew_46 at h
      refine a_iload_n C dX11_beginAnew_46 (i := 2) rfl rfl ?_
      refine a_iconst C dX11_beginAnew_47 (v := 3) rfl ?_
      refine p_ic_ge C (X := y2.toInt) (Y := 3) rfl (by decide) dX11_beginAnew_48 (tgt := 64) rfl h (fun h => ?_) (fun h => ?_)
      ·
        exact a_vret Rt dX11_beginAnew_64 (retv_eq (h.trans (congrArg some hR.symm)))
      ·
        refine a_aload_n C dX11_beginAnew_51 (i := 0) rfl rfl ?_
        refine a_get C fl_RX11_65 (i := 0) kd_0 (hid 0 (by decide)) (v := .ref (ad 26)) rfl dX11_beginAnew_52 ?_
        refine a_iload_n C dX11_beginAnew_55 (i := 2) rfl rfl ?_
        refine a_iconst C dX11_beginAnew_56 (v := 0) rfl ?_
        refine p_zast C (i := 26) kd_26 (hid 26 (by decide)) (by rw [al_26]; rfl) (by decide) dX11_beginAnew_57 h (fun σ1 h => ?_)
        refine p_iinc C (y := (y2 + 1)) (fun z2 => [some (.ref (ad 0)), none, some (.int z2)]) dX11_beginAnew_58 rfl rfl (by decide) rfl (fun _ => rfl) h (fun z2 h => ?_)
        refine a_goto C dX11_beginAnew_61 (tgt := 46) rfl ?_
        exact ih _ _ h
  refine a_aload_n C dX11_beginAnew_0 (i := 0) rfl rfl ?_
  refine p_getT C fl_RX11_86 (tx := (σ.2.2 1)) kd_0 (hid 0 (by decide)) (fun t e => by subst e; rfl) dX11_beginAnew_1 h (fun ht1 h => ?_)
  refine a_astore_n C dX11_beginAnew_4 (i := 1) rfl (by decide) rfl (vs1 := [some (.ref (ad 0)), some (.ref (ad ((σ.2.2 1)))), none]) rfl ?_
  refine a_aload_n C dX11_beginAnew_5 (i := 0) rfl rfl ?_
  refine a_aload_n C dX11_beginAnew_6 (i := 0) rfl rfl ?_
  refine p_getT C fl_RX11_82 (tx := (σ.2.2 0)) kd_0 (hid 0 (by decide)) (fun t e => by subst e; rfl) dX11_beginAnew_7 h (fun ht2 h => ?_)
  refine p_putR C (hid 0 (by decide)) fpr_86 dX11_beginAnew_10 h (fun σ3 h => ?_)
  refine a_aload_n C dX11_beginAnew_13 (i := 0) rfl rfl ?_
  refine a_aload_n C dX11_beginAnew_14 (i := 1) rfl rfl ?_
  refine p_putR C (hid 0 (by decide)) fpr_82 dX11_beginAnew_15 h (fun σ4 h => ?_)
  refine a_aload_n C dX11_beginAnew_18 (i := 0) rfl rfl ?_
  refine a_get C fl_RX11_54 (i := 0) kd_0 (hid 0 (by decide)) (v := .ref (ad 56)) rfl dX11_beginAnew_19 ?_
  refine a_aload_n C dX11_beginAnew_22 (i := 0) rfl rfl ?_
  refine p_getT C fl_RX11_82 (tx := (σ4.2.2 0)) kd_0 (hid 0 (by decide)) (fun t e => by subst e; rfl) dX11_beginAnew_23 h (fun ht5 h => ?_)
  refine p_callVv C (As := [.ref (ad ((σ4.2.2 0)))]) (i := 56) (show airOK 56 from airOK_of 0 (by decide)).1.1 (hid _ (show airOK 56 from airOK_of 0 (by decide)).1.2) ⟨_, _, rfl⟩ (by decide) h (fun _ e => Z_X0_begin hid (show airOK 56 from airOK_of 0 (by decide)) ht5 e) mi_X0_begin ml_RX11_110 rfl rfl (Nat.le_of_ble_eq_true rfl) (Nat.le_of_ble_eq_true rfl) (Nat.le_of_ble_eq_true rfl) dX11_beginAnew_26 (fun σ6 h => ?_)
  refine a_aload_n C dX11_beginAnew_29 (i := 0) rfl rfl ?_
  refine a_get C fl_RX11_26 (i := 0) kd_0 (hid 0 (by decide)) (v := .ref (ad 12)) rfl dX11_beginAnew_30 ?_
  refine p_callVv C (As := []) (i := 12) kd_12 (hid 12 (by decide)) ⟨_, _, rfl⟩ (by decide) h (fun _ e => Z_X5_clear hid e) mi_X5_clear ml_RX11_114 rfl rfl (Nat.le_of_ble_eq_true rfl) (Nat.le_of_ble_eq_true rfl) (Nat.le_of_ble_eq_true rfl) dX11_beginAnew_33 (fun σ8 h => ?_)
  refine a_aload_n C dX11_beginAnew_36 (i := 0) rfl rfl ?_
  refine a_get C fl_RX11_33 (i := 0) kd_0 (hid 0 (by decide)) (v := .ref (ad 14)) rfl dX11_beginAnew_37 ?_
  refine a_iconst C dX11_beginAnew_40 (v := 0) rfl ?_
  refine p_put C fp_RX11_117 (i := 14) kd_14 (hid 14 (by decide)) rfl rfl dX11_beginAnew_41 h (fun σ10 h => ?_)
  refine a_iconst C dX11_beginAnew_44 (v := 0) rfl ?_
  refine a_istore_n C dX11_beginAnew_45 (i := 2) rfl (by decide) rfl (vs1 := [some (.ref (ad 0)), some (.ref (ad ((σ.2.2 1)))), some (.int 0)]) rfl ?_
  refine AW.sub (vs' := [some (.ref (ad 0)), none, some (.int 0)]) (lsub_of (by simp [lsubB])) ?_
  exact j46 _ _ _ h
set_option maxHeartbeats 4000000 in
set_option maxRecDepth 100000 in
theorem Z_X11_read {l : Launch} {D : va_G} {ids : List Nat} {ad : Nat → Nat} {ca : Nat → ClassId} {K : (Nat → Nat) × (Nat → Nat)} {σ : HS} {r0 : Int32} {s0 : HS} (hid : ∀ i, i < 277 → i ∈ ids) (h : f_X11_read σ = some (r0, s0)) : KiS l D ids ad ca K yX11_read cX11_read 2 .int 37 835 [.ref (ad 0)] σ (fun r σ1 => r = r0 ∧ σ1 = s0) := by
  obtain ⟨R, hR⟩ : ∃ R, (r0, s0) = R := ⟨_, rfl⟩
  replace h := h.trans (congrArg some hR)
  refine KiS.of (by decide) (Nat.le_of_ble_eq_true rfl) 1 (fun Γ C E Rt => ?_)
  show AW ids ad ca Γ 0 [some (.ref (ad 0)), none] [] σ
  unfold f_X11_read at h
  refine a_aload_n C dX11_read_0 (i := 0) rfl rfl ?_
  refine a_get C fl_RX11_10 (i := 0) kd_0 (hid 0 (by decide)) (v := .ref (ad 1)) rfl dX11_read_1 ?_
  refine a_aload_n C dX11_read_4 (i := 0) rfl rfl ?_
  refine p_getT C fl_RX11_86 (tx := (σ.2.2 1)) kd_0 (hid 0 (by decide)) (fun t e => by subst e; rfl) dX11_read_5 h (fun ht1 h => ?_)
  refine p_cViS C E (As := [.ref (ad ((σ.2.2 1)))]) (i := 1) kd_1 (hid 1 (by decide)) ⟨_, _, rfl⟩ (by decide) h (fun _ _ e => Z_X6_readInto hid ht1 e) mi_X6_readInto ml_RX11_103 rfl rfl (Nat.le_of_ble_eq_true rfl) (Nat.le_of_ble_eq_true rfl) (Nat.le_of_ble_eq_true rfl) dX11_read_8 (fun r3 σ2 h => ?_)
  refine a_istore_n C dX11_read_11 (i := 1) rfl (by decide) rfl (vs1 := [some (.ref (ad 0)), some (.int r3)]) rfl ?_
  refine a_aload_n C dX11_read_12 (i := 0) rfl rfl ?_
  refine a_get C fl_RX11_10 (i := 0) kd_0 (hid 0 (by decide)) (v := .ref (ad 1)) rfl dX11_read_13 ?_
  refine a_get C fl_RX11_89 (i := 1) kd_1 (hid 1 (by decide)) (v := .ref (ad 2)) rfl dX11_read_16 ?_
  refine a_iconst C dX11_read_19 (v := 0) rfl ?_
  refine p_put C fp_RX11_93 (i := 2) kd_2 (hid 2 (by decide)) rfl rfl dX11_read_20 h (fun σ4 h => ?_)
  refine a_iload_n C dX11_read_23 (i := 1) rfl rfl ?_
  refine p_if_ne C (X := r3.toInt) rfl dX11_read_24 (tgt := 31) rfl h (fun h => ?_) (fun h => ?_)
  ·
    refine a_iload_n C dX11_read_31 (i := 1) rfl rfl ?_
    exact a_iret Rt dX11_read_32 rfl (ret_eq (h.trans (congrArg some hR.symm)))
  ·
    refine a_aload_n C dX11_read_27 (i := 0) rfl rfl ?_
    refine p_callVv C (As := []) (i := 0) kd_0 (hid 0 (by decide)) ⟨_, _, rfl⟩ (by decide) h (fun _ e => Z_X11_beginAnew hid e) mi_X11_beginAnew ml_RX11_107 rfl rfl (Nat.le_of_ble_eq_true rfl) (Nat.le_of_ble_eq_true rfl) (Nat.le_of_ble_eq_true rfl) dX11_read_28 (fun σ5 h => ?_)
    refine a_iload_n C dX11_read_31 (i := 1) rfl rfl ?_
    exact a_iret Rt dX11_read_32 rfl (ret_eq (h.trans (congrArg some hR.symm)))
set_option maxHeartbeats 4000000 in
set_option maxRecDepth 100000 in
theorem Z_X11_place {l : Launch} {D : va_G} {ids : List Nat} {ad : Nat → Nat} {ca : Nat → ClassId} {σ : HS} {r0 : Int32} {s0 : HS} (hid : ∀ i, i < 277 → i ∈ ids) (h : f_X11_place σ = some (r0, s0)) : Ki l D ids ad ca yX11_place cX11_place 1 .int 0 0 [.ref (ad 0)] σ (fun r σ1 => r = r0 ∧ σ1 = s0) := by
  obtain ⟨R, hR⟩ : ∃ R, (r0, s0) = R := ⟨_, rfl⟩
  replace h := h.trans (congrArg some hR)
  refine Ki.of (by decide) (Nat.le_of_ble_eq_true rfl) 0 (fun Γ C Rt => ?_)
  show AW ids ad ca Γ 0 [some (.ref (ad 0))] [] σ
  unfold f_X11_place at h
  refine a_aload_n C dX11_place_0 (i := 0) rfl rfl ?_
  refine a_get C fl_RX11_10 (i := 0) kd_0 (hid 0 (by decide)) (v := .ref (ad 1)) rfl dX11_place_1 ?_
  refine a_get C fl_RX11_118 (i := 1) kd_1 (hid 1 (by decide)) (v := .int (σ.1 1 1)) rfl dX11_place_4 ?_
  exact a_iret Rt dX11_place_7 rfl (ret_eq (h.trans (congrArg some hR.symm)))
set_option maxHeartbeats 4000000 in
set_option maxRecDepth 100000 in
theorem Z_X11_thing {l : Launch} {D : va_G} {ids : List Nat} {ad : Nat → Nat} {ca : Nat → ClassId} {σ : HS} {x1 : Int32} {x2 : Int32} {r0 : Int32} {s0 : HS} (hid : ∀ i, i < 277 → i ∈ ids) (h : f_X11_thing x1 x2 σ = some (r0, s0)) : Ki l D ids ad ca yX11_thing cX11_thing 3 .int 1 21 [.ref (ad 0), .int x1, .int x2] σ (fun r σ1 => r = r0 ∧ σ1 = s0) := by
  obtain ⟨R, hR⟩ : ∃ R, (r0, s0) = R := ⟨_, rfl⟩
  replace h := h.trans (congrArg some hR)
  refine Ki.of (by decide) (Nat.le_of_ble_eq_true rfl) 0 (fun Γ C Rt => ?_)
  show AW ids ad ca Γ 0 [some (.ref (ad 0)), some (.int x1), some (.int x2)] [] σ
  unfold f_X11_thing at h
  refine a_aload_n C dX11_thing_0 (i := 0) rfl rfl ?_
  refine p_getT C fl_RX11_82 (tx := (σ.2.2 0)) kd_0 (hid 0 (by decide)) (fun t e => by subst e; rfl) dX11_thing_1 h (fun ht1 h => ?_)
  refine a_iload_n C dX11_thing_4 (i := 1) rfl rfl ?_
  refine p_callVi C (As := [.int x1]) (i := ((σ.2.2 0))) ht1.1.1 (hid _ ht1.1.2) ⟨_, _, rfl⟩ (by decide) h (fun _ _ e => Z_X10_hasThing hid ht1 e) mi_X10_hasThing ml_RX11_121 rfl rfl (Nat.le_of_ble_eq_true rfl) (Nat.le_of_ble_eq_true rfl) (Nat.le_of_ble_eq_true rfl) dX11_thing_5 (fun r3 σ2 h => ?_)
  refine p_if_ne C (X := r3.toInt) rfl dX11_thing_8 (tgt := 13) rfl h (fun h => ?_) (fun h => ?_)
  ·
    refine a_iload_n C dX11_thing_13 (i := 2) rfl rfl ?_
    refine ite_k h (fun c1 h => ?_) (fun c1 h => ?_)
    ·
      refine a_tableIn C dX11_thing_14 (by omega) (by omega) (by rw [c1]; rfl) (tgt := 48) rfl ?_
      refine a_aload_n C dX11_thing_48 (i := 0) rfl rfl ?_
      refine p_getT C fl_RX11_82 (tx := (σ2.2.2 0)) kd_0 (hid 0 (by decide)) (fun t e => by subst e; rfl) dX11_thing_49 h (fun ht4 h => ?_)
      refine a_get C fl_RX11_125 (i := ((σ2.2.2 0))) ht4.1.1 (hid _ ht4.1.2) (v := .ref (ad ((σ2.2.2 0) + 1))) rfl dX11_thing_52 ?_
      refine a_iload_n C dX11_thing_55 (i := 1) rfl rfl ?_
      refine p_iald C (i := ((σ2.2.2 0) + 1)) ht4.2.1.1 hid (by rw [ht4.2.1.2]; rfl) dX11_thing_56 h (fun h => ?_)
      exact a_iret Rt dX11_thing_57 rfl (ret_eq (h.trans (congrArg some hR.symm)))
    ·
      refine ite_k h (fun c2 h => ?_) (fun c2 h => ?_)
      ·
        refine a_tableIn C dX11_thing_14 (by omega) (by omega) (by rw [c2]; rfl) (tgt := 58) rfl ?_
        refine a_aload_n C dX11_thing_58 (i := 0) rfl rfl ?_
        refine p_getT C fl_RX11_82 (tx := (σ2.2.2 0)) kd_0 (hid 0 (by decide)) (fun t e => by subst e; rfl) dX11_thing_59 h (fun ht5 h => ?_)
        refine a_get C fl_RX11_128 (i := ((σ2.2.2 0))) ht5.1.1 (hid _ ht5.1.2) (v := .ref (ad ((σ2.2.2 0) + 2))) rfl dX11_thing_62 ?_
        refine a_iload_n C dX11_thing_65 (i := 1) rfl rfl ?_
        refine p_iald C (i := ((σ2.2.2 0) + 2)) ht5.2.2.1.1 hid (by rw [ht5.2.2.1.2]; rfl) dX11_thing_66 h (fun h => ?_)
        exact a_iret Rt dX11_thing_67 rfl (ret_eq (h.trans (congrArg some hR.symm)))
      ·
        refine ite_k h (fun c3 h => ?_) (fun c3 h => ?_)
        ·
          refine a_tableIn C dX11_thing_14 (by omega) (by omega) (by rw [c3]; rfl) (tgt := 68) rfl ?_
          refine a_aload_n C dX11_thing_68 (i := 0) rfl rfl ?_
          refine a_get C fl_RX11_54 (i := 0) kd_0 (hid 0 (by decide)) (v := .ref (ad 56)) rfl dX11_thing_69 ?_
          refine a_get C fl_RX11_131 (i := 56) (show airOK 56 from airOK_of 0 (by decide)).1.1 (hid _ (show airOK 56 from airOK_of 0 (by decide)).1.2) (v := .ref (ad 57)) rfl dX11_thing_72 ?_
          refine a_iload_n C dX11_thing_75 (i := 1) rfl rfl ?_
          refine p_iald C (i := 57) (show rowOK 57 from ⟨kd_57, by decide⟩) hid (by rw [al_57]; rfl) dX11_thing_76 h (fun h => ?_)
          exact a_iret Rt dX11_thing_77 rfl (ret_eq (h.trans (congrArg some hR.symm)))
        ·
          refine ite_k h (fun c4 h => ?_) (fun c4 h => ?_)
          ·
            refine a_tableIn C dX11_thing_14 (by omega) (by omega) (by rw [c4]; rfl) (tgt := 78) rfl ?_
            refine a_aload_n C dX11_thing_78 (i := 0) rfl rfl ?_
            refine a_get C fl_RX11_54 (i := 0) kd_0 (hid 0 (by decide)) (v := .ref (ad 56)) rfl dX11_thing_79 ?_
            refine a_iload_n C dX11_thing_82 (i := 1) rfl rfl ?_
            refine p_callVi C (As := [.int x1]) (i := 56) (show airOK 56 from airOK_of 0 (by decide)).1.1 (hid _ (show airOK 56 from airOK_of 0 (by decide)).1.2) ⟨_, _, rfl⟩ (by decide) h (fun _ _ e => Z_X0_isUp hid (show airOK 56 from airOK_of 0 (by decide)) e) mi_X0_isUp ml_RX11_134 rfl rfl (Nat.le_of_ble_eq_true rfl) (Nat.le_of_ble_eq_true rfl) (Nat.le_of_ble_eq_true rfl) dX11_thing_83 (fun r7 σ6 h => ?_)
            refine p_if_eq C (X := r7.toInt) rfl dX11_thing_86 (tgt := 101) rfl h (fun h => ?_) (fun h => ?_)
            ·
              refine a_bipush C dX11_thing_101 (v := (-2)) rfl ?_
              exact a_iret Rt dX11_thing_103 rfl (ret_eq (h.trans (congrArg some hR.symm)))
            ·
              refine a_aload_n C dX11_thing_89 (i := 0) rfl rfl ?_
              refine a_get C fl_RX11_54 (i := 0) kd_0 (hid 0 (by decide)) (v := .ref (ad 56)) rfl dX11_thing_90 ?_
              refine a_get C fl_RX11_137 (i := 56) (show airOK 56 from airOK_of 0 (by decide)).1.1 (hid _ (show airOK 56 from airOK_of 0 (by decide)).1.2) (v := .ref (ad 58)) rfl dX11_thing_93 ?_
              refine a_iload_n C dX11_thing_96 (i := 1) rfl rfl ?_
              refine p_iald C (i := 58) (show rowOK 58 from ⟨kd_58, by decide⟩) hid (by rw [al_58]; rfl) dX11_thing_97 h (fun h => ?_)
              refine a_goto C dX11_thing_98 (tgt := 103) rfl ?_
              exact a_iret Rt dX11_thing_103 rfl (ret_eq (h.trans (congrArg some hR.symm)))
          ·
            refine ite_k h (fun c5 h => ?_) (fun c5 h => ?_)
            ·
              refine a_tableIn C dX11_thing_14 (by omega) (by omega) (by rw [c5]; rfl) (tgt := 104) rfl ?_
              refine a_aload_n C dX11_thing_104 (i := 0) rfl rfl ?_
              refine a_get C fl_RX11_54 (i := 0) kd_0 (hid 0 (by decide)) (v := .ref (ad 56)) rfl dX11_thing_105 ?_
              refine a_get C fl_RX11_140 (i := 56) (show airOK 56 from airOK_of 0 (by decide)).1.1 (hid _ (show airOK 56 from airOK_of 0 (by decide)).1.2) (v := .ref (ad 59)) rfl dX11_thing_108 ?_
              refine a_iload_n C dX11_thing_111 (i := 1) rfl rfl ?_
              refine p_iald C (i := 59) (show rowOK 59 from ⟨kd_59, by decide⟩) hid (by rw [al_59]; rfl) dX11_thing_112 h (fun h => ?_)
              exact a_iret Rt dX11_thing_113 rfl (ret_eq (h.trans (congrArg some hR.symm)))
            ·
              refine a_tableOut C dX11_thing_14 (by omega) (tgt := 114) rfl ?_
              refine a_iconst C dX11_thing_114 (v := (-1)) rfl ?_
              exact a_iret Rt dX11_thing_115 rfl (ret_eq (h.trans (congrArg some hR.symm)))
  ·
    refine a_iconst C dX11_thing_11 (v := (-1)) rfl ?_
    exact a_iret Rt dX11_thing_12 rfl (ret_eq (h.trans (congrArg some hR.symm)))
set_option maxHeartbeats 4000000 in
set_option maxRecDepth 100000 in
theorem Z_X11_pattern {l : Launch} {D : va_G} {ids : List Nat} {ad : Nat → Nat} {ca : Nat → ClassId} {σ : HS} {x1 : Int32} {x2 : Int32} {r0 : Int32} {s0 : HS} (hid : ∀ i, i < 277 → i ∈ ids) (h : f_X11_pattern x1 x2 σ = some (r0, s0)) : Ki l D ids ad ca yX11_pattern cX11_pattern 3 .int 1 21 [.ref (ad 0), .int x1, .int x2] σ (fun r σ1 => r = r0 ∧ σ1 = s0) := by
  obtain ⟨R, hR⟩ : ∃ R, (r0, s0) = R := ⟨_, rfl⟩
  replace h := h.trans (congrArg some hR)
  refine Ki.of (by decide) (Nat.le_of_ble_eq_true rfl) 0 (fun Γ C Rt => ?_)
  show AW ids ad ca Γ 0 [some (.ref (ad 0)), some (.int x1), some (.int x2)] [] σ
  unfold f_X11_pattern at h
  refine a_aload_n C dX11_pattern_0 (i := 0) rfl rfl ?_
  refine p_getT C fl_RX11_82 (tx := (σ.2.2 0)) kd_0 (hid 0 (by decide)) (fun t e => by subst e; rfl) dX11_pattern_1 h (fun ht1 h => ?_)
  refine a_iload_n C dX11_pattern_4 (i := 1) rfl rfl ?_
  refine p_callVi C (As := [.int x1]) (i := ((σ.2.2 0))) ht1.1.1 (hid _ ht1.1.2) ⟨_, _, rfl⟩ (by decide) h (fun _ _ e => Z_X10_hasPattern hid ht1 e) mi_X10_hasPattern ml_RX11_143 rfl rfl (Nat.le_of_ble_eq_true rfl) (Nat.le_of_ble_eq_true rfl) (Nat.le_of_ble_eq_true rfl) dX11_pattern_5 (fun r3 σ2 h => ?_)
  refine p_if_ne C (X := r3.toInt) rfl dX11_pattern_8 (tgt := 13) rfl h (fun h => ?_) (fun h => ?_)
  ·
    refine a_iload_n C dX11_pattern_13 (i := 2) rfl rfl ?_
    refine a_iconst C dX11_pattern_14 (v := (-1)) rfl ?_
    refine p_ic_ne C (X := x2.toInt) (Y := (-1)) rfl (by decide) dX11_pattern_15 (tgt := 28) rfl h (fun h => ?_) (fun h => ?_)
    ·
      refine a_iload_n C dX11_pattern_28 (i := 2) rfl rfl ?_
      refine p_if_lt C (X := x2.toInt) rfl dX11_pattern_29 (tgt := 59) rfl h (fun h => ?_) (fun h => ?_)
      ·
        refine a_iconst C dX11_pattern_59 (v := (-1)) rfl ?_
        exact a_iret Rt dX11_pattern_60 rfl (ret_eq (h.trans (congrArg some hR.symm)))
      ·
        refine a_iload_n C dX11_pattern_32 (i := 2) rfl rfl ?_
        refine a_aload_n C dX11_pattern_33 (i := 0) rfl rfl ?_
        refine p_getT C fl_RX11_82 (tx := (σ2.2.2 0)) kd_0 (hid 0 (by decide)) (fun t e => by subst e; rfl) dX11_pattern_34 h (fun ht4 h => ?_)
        refine a_get C fl_RX11_146 (i := ((σ2.2.2 0))) ht4.1.1 (hid _ ht4.1.2) (v := .ref (ad ((σ2.2.2 0) + 10))) rfl dX11_pattern_37 ?_
        refine a_iload_n C dX11_pattern_40 (i := 1) rfl rfl ?_
        refine p_iald C (i := ((σ2.2.2 0) + 10)) ht4.2.2.2.2.1.1 hid (by rw [ht4.2.2.2.2.1.2]; rfl) dX11_pattern_41 h (fun h => ?_)
        refine p_ic_ge C (X := x2.toInt) (Y := (σ2.1 ((σ2.2.2 0) + 10) x1.toInt.toNat).toInt) rfl rfl dX11_pattern_42 (tgt := 59) rfl h (fun h => ?_) (fun h => ?_)
        ·
          refine a_iconst C dX11_pattern_59 (v := (-1)) rfl ?_
          exact a_iret Rt dX11_pattern_60 rfl (ret_eq (h.trans (congrArg some hR.symm)))
        ·
          refine a_aload_n C dX11_pattern_45 (i := 0) rfl rfl ?_
          refine p_getT C fl_RX11_82 (tx := (σ2.2.2 0)) kd_0 (hid 0 (by decide)) (fun t e => by subst e; rfl) dX11_pattern_46 h (fun ht5 h => ?_)
          refine a_get C fl_RX11_149 (i := ((σ2.2.2 0))) ht5.1.1 (hid _ ht5.1.2) (v := .ref (ad ((σ2.2.2 0) + 4))) rfl dX11_pattern_49 ?_
          refine a_iload_n C dX11_pattern_52 (i := 1) rfl rfl ?_
          refine p_aaldH C (t := ((σ2.2.2 0))) ht5 hid dX11_pattern_53 h (fun hr6 h => ?_)
          refine a_iload_n C dX11_pattern_54 (i := 2) rfl rfl ?_
          refine p_iald C (i := ((σ2.2.2 0) + 5 + x1.toInt.toNat)) hr6.1 hid (by rw [hr6.2]; rfl) dX11_pattern_55 h (fun h => ?_)
          refine a_goto C dX11_pattern_56 (tgt := 60) rfl ?_
          exact a_iret Rt dX11_pattern_60 rfl (ret_eq (h.trans (congrArg some hR.symm)))
    ·
      refine a_aload_n C dX11_pattern_18 (i := 0) rfl rfl ?_
      refine p_getT C fl_RX11_82 (tx := (σ2.2.2 0)) kd_0 (hid 0 (by decide)) (fun t e => by subst e; rfl) dX11_pattern_19 h (fun ht7 h => ?_)
      refine a_get C fl_RX11_146 (i := ((σ2.2.2 0))) ht7.1.1 (hid _ ht7.1.2) (v := .ref (ad ((σ2.2.2 0) + 10))) rfl dX11_pattern_22 ?_
      refine a_iload_n C dX11_pattern_25 (i := 1) rfl rfl ?_
      refine p_iald C (i := ((σ2.2.2 0) + 10)) ht7.2.2.2.2.1.1 hid (by rw [ht7.2.2.2.2.1.2]; rfl) dX11_pattern_26 h (fun h => ?_)
      exact a_iret Rt dX11_pattern_27 rfl (ret_eq (h.trans (congrArg some hR.symm)))
  ·
    refine a_iconst C dX11_pattern_11 (v := (-1)) rfl ?_
    exact a_iret Rt dX11_pattern_12 rfl (ret_eq (h.trans (congrArg some hR.symm)))
set_option maxHeartbeats 4000000 in
set_option maxRecDepth 100000 in
theorem Z_X11_tells {l : Launch} {D : va_G} {ids : List Nat} {ad : Nat → Nat} {ca : Nat → ClassId} {σ : HS} {x1 : Int32} {x2 : Int32} {x3 : Int32} {r0 : Int32} {s0 : HS} (hid : ∀ i, i < 277 → i ∈ ids) (h : f_X11_tells x1 x2 x3 σ = some (r0, s0)) : Ki l D ids ad ca yX11_tells cX11_tells 5 .int 3 74 [.ref (ad 0), .int x1, .int x2, .int x3] σ (fun r σ1 => r = r0 ∧ σ1 = s0) := by
  obtain ⟨R, hR⟩ : ∃ R, (r0, s0) = R := ⟨_, rfl⟩
  replace h := h.trans (congrArg some hR)
  refine Ki.of (by decide) (Nat.le_of_ble_eq_true rfl) 1 (fun Γ C Rt => ?_)
  show AW ids ad ca Γ 0 [some (.ref (ad 0)), some (.int x1), some (.int x2), some (.int x3), none] [] σ
  unfold f_X11_tells at h
  have j96 : ∀ (v0 : Int32) (v1 : Int32) (w2 : Nat) (σ : HS) (hw2 : txtOK w2), f_X11_tells_96 v0 v1 w2 σ = some R → AW ids ad ca Γ 96 [none, none, none, none, none] [.int v0, .int v1, .ref (ad w2), .ref (ad 8)] σ := by
    intro v0 v1 w2 σ hw2 h
    unfold f_X11_tells_96 at h
    refine p_callVi C (As := [.ref (ad w2), .int v1, .int v0]) (i := 8) kd_8 (hid 8 (by decide)) ⟨_, _, rfl⟩ (by decide) h (fun _ _ e => Z_X4_asks hid hw2 e) mi_X4_asks ml_RX11_164 rfl rfl (Nat.le_of_ble_eq_true rfl) (Nat.le_of_ble_eq_true rfl) (Nat.le_of_ble_eq_true rfl) dX11_tells_96 (fun r2 σ1 h => ?_)
    exact a_iret Rt dX11_tells_99 rfl (ret_eq (h.trans (congrArg some hR.symm)))
  have j54 : ∀ (y1 : Int32) (y2 : Int32) (y3 : Int32) (y4 : Int32) (σ : HS), f_X11_tells_54 y1 y2 y3 y4 σ = some R → AW ids ad ca Γ 54 [some (.ref (ad 0)), some (.int y1), some (.int y2), some (.int y3), some (.int y4)] [] σ := by
    intro y1 y2 y3 y4 σ h
    unfold f_X11_tells_54 at h
    refine a_aload_n C dX11_tells_54 (i := 0) rfl rfl ?_
    refine a_get C fl_RX11_19 (i := 0) kd_0 (hid 0 (by decide)) (v := .ref (ad 8)) rfl dX11_tells_55 ?_
    refine a_aload_n C dX11_tells_58 (i := 0) rfl rfl ?_
    refine p_getT C fl_RX11_82 (tx := (σ.2.2 0)) kd_0 (hid 0 (by decide)) (fun t e => by subst e; rfl) dX11_tells_59 h (fun ht1 h => ?_)
    refine a_aload_n C dX11_tells_62 (i := 0) rfl rfl ?_
    refine a_get C fl_RX11_54 (i := 0) kd_0 (hid 0 (by decide)) (v := .ref (ad 56)) rfl dX11_tells_63 ?_
    refine a_iload_n C dX11_tells_66 (i := 1) rfl rfl ?_
    refine a_aload_n C dX11_tells_67 (i := 0) rfl rfl ?_
    refine a_get C fl_RX11_54 (i := 0) kd_0 (hid 0 (by decide)) (v := .ref (ad 56)) rfl dX11_tells_68 ?_
    refine p_callVi C (As := []) (i := 56) (show airOK 56 from airOK_of 0 (by decide)).1.1 (hid _ (show airOK 56 from airOK_of 0 (by decide)).1.2) ⟨_, _, rfl⟩ (by decide) h (fun _ _ e => Z_X0_howManyUp hid (show airOK 56 from airOK_of 0 (by decide)) e) mi_X0_howManyUp ml_RX11_156 rfl rfl (Nat.le_of_ble_eq_true rfl) (Nat.le_of_ble_eq_true rfl) (Nat.le_of_ble_eq_true rfl) dX11_tells_71 (fun r3 σ2 h => ?_)
    refine p_callVv C (As := [.ref (ad ((σ.2.2 0))), .ref (ad 56), .int y1, .int r3]) (i := 8) kd_8 (hid 8 (by decide)) ⟨_, _, rfl⟩ (by decide) h (fun _ e => Z_X4_lookAt hid ht1 (show airOK 56 from airOK_of 0 (by decide)) e) mi_X4_lookAt ml_RX11_160 rfl rfl (Nat.le_of_ble_eq_true rfl) (Nat.le_of_ble_eq_true rfl) (Nat.le_of_ble_eq_true rfl) dX11_tells_74 (fun σ4 h => ?_)
    refine a_aload_n C dX11_tells_77 (i := 0) rfl rfl ?_
    refine a_get C fl_RX11_19 (i := 0) kd_0 (hid 0 (by decide)) (v := .ref (ad 8)) rfl dX11_tells_78 ?_
    refine a_aload_n C dX11_tells_81 (i := 0) rfl rfl ?_
    refine p_getT C fl_RX11_82 (tx := (σ4.2.2 0)) kd_0 (hid 0 (by decide)) (fun t e => by subst e; rfl) dX11_tells_82 h (fun ht6 h => ?_)
    refine a_iload_n C dX11_tells_85 (i := 3) rfl rfl ?_
    refine a_iload C dX11_tells_86 rfl ?_
    refine p_if_eq C (X := y4.toInt) rfl dX11_tells_88 (tgt := 95) rfl h (fun h => ?_) (fun h => ?_)
    ·
      refine a_iconst C dX11_tells_95 (v := 0) rfl ?_
      refine AW.sub (vs' := [none, none, none, none, none]) (lsub_of (by simp [lsubB])) ?_
      exact j96 _ _ _ _ ht6 h
    ·
      refine a_iload_n C dX11_tells_91 (i := 2) rfl rfl ?_
      refine a_goto C dX11_tells_92 (tgt := 96) rfl ?_
      refine AW.sub (vs' := [none, none, none, none, none]) (lsub_of (by simp [lsubB])) ?_
      exact j96 _ _ _ _ ht6 h
  have j37 : ∀ (y1 : Int32) (y2 : Int32) (y3 : Int32) (v0 : Int32) (σ : HS), f_X11_tells_37 y1 y2 y3 v0 σ = some R → AW ids ad ca Γ 37 [some (.ref (ad 0)), some (.int y1), some (.int y2), some (.int y3), none] [.int v0] σ := by
    intro y1 y2 y3 v0 σ h
    unfold f_X11_tells_37 at h
    refine a_istore C dX11_tells_37 (by decide) rfl (vs1 := [some (.ref (ad 0)), some (.int y1), some (.int y2), some (.int y3), some (.int v0)]) rfl ?_
    refine a_iload C dX11_tells_39 rfl ?_
    refine p_if_eq C (X := v0.toInt) rfl dX11_tells_41 (tgt := 54) rfl h (fun h => ?_) (fun h => ?_)
    ·
      exact j54 _ _ _ _ _ h
    ·
      refine a_iload_n C dX11_tells_44 (i := 2) rfl rfl ?_
      refine p_callSi C (As := [.int y2]) h (fun _ _ e => Z_X11_isHeight hid e) ms_X11_isHeight ml_RX11_153 rfl rfl (Nat.le_of_ble_eq_true rfl) (Nat.le_of_ble_eq_true rfl) (Nat.le_of_ble_eq_true rfl) dX11_tells_45 (fun r2 σ1 h => ?_)
      refine p_if_ne C (X := r2.toInt) rfl dX11_tells_48 (tgt := 54) rfl h (fun h => ?_) (fun h => ?_)
      ·
        exact j54 _ _ _ _ _ h
      ·
        refine a_bipush C dX11_tells_51 (v := (-100)) rfl ?_
        exact a_iret Rt dX11_tells_53 rfl (ret_eq (h.trans (congrArg some hR.symm)))
  have j32 : ∀ (y1 : Int32) (y2 : Int32) (y3 : Int32) (σ : HS), f_X11_tells_32 y1 y2 y3 σ = some R → AW ids ad ca Γ 32 [some (.ref (ad 0)), some (.int y1), some (.int y2), some (.int y3), none] [] σ := by
    intro y1 y2 y3 σ h
    unfold f_X11_tells_32 at h
    refine a_iconst C dX11_tells_32 (v := 1) rfl ?_
    refine a_goto C dX11_tells_33 (tgt := 37) rfl ?_
    exact j37 _ _ _ _ _ h
  refine a_aload_n C dX11_tells_0 (i := 0) rfl rfl ?_
  refine p_getT C fl_RX11_82 (tx := (σ.2.2 0)) kd_0 (hid 0 (by decide)) (fun t e => by subst e; rfl) dX11_tells_1 h (fun ht1 h => ?_)
  refine a_iload_n C dX11_tells_4 (i := 1) rfl rfl ?_
  refine p_callVi C (As := [.int x1]) (i := ((σ.2.2 0))) ht1.1.1 (hid _ ht1.1.2) ⟨_, _, rfl⟩ (by decide) h (fun _ _ e => Z_X10_hasThing hid ht1 e) mi_X10_hasThing ml_RX11_121 rfl rfl (Nat.le_of_ble_eq_true rfl) (Nat.le_of_ble_eq_true rfl) (Nat.le_of_ble_eq_true rfl) dX11_tells_5 (fun r3 σ2 h => ?_)
  refine p_if_eq C (X := r3.toInt) rfl dX11_tells_8 (tgt := 20) rfl h (fun h => ?_) (fun h => ?_)
  ·
    refine a_bipush C dX11_tells_20 (v := (-100)) rfl ?_
    exact a_iret Rt dX11_tells_22 rfl (ret_eq (h.trans (congrArg some hR.symm)))
  ·
    refine a_iload_n C dX11_tells_11 (i := 3) rfl rfl ?_
    refine p_if_lt C (X := x3.toInt) rfl dX11_tells_12 (tgt := 20) rfl h (fun h => ?_) (fun h => ?_)
    ·
      refine a_bipush C dX11_tells_20 (v := (-100)) rfl ?_
      exact a_iret Rt dX11_tells_22 rfl (ret_eq (h.trans (congrArg some hR.symm)))
    ·
      refine a_iload_n C dX11_tells_15 (i := 3) rfl rfl ?_
      refine a_iconst C dX11_tells_16 (v := 3) rfl ?_
      refine p_ic_le C (X := x3.toInt) (Y := 3) rfl (by decide) dX11_tells_17 (tgt := 23) rfl h (fun h => ?_) (fun h => ?_)
      ·
        refine a_iload_n C dX11_tells_23 (i := 3) rfl rfl ?_
        refine p_if_eq C (X := x3.toInt) rfl dX11_tells_24 (tgt := 32) rfl h (fun h => ?_) (fun h => ?_)
        ·
          exact j32 _ _ _ _ h
        ·
          refine a_iload_n C dX11_tells_27 (i := 3) rfl rfl ?_
          refine a_iconst C dX11_tells_28 (v := 1) rfl ?_
          refine p_ic_ne C (X := x3.toInt) (Y := 1) rfl (by decide) dX11_tells_29 (tgt := 36) rfl h (fun h => ?_) (fun h => ?_)
          ·
            refine a_iconst C dX11_tells_36 (v := 0) rfl ?_
            exact j37 _ _ _ _ _ h
          ·
            exact j32 _ _ _ _ h
      ·
        refine a_bipush C dX11_tells_20 (v := (-100)) rfl ?_
        exact a_iret Rt dX11_tells_22 rfl (ret_eq (h.trans (congrArg some hR.symm)))
set_option maxHeartbeats 4000000 in
set_option maxRecDepth 100000 in
theorem Z_X11_slotsHeld {l : Launch} {D : va_G} {ids : List Nat} {ad : Nat → Nat} {ca : Nat → ClassId} {σ : HS} {r0 : Int32} {s0 : HS} (hid : ∀ i, i < 277 → i ∈ ids) (h : f_X11_slotsHeld σ = some (r0, s0)) : Ki l D ids ad ca yX11_slotsHeld cX11_slotsHeld 3 .int 0 0 [.ref (ad 0)] σ (fun r σ1 => r = r0 ∧ σ1 = s0) := by
  obtain ⟨R, hR⟩ : ∃ R, (r0, s0) = R := ⟨_, rfl⟩
  replace h := h.trans (congrArg some hR)
  refine Ki.of (by decide) (Nat.le_of_ble_eq_true rfl) 2 (fun Γ C Rt => ?_)
  show AW ids ad ca Γ 0 [some (.ref (ad 0)), none, none] [] σ
  unfold f_X11_slotsHeld at h
  have j21 : ∀ (k4 : Int32 → Int32 → HS → Option (Int32 × HS)) (hk4 : ∀ (y1 : Int32) (y2 : Int32) (σ : HS), k4 y1 y2 σ = some R → AW ids ad ca Γ 4 [some (.ref (ad 0)), some (.int y1), some (.int y2)] [] σ) (y1 : Int32) (y2 : Int32) (σ : HS), f_X11_slotsHeld_21 k4 y1 y2 σ = some R → AW ids ad ca Γ 21 [some (.ref (ad 0)), some (.int y1), some (.int y2)] [] σ := by
    intro k4 hk4 y1 y2 σ h
    unfold f_X11_slotsHeld_21 at h
    refine p_iinc C (y := (y2 + 1)) (fun z1 => [some (.ref (ad 0)), some (.int y1), some (.int z1)]) dX11_slotsHeld_21 rfl rfl (by decide) rfl (fun _ => rfl) h (fun z1 h => ?_)
    refine a_goto C dX11_slotsHeld_24 (tgt := 4) rfl ?_
    exact hk4 _ _ _ h
  have j4 : ∀ (n : Nat) (y1 : Int32) (y2 : Int32) (σ : HS), f_X11_slotsHeld_4 n y1 y2 σ = some R → AW ids ad ca Γ 4 [some (.ref (ad 0)), some (.int y1), some (.int y2)] [] σ := by
    intro n
    induction n with
    | zero => intro y1 y2 σ h; exact nn h
    | succ n ih =>
      intro y1 y2 σ h
      have h : b_X11_slotsHeld_4 (f_X11_slotsHeld_4 n) y1 y2 σ = some R := h
      unfold b_X11_slotsHeld_4 at h
      refine a_iload_n C dX11_slotsHeld_4 (i := 2) rfl rfl ?_
      refine a_iconst C dX11_slotsHeld_5 (v := 3) rfl ?_
      refine p_ic_ge C (X := y2.toInt) (Y := 3) rfl (by decide) dX11_slotsHeld_6 (tgt := 27) rfl h (fun h => ?_) (fun h => ?_)
      ·
        refine a_iload_n C dX11_slotsHeld_27 (i := 1) rfl rfl ?_
        exact a_iret Rt dX11_slotsHeld_28 rfl (ret_eq (h.trans (congrArg some hR.symm)))
      ·
        refine a_aload_n C dX11_slotsHeld_9 (i := 0) rfl rfl ?_
        refine a_get C fl_RX11_65 (i := 0) kd_0 (hid 0 (by decide)) (v := .ref (ad 26)) rfl dX11_slotsHeld_10 ?_
        refine a_iload_n C dX11_slotsHeld_13 (i := 2) rfl rfl ?_
        refine p_zald C (i := 26) kd_26 (hid 26 (by decide)) (by rw [al_26]; rfl) dX11_slotsHeld_14 h (fun h => ?_)
        refine p_if_eq C (X := (σ.1 26 y2.toInt.toNat).toInt) rfl dX11_slotsHeld_15 (tgt := 21) rfl h (fun h => ?_) (fun h => ?_)
        ·
          exact j21 (f_X11_slotsHeld_4 n) (fun y1 y2 σ h => ih y1 y2 σ h) _ _ _ h
        ·
          refine p_iinc C (y := (y1 + 1)) (fun z1 => [some (.ref (ad 0)), some (.int z1), some (.int y2)]) dX11_slotsHeld_18 rfl rfl (by decide) rfl (fun _ => rfl) h (fun z1 h => ?_)
          exact j21 (f_X11_slotsHeld_4 n) (fun y1 y2 σ h => ih y1 y2 σ h) _ _ _ h
  refine a_iconst C dX11_slotsHeld_0 (v := 0) rfl ?_
  refine a_istore_n C dX11_slotsHeld_1 (i := 1) rfl (by decide) rfl (vs1 := [some (.ref (ad 0)), some (.int 0), none]) rfl ?_
  refine a_iconst C dX11_slotsHeld_2 (v := 0) rfl ?_
  refine a_istore_n C dX11_slotsHeld_3 (i := 2) rfl (by decide) rfl (vs1 := [some (.ref (ad 0)), some (.int 0), some (.int 0)]) rfl ?_
  exact j4 _ _ _ _ h
set_option maxHeartbeats 4000000 in
set_option maxRecDepth 100000 in
theorem Z_X11_weightsOf {l : Launch} {D : va_G} {ids : List Nat} {ad : Nat → Nat} {ca : Nat → ClassId} {σ : HS} {x1 : Int32} {r0 : Int32} {s0 : HS} (hid : ∀ i, i < 277 → i ∈ ids) (h : f_X11_weightsOf x1 σ = some (r0, s0)) : Ki l D ids ad ca yX11_weightsOf cX11_weightsOf 4 .int 0 0 [.ref (ad 0), .int x1] σ (fun r σ1 => r = r0 ∧ σ1 = s0) := by
  obtain ⟨R, hR⟩ : ∃ R, (r0, s0) = R := ⟨_, rfl⟩
  replace h := h.trans (congrArg some hR)
  refine Ki.of (by decide) (Nat.le_of_ble_eq_true rfl) 2 (fun Γ C Rt => ?_)
  show AW ids ad ca Γ 0 [some (.ref (ad 0)), some (.int x1), none, none] [] σ
  unfold f_X11_weightsOf at h
  have j36 : ∀ (k4 : Int32 → Int32 → Int32 → HS → Option (Int32 × HS)) (hk4 : ∀ (y1 : Int32) (y2 : Int32) (y3 : Int32) (σ : HS), k4 y1 y2 y3 σ = some R → AW ids ad ca Γ 4 [some (.ref (ad 0)), some (.int y1), some (.int y2), some (.int y3)] [] σ) (y1 : Int32) (y2 : Int32) (y3 : Int32) (σ : HS), f_X11_weightsOf_36 k4 y1 y2 y3 σ = some R → AW ids ad ca Γ 36 [some (.ref (ad 0)), some (.int y1), some (.int y2), some (.int y3)] [] σ := by
    intro k4 hk4 y1 y2 y3 σ h
    unfold f_X11_weightsOf_36 at h
    refine p_iinc C (y := (y3 + 1)) (fun z1 => [some (.ref (ad 0)), some (.int y1), some (.int y2), some (.int z1)]) dX11_weightsOf_36 rfl rfl (by decide) rfl (fun _ => rfl) h (fun z1 h => ?_)
    refine a_goto C dX11_weightsOf_39 (tgt := 4) rfl ?_
    exact hk4 _ _ _ _ h
  have j4 : ∀ (n : Nat) (y1 : Int32) (y2 : Int32) (y3 : Int32) (σ : HS), f_X11_weightsOf_4 n y1 y2 y3 σ = some R → AW ids ad ca Γ 4 [some (.ref (ad 0)), some (.int y1), some (.int y2), some (.int y3)] [] σ := by
    intro n
    induction n with
    | zero => intro y1 y2 y3 σ h; exact nn h
    | succ n ih =>
      intro y1 y2 y3 σ h
      have h : b_X11_weightsOf_4 (f_X11_weightsOf_4 n) y1 y2 y3 σ = some R := h
      unfold b_X11_weightsOf_4 at h
      refine a_iload_n C dX11_weightsOf_4 (i := 3) rfl rfl ?_
      refine a_aload_n C dX11_weightsOf_5 (i := 0) rfl rfl ?_
      refine p_getT C fl_RX11_82 (tx := (σ.2.2 0)) kd_0 (hid 0 (by decide)) (fun t e => by subst e; rfl) dX11_weightsOf_6 h (fun ht1 h => ?_)
      refine a_get C fl_RX11_168 (i := ((σ.2.2 0))) ht1.1.1 (hid _ ht1.1.2) (v := .int (σ.1 ((σ.2.2 0)) 0)) rfl dX11_weightsOf_9 ?_
      refine p_ic_ge C (X := y3.toInt) (Y := (σ.1 ((σ.2.2 0)) 0).toInt) rfl rfl dX11_weightsOf_12 (tgt := 42) rfl h (fun h => ?_) (fun h => ?_)
      ·
        refine a_iload_n C dX11_weightsOf_42 (i := 2) rfl rfl ?_
        exact a_iret Rt dX11_weightsOf_43 rfl (ret_eq (h.trans (congrArg some hR.symm)))
      ·
        refine a_iload_n C dX11_weightsOf_15 (i := 1) rfl rfl ?_
        refine a_iload_n C dX11_weightsOf_16 (i := 3) rfl rfl ?_
        refine a_ishr C dX11_weightsOf_17 ?_
        refine a_iconst C dX11_weightsOf_18 (v := 1) rfl ?_
        refine a_iand C dX11_weightsOf_19 ?_
        refine a_iconst C dX11_weightsOf_20 (v := 1) rfl ?_
        refine p_ic_ne C (X := ((y1 >>> (y3 &&& 31)) &&& (1 : Int32)).toInt) (Y := 1) rfl (by decide) dX11_weightsOf_21 (tgt := 36) rfl h (fun h => ?_) (fun h => ?_)
        ·
          exact j36 (f_X11_weightsOf_4 n) (fun y1 y2 y3 σ h => ih y1 y2 y3 σ h) _ _ _ _ h
        ·
          refine a_iload_n C dX11_weightsOf_24 (i := 2) rfl rfl ?_
          refine a_aload_n C dX11_weightsOf_25 (i := 0) rfl rfl ?_
          refine p_getT C fl_RX11_82 (tx := (σ.2.2 0)) kd_0 (hid 0 (by decide)) (fun t e => by subst e; rfl) dX11_weightsOf_26 h (fun ht2 h => ?_)
          refine a_get C fl_RX11_125 (i := ((σ.2.2 0))) ht2.1.1 (hid _ ht2.1.2) (v := .ref (ad ((σ.2.2 0) + 1))) rfl dX11_weightsOf_29 ?_
          refine a_iload_n C dX11_weightsOf_32 (i := 3) rfl rfl ?_
          refine p_iald C (i := ((σ.2.2 0) + 1)) ht2.2.1.1 hid (by rw [ht2.2.1.2]; rfl) dX11_weightsOf_33 h (fun h => ?_)
          refine a_iadd C dX11_weightsOf_34 ?_
          refine p_istore_n C (fun z3 => [some (.ref (ad 0)), some (.int y1), some (.int z3), some (.int y3)]) dX11_weightsOf_35 (i := 2) rfl (by decide) rfl (fun _ => rfl) h (fun z3 h => ?_)
          exact j36 (f_X11_weightsOf_4 n) (fun y1 y2 y3 σ h => ih y1 y2 y3 σ h) _ _ _ _ h
  refine a_iconst C dX11_weightsOf_0 (v := 0) rfl ?_
  refine a_istore_n C dX11_weightsOf_1 (i := 2) rfl (by decide) rfl (vs1 := [some (.ref (ad 0)), some (.int x1), some (.int 0), none]) rfl ?_
  refine a_iconst C dX11_weightsOf_2 (v := 0) rfl ?_
  refine a_istore_n C dX11_weightsOf_3 (i := 3) rfl (by decide) rfl (vs1 := [some (.ref (ad 0)), some (.int x1), some (.int 0), some (.int 0)]) rfl ?_
  exact j4 _ _ _ _ _ h

