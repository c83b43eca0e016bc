set_option maxHeartbeats 4000000 in
set_option maxRecDepth 100000 in
theorem Z_X6_product {l : Launch} {D : va_G} {ids : List Nat} {ad : Nat → Nat} {ca : Nat → ClassId} {σ : HS} {p1 : Nat} {x2 : Int32} {r0 : Int32} {s0 : HS} (hid : ∀ i, i < 277 → i ∈ ids) (fE : Nat → Int32 → HS → Option (Int32 × HS)) {fr0 lo0 : Nat} (hE : ∀ (p1 : Nat) (x2 : Int32) (σ s0 : HS) (r0 : Int32), txtOK p1 → fE p1 x2 σ = some (r0, s0) → Ki l D ids ad ca yX6_expression cX6_expression 6 .boolean fr0 lo0 [.ref (ad 1), .ref (ad p1), .int x2] σ (fun r σ1 => r = r0 ∧ σ1 = s0)) (hp1 : txtOK p1) (h : f_X6_product fE p1 x2 σ = some (r0, s0)) : Ki l D ids ad ca yX6_product cX6_product 6 .boolean (fr0 + 3) (lo0 + 65) [.ref (ad 1), .ref (ad p1), .int x2] σ (fun r σ1 => r = r0 ∧ σ1 = s0) := by
  obtain ⟨R, hR⟩ : ∃ R, (r0, s0) = R := ⟨_, rfl⟩
  replace h := h.trans (congrArg some hR)
  refine Ki.of (by decide) (Nat.le_of_ble_eq_true rfl) 3 (fun Γ C Rt => ?_)
  show AW ids ad ca Γ 0 [some (.ref (ad 1)), some (.ref (ad p1)), some (.int x2), none, none, none] [] σ
  unfold f_X6_product at h
  have j85 : ∀ (k10 : Int32 → Int32 → Int32 → HS → Option (Int32 × HS)) (hk10 : ∀ (y2 : Int32) (y3 : Int32) (y4 : Int32) (σ : HS), k10 y2 y3 y4 σ = some R → AW ids ad ca Γ 10 [some (.ref (ad 1)), some (.ref (ad p1)), some (.int y2), some (.int y3), some (.int y4), none] [] σ) (y2 : Int32) (y3 : Int32) (y4 : Int32) (v0 : Int32) (σ : HS), f_X6_product_85 fE p1 k10 y2 y3 y4 v0 σ = some R → AW ids ad ca Γ 85 [some (.ref (ad 1)), some (.ref (ad p1)), some (.int y2), some (.int y3), some (.int y4), none] [.int v0, .ref (ad p1)] σ := by
    intro k10 hk10 y2 y3 y4 v0 σ h
    unfold f_X6_product_85 at h
    refine p_callVv C (As := [.int v0]) (i := p1) hp1.1.1 (hid _ hp1.1.2) ⟨_, _, rfl⟩ (by decide) h (fun _ e => Z_X10_emit hid hp1 e) mi_X10_emit ml_RX6_138 rfl rfl (by omega) (by omega) (Nat.le_of_ble_eq_true rfl) dX6_product_85 (fun σ1 h => ?_)
    refine p_iinc C (y := (y4 + 1)) (fun z3 => [some (.ref (ad 1)), some (.ref (ad p1)), some (.int y2), some (.int y3), some (.int z3), none]) dX6_product_88 rfl rfl (by decide) rfl (fun _ => rfl) h (fun z3 h => ?_)
    refine a_goto C dX6_product_91 (tgt := 10) rfl ?_
    exact hk10 _ _ _ _ h
  have j69 : ∀ (k10 : Int32 → Int32 → Int32 → HS → Option (Int32 × HS)) (hk10 : ∀ (y2 : Int32) (y3 : Int32) (y4 : Int32) (σ : HS), k10 y2 y3 y4 σ = some R → AW ids ad ca Γ 10 [some (.ref (ad 1)), some (.ref (ad p1)), some (.int y2), some (.int y3), some (.int y4), none] [] σ) (y2 : Int32) (y4 : Int32) (y5 : Int32) (v0 : Int32) (σ : HS), f_X6_product_69 fE p1 k10 y2 y4 y5 v0 σ = some R → AW ids ad ca Γ 69 [some (.ref (ad 1)), some (.ref (ad p1)), some (.int y2), none, some (.int y4), some (.int y5)] [.int v0] σ := by
    intro k10 hk10 y2 y4 y5 v0 σ h
    unfold f_X6_product_69 at h
    refine a_istore_n C dX6_product_69 (i := 3) rfl (by decide) rfl (vs1 := [some (.ref (ad 1)), some (.ref (ad p1)), some (.int y2), some (.int v0), some (.int y4), some (.int y5)]) rfl ?_
    refine a_aload_n C dX6_product_70 (i := 1) rfl rfl ?_
    refine a_iload C dX6_product_71 rfl ?_
    refine a_bipush C dX6_product_73 (v := 42) rfl ?_
    refine p_ic_ne C (X := y5.toInt) (Y := 42) rfl (by decide) dX6_product_75 (tgt := 83) rfl h (fun h => ?_) (fun h => ?_)
    ·
      refine a_bipush C dX6_product_83 (v := (-4)) rfl ?_
      refine AW.sub (vs' := [some (.ref (ad 1)), some (.ref (ad p1)), some (.int y2), some (.int v0), some (.int y4), none]) (lsub_of (by simp [lsubB])) ?_
      exact j85 k10 hk10 _ _ _ _ _ h
    ·
      refine a_bipush C dX6_product_78 (v := (-3)) rfl ?_
      refine a_goto C dX6_product_80 (tgt := 85) rfl ?_
      refine AW.sub (vs' := [some (.ref (ad 1)), some (.ref (ad p1)), some (.int y2), some (.int v0), some (.int y4), none]) (lsub_of (by simp [lsubB])) ?_
      exact j85 k10 hk10 _ _ _ _ _ h
  have j68 : ∀ (k10 : Int32 → Int32 → Int32 → HS → Option (Int32 × HS)) (hk10 : ∀ (y2 : Int32) (y3 : Int32) (y4 : Int32) (σ : HS), k10 y2 y3 y4 σ = some R → AW ids ad ca Γ 10 [some (.ref (ad 1)), some (.ref (ad p1)), some (.int y2), some (.int y3), some (.int y4), none] [] σ) (y2 : Int32) (y4 : Int32) (y5 : Int32) (σ : HS), f_X6_product_68 fE p1 k10 y2 y4 y5 σ = some R → AW ids ad ca Γ 68 [some (.ref (ad 1)), some (.ref (ad p1)), some (.int y2), none, some (.int y4), some (.int y5)] [] σ := by
    intro k10 hk10 y2 y4 y5 σ h
    unfold f_X6_product_68 at h
    refine a_iconst C dX6_product_68 (v := 0) rfl ?_
    exact j69 k10 hk10 _ _ _ _ _ h
  have j32 : ∀ (k10 : Int32 → Int32 → Int32 → HS → Option (Int32 × HS)) (hk10 : ∀ (y2 : Int32) (y3 : Int32) (y4 : Int32) (σ : HS), k10 y2 y3 y4 σ = some R → AW ids ad ca Γ 10 [some (.ref (ad 1)), some (.ref (ad p1)), some (.int y2), some (.int y3), some (.int y4), none] [] σ) (y2 : Int32) (y3 : Int32) (y4 : Int32) (σ : HS), f_X6_product_32 fE p1 k10 y2 y3 y4 σ = some R → AW ids ad ca Γ 32 [some (.ref (ad 1)), some (.ref (ad p1)), some (.int y2), some (.int y3), some (.int y4), none] [] σ := by
    intro k10 hk10 y2 y3 y4 σ h
    unfold f_X6_product_32 at h
    refine a_iload C dX6_product_32 rfl ?_
    refine a_sipush C dX6_product_34 (v := 400) rfl ?_
    refine p_ic_ge C (X := y4.toInt) (Y := 400) rfl (by decide) dX6_product_37 (tgt := 94) rfl h (fun h => ?_) (fun h => ?_)
    ·
      refine a_iload_n C dX6_product_94 (i := 3) rfl rfl ?_
      refine ite_n h (fun c h => ?_)
      exact a_iret Rt dX6_product_95 (nar_z c).1 (ret_eq (h.trans (congrArg some hR.symm)))
    ·
      refine a_aload_n C dX6_product_40 (i := 0) rfl rfl ?_
      refine a_get C fl_RX6_53 (i := 1) kd_1 (hid 1 (by decide)) (v := .int (σ.1 1 6)) rfl dX6_product_41 ?_
      refine p_istore C (fun z1 => [some (.ref (ad 1)), some (.ref (ad p1)), some (.int y2), some (.int y3), some (.int y4), some (.int z1)]) dX6_product_44 (by decide) rfl (fun _ => rfl) h (fun z1 h => ?_)
      refine a_aload_n C dX6_product_46 (i := 0) rfl rfl ?_
      refine a_iload C dX6_product_47 rfl ?_
      refine p_callVi C (As := [.int z1]) (i := 1) kd_1 (hid 1 (by decide)) ⟨_, _, rfl⟩ (by decide) h (fun _ _ e => Z_X6_take hid e) mi_X6_take ml_RX6_77 rfl rfl (by omega) (by omega) (Nat.le_of_ble_eq_true rfl) dX6_product_49 (fun r3 σ2 h => ?_)
      refine p_if_eq C (X := r3.toInt) rfl dX6_product_52 (tgt := 68) rfl h (fun h => ?_) (fun h => ?_)
      ·
        refine AW.sub (vs' := [some (.ref (ad 1)), some (.ref (ad p1)), some (.int y2), none, some (.int y4), some (.int z1)]) (lsub_of (by simp [lsubB])) ?_
        exact j68 k10 hk10 _ _ _ _ h
      ·
        refine a_aload_n C dX6_product_55 (i := 0) rfl rfl ?_
        refine a_aload_n C dX6_product_56 (i := 1) rfl rfl ?_
        refine a_iload_n C dX6_product_57 (i := 2) rfl rfl ?_
        refine p_callVi C (As := [.ref (ad p1), .int y2]) (i := 1) kd_1 (hid 1 (by decide)) ⟨_, _, rfl⟩ (by decide) h (fun _ _ e => Z_X6_unit hid fE hE hp1 e) mi_X6_unit ml_RX6_147 rfl rfl (by omega) (by omega) (Nat.le_of_ble_eq_true rfl) dX6_product_58 (fun r5 σ4 h => ?_)
        refine p_if_eq C (X := r5.toInt) rfl dX6_product_61 (tgt := 68) rfl h (fun h => ?_) (fun h => ?_)
        ·
          refine AW.sub (vs' := [some (.ref (ad 1)), some (.ref (ad p1)), some (.int y2), none, some (.int y4), some (.int z1)]) (lsub_of (by simp [lsubB])) ?_
          exact j68 k10 hk10 _ _ _ _ h
        ·
          refine a_iconst C dX6_product_64 (v := 1) rfl ?_
          refine a_goto C dX6_product_65 (tgt := 69) rfl ?_
          refine AW.sub (vs' := [some (.ref (ad 1)), some (.ref (ad p1)), some (.int y2), none, some (.int y4), some (.int z1)]) (lsub_of (by simp [lsubB])) ?_
          exact j69 k10 hk10 _ _ _ _ _ h
  have j10 : ∀ (n : Nat) (y2 : Int32) (y3 : Int32) (y4 : Int32) (σ : HS), f_X6_product_10 fE p1 n y2 y3 y4 σ = some R → AW ids ad ca Γ 10 [some (.ref (ad 1)), some (.ref (ad p1)), some (.int y2), some (.int y3), some (.int y4), none] [] σ := by
    intro n
    induction n with
    | zero => intro y2 y3 y4 σ h; exact nn h
    | succ n ih =>
      intro y2 y3 y4 σ h
      have h : b_X6_product_10 fE p1 (f_X6_product_10 fE p1 n) y2 y3 y4 σ = some R := h
      unfold b_X6_product_10 at h
      refine a_iload_n C dX6_product_10 (i := 3) rfl rfl ?_
      refine p_if_eq C (X := y3.toInt) rfl dX6_product_11 (tgt := 94) rfl h (fun h => ?_) (fun h => ?_)
      ·
        refine a_iload_n C dX6_product_94 (i := 3) rfl rfl ?_
        refine ite_n h (fun c h => ?_)
        exact a_iret Rt dX6_product_95 (nar_z c).1 (ret_eq (h.trans (congrArg some hR.symm)))
      ·
        refine a_aload_n C dX6_product_14 (i := 0) rfl rfl ?_
        refine a_get C fl_RX6_53 (i := 1) kd_1 (hid 1 (by decide)) (v := .int (σ.1 1 6)) rfl dX6_product_15 ?_
        refine a_bipush C dX6_product_18 (v := 42) rfl ?_
        refine p_ic_eq C (X := (σ.1 1 6).toInt) (Y := 42) rfl (by decide) dX6_product_20 (tgt := 32) rfl h (fun h => ?_) (fun h => ?_)
        ·
          exact j32 (f_X6_product_10 fE p1 n) (fun y2 y3 y4 σ h => ih y2 y3 y4 σ h) _ _ _ _ h
        ·
          refine a_aload_n C dX6_product_23 (i := 0) rfl rfl ?_
          refine a_get C fl_RX6_53 (i := 1) kd_1 (hid 1 (by decide)) (v := .int (σ.1 1 6)) rfl dX6_product_24 ?_
          refine a_bipush C dX6_product_27 (v := 47) rfl ?_
          refine p_ic_ne C (X := (σ.1 1 6).toInt) (Y := 47) rfl (by decide) dX6_product_29 (tgt := 94) rfl h (fun h => ?_) (fun h => ?_)
          ·
            refine a_iload_n C dX6_product_94 (i := 3) rfl rfl ?_
            refine ite_n h (fun c h => ?_)
            exact a_iret Rt dX6_product_95 (nar_z c).1 (ret_eq (h.trans (congrArg some hR.symm)))
          ·
            exact j32 (f_X6_product_10 fE p1 n) (fun y2 y3 y4 σ h => ih y2 y3 y4 σ h) _ _ _ _ h
  refine a_aload_n C dX6_product_0 (i := 0) rfl rfl ?_
  refine a_aload_n C dX6_product_1 (i := 1) rfl rfl ?_
  refine a_iload_n C dX6_product_2 (i := 2) rfl rfl ?_
  refine p_callVi C (As := [.ref (ad p1), .int x2]) (i := 1) kd_1 (hid 1 (by decide)) ⟨_, _, rfl⟩ (by decide) h (fun _ _ e => Z_X6_unit hid fE hE hp1 e) mi_X6_unit ml_RX6_147 rfl rfl (by omega) (by omega) (Nat.le_of_ble_eq_true rfl) dX6_product_3 (fun r2 σ1 h => ?_)
  refine a_istore_n C dX6_product_6 (i := 3) rfl (by decide) rfl (vs1 := [some (.ref (ad 1)), some (.ref (ad p1)), some (.int x2), some (.int r2), none, none]) rfl ?_
  refine a_iconst C dX6_product_7 (v := 0) rfl ?_
  refine a_istore C dX6_product_8 (by decide) rfl (vs1 := [some (.ref (ad 1)), some (.ref (ad p1)), some (.int x2), some (.int r2), some (.int 0), none]) rfl ?_
  exact j10 _ _ _ _ _ h
set_option maxHeartbeats 4000000 in
set_option maxRecDepth 100000 in
theorem Zg_X6_expression {l : Launch} {D : va_G} {ids : List Nat} {ad : Nat → Nat} {ca : Nat → ClassId} {σ : HS} {p1 : Nat} {x2 : Int32} {r0 : Int32} {s0 : HS} (hid : ∀ i, i < 277 → i ∈ ids) (fE : Nat → Int32 → HS → Option (Int32 × HS)) {fr0 lo0 : Nat} (hE : ∀ (p1 : Nat) (x2 : Int32) (σ s0 : HS) (r0 : Int32), txtOK p1 → fE p1 x2 σ = some (r0, s0) → Ki l D ids ad ca yX6_expression cX6_expression 6 .boolean fr0 lo0 [.ref (ad 1), .ref (ad p1), .int x2] σ (fun r σ1 => r = r0 ∧ σ1 = s0)) (hp1 : txtOK p1) (h : g_X6_expression fE p1 x2 σ = some (r0, s0)) : Ki l D ids ad ca yX6_expression cX6_expression 6 .boolean (fr0 + 4) (lo0 + 90) [.ref (ad 1), .ref (ad p1), .int x2] σ (fun r σ1 => r = r0 ∧ σ1 = s0) := by
  obtain ⟨R, hR⟩ : ∃ R, (r0, s0) = R := ⟨_, rfl⟩
  replace h := h.trans (congrArg some hR)
  refine Ki.of (by decide) (Nat.le_of_ble_eq_true rfl) 3 (fun Γ C Rt => ?_)
  show AW ids ad ca Γ 0 [some (.ref (ad 1)), some (.ref (ad p1)), some (.int x2), none, none, none] [] σ
  unfold g_X6_expression at h
  have j84 : ∀ (k10 : Int32 → Int32 → Int32 → HS → Option (Int32 × HS)) (hk10 : ∀ (y2 : Int32) (y3 : Int32) (y4 : Int32) (σ : HS), k10 y2 y3 y4 σ = some R → AW ids ad ca Γ 10 [some (.ref (ad 1)), some (.ref (ad p1)), some (.int y2), some (.int y3), some (.int y4), none] [] σ) (y2 : Int32) (y3 : Int32) (y4 : Int32) (v0 : Int32) (σ : HS), f_X6_expression_84 fE p1 k10 y2 y3 y4 v0 σ = some R → AW ids ad ca Γ 84 [some (.ref (ad 1)), some (.ref (ad p1)), some (.int y2), some (.int y3), some (.int y4), none] [.int v0, .ref (ad p1)] σ := by
    intro k10 hk10 y2 y3 y4 v0 σ h
    unfold f_X6_expression_84 at h
    refine p_callVv C (As := [.int v0]) (i := p1) hp1.1.1 (hid _ hp1.1.2) ⟨_, _, rfl⟩ (by decide) h (fun _ e => Z_X10_emit hid hp1 e) mi_X10_emit ml_RX6_138 rfl rfl (by omega) (by omega) (Nat.le_of_ble_eq_true rfl) dX6_expression_84 (fun σ1 h => ?_)
    refine p_iinc C (y := (y4 + 1)) (fun z3 => [some (.ref (ad 1)), some (.ref (ad p1)), some (.int y2), some (.int y3), some (.int z3), none]) dX6_expression_87 rfl rfl (by decide) rfl (fun _ => rfl) h (fun z3 h => ?_)
    refine a_goto C dX6_expression_90 (tgt := 10) rfl ?_
    exact hk10 _ _ _ _ h
  have j69 : ∀ (k10 : Int32 → Int32 → Int32 → HS → Option (Int32 × HS)) (hk10 : ∀ (y2 : Int32) (y3 : Int32) (y4 : Int32) (σ : HS), k10 y2 y3 y4 σ = some R → AW ids ad ca Γ 10 [some (.ref (ad 1)), some (.ref (ad p1)), some (.int y2), some (.int y3), some (.int y4), none] [] σ) (y2 : Int32) (y4 : Int32) (y5 : Int32) (v0 : Int32) (σ : HS), f_X6_expression_69 fE p1 k10 y2 y4 y5 v0 σ = some R → AW ids ad ca Γ 69 [some (.ref (ad 1)), some (.ref (ad p1)), some (.int y2), none, some (.int y4), some (.int y5)] [.int v0] σ := by
    intro k10 hk10 y2 y4 y5 v0 σ h
    unfold f_X6_expression_69 at h
    refine a_istore_n C dX6_expression_69 (i := 3) rfl (by decide) rfl (vs1 := [some (.ref (ad 1)), some (.ref (ad p1)), some (.int y2), some (.int v0), some (.int y4), some (.int y5)]) rfl ?_
    refine a_aload_n C dX6_expression_70 (i := 1) rfl rfl ?_
    refine a_iload C dX6_expression_71 rfl ?_
    refine a_bipush C dX6_expression_73 (v := 43) rfl ?_
    refine p_ic_ne C (X := y5.toInt) (Y := 43) rfl (by decide) dX6_expression_75 (tgt := 82) rfl h (fun h => ?_) (fun h => ?_)
    ·
      refine a_bipush C dX6_expression_82 (v := (-2)) rfl ?_
      refine AW.sub (vs' := [some (.ref (ad 1)), some (.ref (ad p1)), some (.int y2), some (.int v0), some (.int y4), none]) (lsub_of (by simp [lsubB])) ?_
      exact j84 k10 hk10 _ _ _ _ _ h
    ·
      refine a_iconst C dX6_expression_78 (v := (-1)) rfl ?_
      refine a_goto C dX6_expression_79 (tgt := 84) rfl ?_
      refine AW.sub (vs' := [some (.ref (ad 1)), some (.ref (ad p1)), some (.int y2), some (.int v0), some (.int y4), none]) (lsub_of (by simp [lsubB])) ?_
      exact j84 k10 hk10 _ _ _ _ _ h
  have j68 : ∀ (k10 : Int32 → Int32 → Int32 → HS → Option (Int32 × HS)) (hk10 : ∀ (y2 : Int32) (y3 : Int32) (y4 : Int32) (σ : HS), k10 y2 y3 y4 σ = some R → AW ids ad ca Γ 10 [some (.ref (ad 1)), some (.ref (ad p1)), some (.int y2), some (.int y3), some (.int y4), none] [] σ) (y2 : Int32) (y4 : Int32) (y5 : Int32) (σ : HS), f_X6_expression_68 fE p1 k10 y2 y4 y5 σ = some R → AW ids ad ca Γ 68 [some (.ref (ad 1)), some (.ref (ad p1)), some (.int y2), none, some (.int y4), some (.int y5)] [] σ := by
    intro k10 hk10 y2 y4 y5 σ h
    unfold f_X6_expression_68 at h
    refine a_iconst C dX6_expression_68 (v := 0) rfl ?_
    exact j69 k10 hk10 _ _ _ _ _ h
  have j32 : ∀ (k10 : Int32 → Int32 → Int32 → HS → Option (Int32 × HS)) (hk10 : ∀ (y2 : Int32) (y3 : Int32) (y4 : Int32) (σ : HS), k10 y2 y3 y4 σ = some R → AW ids ad ca Γ 10 [some (.ref (ad 1)), some (.ref (ad p1)), some (.int y2), some (.int y3), some (.int y4), none] [] σ) (y2 : Int32) (y3 : Int32) (y4 : Int32) (σ : HS), f_X6_expression_32 fE p1 k10 y2 y3 y4 σ = some R → AW ids ad ca Γ 32 [some (.ref (ad 1)), some (.ref (ad p1)), some (.int y2), some (.int y3), some (.int y4), none] [] σ := by
    intro k10 hk10 y2 y3 y4 σ h
    unfold f_X6_expression_32 at h
    refine a_iload C dX6_expression_32 rfl ?_
    refine a_sipush C dX6_expression_34 (v := 400) rfl ?_
    refine p_ic_ge C (X := y4.toInt) (Y := 400) rfl (by decide) dX6_expression_37 (tgt := 93) rfl h (fun h => ?_) (fun h => ?_)
    ·
      refine a_iload_n C dX6_expression_93 (i := 3) rfl rfl ?_
      refine ite_n h (fun c h => ?_)
      exact a_iret Rt dX6_expression_94 (nar_z c).1 (ret_eq (h.trans (congrArg some hR.symm)))
    ·
      refine a_aload_n C dX6_expression_40 (i := 0) rfl rfl ?_
      refine a_get C fl_RX6_53 (i := 1) kd_1 (hid 1 (by decide)) (v := .int (σ.1 1 6)) rfl dX6_expression_41 ?_
      refine p_istore C (fun z1 => [some (.ref (ad 1)), some (.ref (ad p1)), some (.int y2), some (.int y3), some (.int y4), some (.int z1)]) dX6_expression_44 (by decide) rfl (fun _ => rfl) h (fun z1 h => ?_)
      refine a_aload_n C dX6_expression_46 (i := 0) rfl rfl ?_
      refine a_iload C dX6_expression_47 rfl ?_
      refine p_callVi C (As := [.int z1]) (i := 1) kd_1 (hid 1 (by decide)) ⟨_, _, rfl⟩ (by decide) h (fun _ _ e => Z_X6_take hid e) mi_X6_take ml_RX6_77 rfl rfl (by omega) (by omega) (Nat.le_of_ble_eq_true rfl) dX6_expression_49 (fun r3 σ2 h => ?_)
      refine p_if_eq C (X := r3.toInt) rfl dX6_expression_52 (tgt := 68) rfl h (fun h => ?_) (fun h => ?_)
      ·
        refine AW.sub (vs' := [some (.ref (ad 1)), some (.ref (ad p1)), some (.int y2), none, some (.int y4), some (.int z1)]) (lsub_of (by simp [lsubB])) ?_
        exact j68 k10 hk10 _ _ _ _ h
      ·
        refine a_aload_n C dX6_expression_55 (i := 0) rfl rfl ?_
        refine a_aload_n C dX6_expression_56 (i := 1) rfl rfl ?_
        refine a_iload_n C dX6_expression_57 (i := 2) rfl rfl ?_
        refine p_callVi C (As := [.ref (ad p1), .int y2]) (i := 1) kd_1 (hid 1 (by decide)) ⟨_, _, rfl⟩ (by decide) h (fun _ _ e => Z_X6_product hid fE hE hp1 e) mi_X6_product ml_RX6_144 rfl rfl (by omega) (by omega) (Nat.le_of_ble_eq_true rfl) dX6_expression_58 (fun r5 σ4 h => ?_)
        refine p_if_eq C (X := r5.toInt) rfl dX6_expression_61 (tgt := 68) rfl h (fun h => ?_) (fun h => ?_)
        ·
          refine AW.sub (vs' := [some (.ref (ad 1)), some (.ref (ad p1)), some (.int y2), none, some (.int y4), some (.int z1)]) (lsub_of (by simp [lsubB])) ?_
          exact j68 k10 hk10 _ _ _ _ h
        ·
          refine a_iconst C dX6_expression_64 (v := 1) rfl ?_
          refine a_goto C dX6_expression_65 (tgt := 69) rfl ?_
          refine AW.sub (vs' := [some (.ref (ad 1)), some (.ref (ad p1)), some (.int y2), none, some (.int y4), some (.int z1)]) (lsub_of (by simp [lsubB])) ?_
          exact j69 k10 hk10 _ _ _ _ _ h
  have j10 : ∀ (n : Nat) (y2 : Int32) (y3 : Int32) (y4 : Int32) (σ : HS), f_X6_expression_10 fE p1 n y2 y3 y4 σ = some R → AW ids ad ca Γ 10 [some (.ref (ad 1)), some (.ref (ad p1)), some (.int y2), some (.int y3), some (.int y4), none] [] σ := by
    intro n
    induction n with
    | zero => intro y2 y3 y4 σ h; exact nn h
    | succ n ih =>
      intro y2 y3 y4 σ h
      have h : b_X6_expression_10 fE p1 (f_X6_expression_10 fE p1 n) y2 y3 y4 σ = some R := h
      unfold b_X6_expression_10 at h
      refine a_iload_n C dX6_expression_10 (i := 3) rfl rfl ?_
      refine p_if_eq C (X := y3.toInt) rfl dX6_expression_11 (tgt := 93) rfl h (fun h => ?_) (fun h => ?_)
      ·
        refine a_iload_n C dX6_expression_93 (i := 3) rfl rfl ?_
        refine ite_n h (fun c h => ?_)
        exact a_iret Rt dX6_expression_94 (nar_z c).1 (ret_eq (h.trans (congrArg some hR.symm)))
      ·
        refine a_aload_n C dX6_expression_14 (i := 0) rfl rfl ?_
        refine a_get C fl_RX6_53 (i := 1) kd_1 (hid 1 (by decide)) (v := .int (σ.1 1 6)) rfl dX6_expression_15 ?_
        refine a_bipush C dX6_expression_18 (v := 43) rfl ?_
        refine p_ic_eq C (X := (σ.1 1 6).toInt) (Y := 43) rfl (by decide) dX6_expression_20 (tgt := 32) rfl h (fun h => ?_) (fun h => ?_)
        ·
          exact j32 (f_X6_expression_10 fE p1 n) (fun y2 y3 y4 σ h => ih y2 y3 y4 σ h) _ _ _ _ h
        ·
          refine a_aload_n C dX6_expression_23 (i := 0) rfl rfl ?_
          refine a_get C fl_RX6_53 (i := 1) kd_1 (hid 1 (by decide)) (v := .int (σ.1 1 6)) rfl dX6_expression_24 ?_
          refine a_bipush C dX6_expression_27 (v := 45) rfl ?_
          refine p_ic_ne C (X := (σ.1 1 6).toInt) (Y := 45) rfl (by decide) dX6_expression_29 (tgt := 93) rfl h (fun h => ?_) (fun h => ?_)
          ·
            refine a_iload_n C dX6_expression_93 (i := 3) rfl rfl ?_
            refine ite_n h (fun c h => ?_)
            exact a_iret Rt dX6_expression_94 (nar_z c).1 (ret_eq (h.trans (congrArg some hR.symm)))
          ·
            exact j32 (f_X6_expression_10 fE p1 n) (fun y2 y3 y4 σ h => ih y2 y3 y4 σ h) _ _ _ _ h
  refine a_aload_n C dX6_expression_0 (i := 0) rfl rfl ?_
  refine a_aload_n C dX6_expression_1 (i := 1) rfl rfl ?_
  refine a_iload_n C dX6_expression_2 (i := 2) rfl rfl ?_
  refine p_callVi C (As := [.ref (ad p1), .int x2]) (i := 1) kd_1 (hid 1 (by decide)) ⟨_, _, rfl⟩ (by decide) h (fun _ _ e => Z_X6_product hid fE hE hp1 e) mi_X6_product ml_RX6_144 rfl rfl (by omega) (by omega) (Nat.le_of_ble_eq_true rfl) dX6_expression_3 (fun r2 σ1 h => ?_)
  refine a_istore_n C dX6_expression_6 (i := 3) rfl (by decide) rfl (vs1 := [some (.ref (ad 1)), some (.ref (ad p1)), some (.int x2), some (.int r2), none, none]) rfl ?_
  refine a_iconst C dX6_expression_7 (v := 0) rfl ?_
  refine a_istore C dX6_expression_8 (by decide) rfl (vs1 := [some (.ref (ad 1)), some (.ref (ad p1)), some (.int x2), some (.int r2), some (.int 0), none]) rfl ?_
  exact j10 _ _ _ _ _ h
theorem Z_X6_expression {l : Launch} {D : va_G} {ids : List Nat} {ad : Nat → Nat} {ca : Nat → ClassId} (hid : ∀ i, i < 277 → i ∈ ids) : ∀ (n : Nat) (p1 : Nat) (x2 : Int32) (σ s0 : HS) (r0 : Int32), txtOK p1 → f_X6_expression n p1 x2 σ = some (r0, s0) → Ki l D ids ad ca yX6_expression cX6_expression 6 .boolean (4 * n) (90 * n) [.ref (ad 1), .ref (ad p1), .int x2] σ (fun r σ1 => r = r0 ∧ σ1 = s0) := by
  intro n
  induction n with
  | zero => intro p1 x2 σ s0 r0 hp h; exact nn h
  | succ n ih => intro p1 x2 σ s0 r0 hp h; exact Zg_X6_expression hid (f_X6_expression n) ih hp h
set_option maxHeartbeats 4000000 in
set_option maxRecDepth 100000 in
theorem Z_X6_condition {l : Launch} {D : va_G} {ids : List Nat} {ad : Nat → Nat} {ca : Nat → ClassId} {σ : HS} {p1 : Nat} {r0 : Int32} {s0 : HS} (hid : ∀ i, i < 277 → i ∈ ids) (hp1 : txtOK p1) (h : f_X6_condition p1 σ = some (r0, s0)) : Ki l D ids ad ca yX6_condition cX6_condition 3 .boolean 33 745 [.ref (ad 1), .ref (ad p1)] σ (fun r σ1 => r = r0 ∧ σ1 = s0) := by
  obtain ⟨R, hR⟩ : ∃ R, (r0, s0) = R := ⟨_, rfl⟩
  replace h := h.trans (congrArg some hR)
  refine Ki.of (by decide) (Nat.le_of_ble_eq_true rfl) 1 (fun Γ C Rt => ?_)
  show AW ids ad ca Γ 0 [some (.ref (ad 1)), some (.ref (ad p1)), none] [] σ
  unfold f_X6_condition at h
  refine a_aload_n C dX6_condition_0 (i := 0) rfl rfl ?_
  refine a_bipush C dX6_condition_1 (v := 8) rfl ?_
  refine p_callVi C (As := [.int 8]) (i := 1) kd_1 (hid 1 (by decide)) ⟨_, _, rfl⟩ (by decide) h (fun _ _ e => Z_X6_take hid e) mi_X6_take ml_RX6_77 rfl rfl (Nat.le_of_ble_eq_true rfl) (Nat.le_of_ble_eq_true rfl) (Nat.le_of_ble_eq_true rfl) dX6_condition_3 (fun r2 σ1 h => ?_)
  refine p_if_eq C (X := r2.toInt) rfl dX6_condition_6 (tgt := 45) rfl h (fun h => ?_) (fun h => ?_)
  ·
    refine a_iconst C dX6_condition_45 (v := 0) rfl ?_
    exact a_iret Rt dX6_condition_46 (nar_z (by decide)).1 (ret_eq (h.trans (congrArg some hR.symm)))
  ·
    refine a_aload_n C dX6_condition_9 (i := 0) rfl rfl ?_
    refine a_aload_n C dX6_condition_10 (i := 1) rfl rfl ?_
    refine a_iconst C dX6_condition_11 (v := 0) rfl ?_
    refine p_callVi C (As := [.ref (ad p1), .int 0]) (i := 1) kd_1 (hid 1 (by decide)) ⟨_, _, rfl⟩ (by decide) h (fun _ _ e => Z_X6_expression hid 8 _ _ _ _ _ hp1 e) mi_X6_expression ml_RX6_135 rfl rfl (Nat.le_of_ble_eq_true rfl) (Nat.le_of_ble_eq_true rfl) (Nat.le_of_ble_eq_true rfl) dX6_condition_12 (fun r4 σ3 h => ?_)
    refine p_if_eq C (X := r4.toInt) rfl dX6_condition_15 (tgt := 45) rfl h (fun h => ?_) (fun h => ?_)
    ·
      refine a_iconst C dX6_condition_45 (v := 0) rfl ?_
      exact a_iret Rt dX6_condition_46 (nar_z (by decide)).1 (ret_eq (h.trans (congrArg some hR.symm)))
    ·
      refine a_aload_n C dX6_condition_18 (i := 0) rfl rfl ?_
      refine a_bipush C dX6_condition_19 (v := 60) rfl ?_
      refine p_callVi C (As := [.int 60]) (i := 1) kd_1 (hid 1 (by decide)) ⟨_, _, rfl⟩ (by decide) h (fun _ _ e => Z_X6_take hid e) mi_X6_take ml_RX6_77 rfl rfl (Nat.le_of_ble_eq_true rfl) (Nat.le_of_ble_eq_true rfl) (Nat.le_of_ble_eq_true rfl) dX6_condition_21 (fun r6 σ5 h => ?_)
      refine p_if_eq C (X := r6.toInt) rfl dX6_condition_24 (tgt := 45) rfl h (fun h => ?_) (fun h => ?_)
      ·
        refine a_iconst C dX6_condition_45 (v := 0) rfl ?_
        exact a_iret Rt dX6_condition_46 (nar_z (by decide)).1 (ret_eq (h.trans (congrArg some hR.symm)))
      ·
        refine a_aload_n C dX6_condition_27 (i := 0) rfl rfl ?_
        refine a_aload_n C dX6_condition_28 (i := 1) rfl rfl ?_
        refine a_iconst C dX6_condition_29 (v := 0) rfl ?_
        refine p_callVi C (As := [.ref (ad p1), .int 0]) (i := 1) kd_1 (hid 1 (by decide)) ⟨_, _, rfl⟩ (by decide) h (fun _ _ e => Z_X6_expression hid 8 _ _ _ _ _ hp1 e) mi_X6_expression ml_RX6_135 rfl rfl (Nat.le_of_ble_eq_true rfl) (Nat.le_of_ble_eq_true rfl) (Nat.le_of_ble_eq_true rfl) dX6_condition_30 (fun r8 σ7 h => ?_)
        refine p_if_eq C (X := r8.toInt) rfl dX6_condition_33 (tgt := 45) rfl h (fun h => ?_) (fun h => ?_)
        ·
          refine a_iconst C dX6_condition_45 (v := 0) rfl ?_
          exact a_iret Rt dX6_condition_46 (nar_z (by decide)).1 (ret_eq (h.trans (congrArg some hR.symm)))
        ·
          refine a_aload_n C dX6_condition_36 (i := 0) rfl rfl ?_
          refine a_bipush C dX6_condition_37 (v := 9) rfl ?_
          refine p_callVi C (As := [.int 9]) (i := 1) kd_1 (hid 1 (by decide)) ⟨_, _, rfl⟩ (by decide) h (fun _ _ e => Z_X6_take hid e) mi_X6_take ml_RX6_77 rfl rfl (Nat.le_of_ble_eq_true rfl) (Nat.le_of_ble_eq_true rfl) (Nat.le_of_ble_eq_true rfl) dX6_condition_39 (fun r10 σ9 h => ?_)
          refine p_if_ne C (X := r10.toInt) rfl dX6_condition_42 (tgt := 47) rfl h (fun h => ?_) (fun h => ?_)
          ·
            refine a_aload_n C dX6_condition_47 (i := 1) rfl rfl ?_
            refine a_bipush C dX6_condition_48 (v := (-5)) rfl ?_
            refine p_callVv C (As := [.int (-5)]) (i := p1) hp1.1.1 (hid _ hp1.1.2) ⟨_, _, rfl⟩ (by decide) h (fun _ e => Z_X10_emit hid hp1 e) mi_X10_emit ml_RX6_138 rfl rfl (Nat.le_of_ble_eq_true rfl) (Nat.le_of_ble_eq_true rfl) (Nat.le_of_ble_eq_true rfl) dX6_condition_50 (fun σ11 h => ?_)
            refine a_aload_n C dX6_condition_53 (i := 1) rfl rfl ?_
            refine a_get C fl_RX6_129 (i := p1) hp1.1.1 (hid _ hp1.1.2) (v := .int (σ11.1 p1 8)) rfl dX6_condition_54 ?_
            refine p_istore_n C (fun z13 => [some (.ref (ad 1)), some (.ref (ad p1)), some (.int z13)]) dX6_condition_57 (i := 2) rfl (by decide) rfl (fun _ => rfl) h (fun z13 h => ?_)
            refine a_aload_n C dX6_condition_58 (i := 1) rfl rfl ?_
            refine a_iconst C dX6_condition_59 (v := 0) rfl ?_
            refine p_callVv C (As := [.int 0]) (i := p1) hp1.1.1 (hid _ hp1.1.2) ⟨_, _, rfl⟩ (by decide) h (fun _ e => Z_X10_emit hid hp1 e) mi_X10_emit ml_RX6_138 rfl rfl (Nat.le_of_ble_eq_true rfl) (Nat.le_of_ble_eq_true rfl) (Nat.le_of_ble_eq_true rfl) dX6_condition_60 (fun σ14 h => ?_)
            refine a_aload_n C dX6_condition_63 (i := 0) rfl rfl ?_
            refine a_aload_n C dX6_condition_64 (i := 1) rfl rfl ?_
            refine a_iconst C dX6_condition_65 (v := 0) rfl ?_
            refine p_callVi C (As := [.ref (ad p1), .int 0]) (i := 1) kd_1 (hid 1 (by decide)) ⟨_, _, rfl⟩ (by decide) h (fun _ _ e => Z_X6_expression hid 8 _ _ _ _ _ hp1 e) mi_X6_expression ml_RX6_135 rfl rfl (Nat.le_of_ble_eq_true rfl) (Nat.le_of_ble_eq_true rfl) (Nat.le_of_ble_eq_true rfl) dX6_condition_66 (fun r17 σ16 h => ?_)
            refine p_if_eq C (X := r17.toInt) rfl dX6_condition_69 (tgt := 81) rfl h (fun h => ?_) (fun h => ?_)
            ·
              refine a_iconst C dX6_condition_81 (v := 0) rfl ?_
              exact a_iret Rt dX6_condition_82 (nar_z (by decide)).1 (ret_eq (h.trans (congrArg some hR.symm)))
            ·
              refine a_aload_n C dX6_condition_72 (i := 0) rfl rfl ?_
              refine a_bipush C dX6_condition_73 (v := 10) rfl ?_
              refine p_callVi C (As := [.int 10]) (i := 1) kd_1 (hid 1 (by decide)) ⟨_, _, rfl⟩ (by decide) h (fun _ _ e => Z_X6_take hid e) mi_X6_take ml_RX6_77 rfl rfl (Nat.le_of_ble_eq_true rfl) (Nat.le_of_ble_eq_true rfl) (Nat.le_of_ble_eq_true rfl) dX6_condition_75 (fun r19 σ18 h => ?_)
              refine p_if_ne C (X := r19.toInt) rfl dX6_condition_78 (tgt := 83) rfl h (fun h => ?_) (fun h => ?_)
              ·
                refine a_aload_n C dX6_condition_83 (i := 1) rfl rfl ?_
                refine a_bipush C dX6_condition_84 (v := (-6)) rfl ?_
                refine p_callVv C (As := [.int (-6)]) (i := p1) hp1.1.1 (hid _ hp1.1.2) ⟨_, _, rfl⟩ (by decide) h (fun _ e => Z_X10_emit hid hp1 e) mi_X10_emit ml_RX6_138 rfl rfl (Nat.le_of_ble_eq_true rfl) (Nat.le_of_ble_eq_true rfl) (Nat.le_of_ble_eq_true rfl) dX6_condition_86 (fun σ20 h => ?_)
                refine a_iload_n C dX6_condition_89 (i := 2) rfl rfl ?_
                refine a_aload_n C dX6_condition_90 (i := 1) rfl rfl ?_
                refine a_get C fl_RX6_141 (i := p1) hp1.1.1 (hid _ hp1.1.2) (v := .ref (ad (p1 + 11))) rfl dX6_condition_91 ?_
                refine a_alen C (by rw [hp1.2.2.2.2.2.1.1.1]; decide) (hid _ hp1.2.2.2.2.2.1.1.2) rfl dX6_condition_94 ?_
                refine p_ic_ge C (X := z13.toInt) (Y := (Int32.ofNat (al (p1 + 11))).toInt) rfl rfl dX6_condition_95 (tgt := 108) rfl h (fun h => ?_) (fun h => ?_)
                ·
                  refine a_iconst C dX6_condition_108 (v := 1) rfl ?_
                  exact a_iret Rt dX6_condition_109 (nar_z (by decide)).1 (ret_eq (h.trans (congrArg some hR.symm)))
                ·
                  refine a_aload_n C dX6_condition_98 (i := 1) rfl rfl ?_
                  refine a_get C fl_RX6_141 (i := p1) hp1.1.1 (hid _ hp1.1.2) (v := .ref (ad (p1 + 11))) rfl dX6_condition_99 ?_
                  refine a_iload_n C dX6_condition_102 (i := 2) rfl rfl ?_
                  refine a_aload_n C dX6_condition_103 (i := 1) rfl rfl ?_
                  refine a_get C fl_RX6_129 (i := p1) hp1.1.1 (hid _ hp1.1.2) (v := .int (σ20.1 p1 8)) rfl dX6_condition_104 ?_
                  refine p_iast C (i := (p1 + 11)) hp1.2.2.2.2.2.1.1 hid (by rw [hp1.2.2.2.2.2.1.2]; rfl) dX6_condition_107 h (fun σ22 h => ?_)
                  refine a_iconst C dX6_condition_108 (v := 1) rfl ?_
                  exact a_iret Rt dX6_condition_109 (nar_z (by decide)).1 (ret_eq (h.trans (congrArg some hR.symm)))
              ·
                refine a_iconst C dX6_condition_81 (v := 0) rfl ?_
                exact a_iret Rt dX6_condition_82 (nar_z (by decide)).1 (ret_eq (h.trans (congrArg some hR.symm)))
          ·
            refine a_iconst C dX6_condition_45 (v := 0) rfl ?_
            exact a_iret Rt dX6_condition_46 (nar_z (by decide)).1 (ret_eq (h.trans (congrArg some hR.symm)))
set_option maxHeartbeats 4000000 in
set_option maxRecDepth 100000 in
theorem Z_X6_tellingLaw {l : Launch} {D : va_G} {ids : List Nat} {ad : Nat → Nat} {ca : Nat → ClassId} {σ : HS} {p1 : Nat} {x2 : Int32} {r0 : Int32} {s0 : HS} (hid : ∀ i, i < 277 → i ∈ ids) (hp1 : txtOK p1) (h : f_X6_tellingLaw p1 x2 σ = some (r0, s0)) : Ki l D ids ad ca yX6_tellingLaw cX6_tellingLaw 4 .boolean 34 767 [.ref (ad 1), .ref (ad p1), .int x2] σ (fun r σ1 => r = r0 ∧ σ1 = s0) := by
  obtain ⟨R, hR⟩ : ∃ R, (r0, s0) = R := ⟨_, rfl⟩
  replace h := h.trans (congrArg some hR)
  refine Ki.of (by decide) (Nat.le_of_ble_eq_true rfl) 1 (fun Γ C Rt => ?_)
  show AW ids ad ca Γ 0 [some (.ref (ad 1)), some (.ref (ad p1)), some (.int x2), none] [] σ
  unfold f_X6_tellingLaw at h
  have j63 : ∀ (σ : HS), f_X6_tellingLaw_63 p1 σ = some R → AW ids ad ca Γ 63 [some (.ref (ad 1)), some (.ref (ad p1)), none, none] [] σ := by
    intro σ h
    unfold f_X6_tellingLaw_63 at h
    refine a_aload_n C dX6_tellingLaw_63 (i := 0) rfl rfl ?_
    refine a_get C fl_RX6_53 (i := 1) kd_1 (hid 1 (by decide)) (v := .int (σ.1 1 6)) rfl dX6_tellingLaw_64 ?_
    refine a_bipush C dX6_tellingLaw_67 (v := 8) rfl ?_
    refine p_ic_ne C (X := (σ.1 1 6).toInt) (Y := 8) rfl (by decide) dX6_tellingLaw_69 (tgt := 78) rfl h (fun h => ?_) (fun h => ?_)
    ·
      refine a_aload_n C dX6_tellingLaw_78 (i := 0) rfl rfl ?_
      refine a_aload_n C dX6_tellingLaw_79 (i := 1) rfl rfl ?_
      refine a_iconst C dX6_tellingLaw_80 (v := 0) rfl ?_
      refine p_callVi C (As := [.ref (ad p1), .int 0]) (i := 1) kd_1 (hid 1 (by decide)) ⟨_, _, rfl⟩ (by decide) h (fun _ _ e => Z_X6_expression hid 8 _ _ _ _ _ hp1 e) mi_X6_expression ml_RX6_135 rfl rfl (Nat.le_of_ble_eq_true rfl) (Nat.le_of_ble_eq_true rfl) (Nat.le_of_ble_eq_true rfl) dX6_tellingLaw_81 (fun r2 σ1 h => ?_)
      refine p_if_ne C (X := r2.toInt) rfl dX6_tellingLaw_84 (tgt := 89) rfl h (fun h => ?_) (fun h => ?_)
      ·
        refine a_aload_n C dX6_tellingLaw_89 (i := 1) rfl rfl ?_
        refine a_bipush C dX6_tellingLaw_90 (v := (-6)) rfl ?_
        refine p_callVv C (As := [.int (-6)]) (i := p1) hp1.1.1 (hid _ hp1.1.2) ⟨_, _, rfl⟩ (by decide) h (fun _ e => Z_X10_emit hid hp1 e) mi_X10_emit ml_RX6_138 rfl rfl (Nat.le_of_ble_eq_true rfl) (Nat.le_of_ble_eq_true rfl) (Nat.le_of_ble_eq_true rfl) dX6_tellingLaw_92 (fun σ3 h => ?_)
        refine a_aload_n C dX6_tellingLaw_95 (i := 0) rfl rfl ?_
        refine a_bipush C dX6_tellingLaw_96 (v := 59) rfl ?_
        refine p_callVi C (As := [.int 59]) (i := 1) kd_1 (hid 1 (by decide)) ⟨_, _, rfl⟩ (by decide) h (fun _ _ e => Z_X6_take hid e) mi_X6_take ml_RX6_77 rfl rfl (Nat.le_of_ble_eq_true rfl) (Nat.le_of_ble_eq_true rfl) (Nat.le_of_ble_eq_true rfl) dX6_tellingLaw_98 (fun r6 σ5 h => ?_)
        refine ite_n h (fun c h => ?_)
        exact a_iret Rt dX6_tellingLaw_101 (nar_z c).1 (ret_eq (h.trans (congrArg some hR.symm)))
      ·
        refine a_iconst C dX6_tellingLaw_87 (v := 0) rfl ?_
        exact a_iret Rt dX6_tellingLaw_88 (nar_z (by decide)).1 (ret_eq (h.trans (congrArg some hR.symm)))
    ·
      refine a_aload_n C dX6_tellingLaw_72 (i := 0) rfl rfl ?_
      refine a_iconst C dX6_tellingLaw_73 (v := 2) rfl ?_
      refine p_callVi C (As := [.int 2]) (i := 1) kd_1 (hid 1 (by decide)) ⟨_, _, rfl⟩ (by decide) h (fun _ _ e => Z_X6_refuse hid e) mi_X6_refuse ml_RX6_60 rfl rfl (Nat.le_of_ble_eq_true rfl) (Nat.le_of_ble_eq_true rfl) (Nat.le_of_ble_eq_true rfl) dX6_tellingLaw_74 (fun r8 σ7 h => ?_)
      refine ite_n h (fun c h => ?_)
      exact a_iret Rt dX6_tellingLaw_77 (nar_z c).1 (ret_eq (h.trans (congrArg some hR.symm)))
  have j33 : ∀ (n : Nat) (y3 : Int32) (σ : HS), f_X6_tellingLaw_33 p1 n y3 σ = some R → AW ids ad ca Γ 33 [some (.ref (ad 1)), some (.ref (ad p1)), none, some (.int y3)] [] σ := by
    intro n
    induction n with
    | zero => intro y3 σ h; exact nn h
    | succ n ih =>
      intro y3 σ h
      have h : b_X6_tellingLaw_33 p1 (f_X6_tellingLaw_33 p1 n) y3 σ = some R := h
      unfold b_X6_tellingLaw_33 at h
      refine a_aload_n C dX6_tellingLaw_33 (i := 0) rfl rfl ?_
      refine a_get C fl_RX6_53 (i := 1) kd_1 (hid 1 (by decide)) (v := .int (σ.1 1 6)) rfl dX6_tellingLaw_34 ?_
      refine a_bipush C dX6_tellingLaw_37 (v := 8) rfl ?_
      refine p_ic_ne C (X := (σ.1 1 6).toInt) (Y := 8) rfl (by decide) dX6_tellingLaw_39 (tgt := 63) rfl h (fun h => ?_) (fun h => ?_)
      ·
        refine AW.sub (vs' := [some (.ref (ad 1)), some (.ref (ad p1)), none, none]) (lsub_of (by simp [lsubB])) ?_
        exact j63 _ h
      ·
        refine a_iload_n C dX6_tellingLaw_42 (i := 3) rfl rfl ?_
        refine a_iconst C dX6_tellingLaw_43 (v := 4) rfl ?_
        refine p_ic_ge C (X := y3.toInt) (Y := 4) rfl (by decide) dX6_tellingLaw_44 (tgt := 63) rfl h (fun h => ?_) (fun h => ?_)
        ·
          refine AW.sub (vs' := [some (.ref (ad 1)), some (.ref (ad p1)), none, none]) (lsub_of (by simp [lsubB])) ?_
          exact j63 _ h
        ·
          refine a_aload_n C dX6_tellingLaw_47 (i := 0) rfl rfl ?_
          refine a_aload_n C dX6_tellingLaw_48 (i := 1) rfl rfl ?_
          refine p_callVi C (As := [.ref (ad p1)]) (i := 1) kd_1 (hid 1 (by decide)) ⟨_, _, rfl⟩ (by decide) h (fun _ _ e => Z_X6_condition hid hp1 e) mi_X6_condition ml_RX6_132 rfl rfl (Nat.le_of_ble_eq_true rfl) (Nat.le_of_ble_eq_true rfl) (Nat.le_of_ble_eq_true rfl) dX6_tellingLaw_49 (fun r2 σ1 h => ?_)
          refine p_if_ne C (X := r2.toInt) rfl dX6_tellingLaw_52 (tgt := 57) rfl h (fun h => ?_) (fun h => ?_)
          ·
            refine p_iinc C (y := (y3 + 1)) (fun z3 => [some (.ref (ad 1)), some (.ref (ad p1)), none, some (.int z3)]) dX6_tellingLaw_57 rfl rfl (by decide) rfl (fun _ => rfl) h (fun z3 h => ?_)
            refine a_goto C dX6_tellingLaw_60 (tgt := 33) rfl ?_
            exact ih _ _ h
          ·
            refine a_iconst C dX6_tellingLaw_55 (v := 0) rfl ?_
            exact a_iret Rt dX6_tellingLaw_56 (nar_z (by decide)).1 (ret_eq (h.trans (congrArg some hR.symm)))
  refine a_aload_n C dX6_tellingLaw_0 (i := 1) rfl rfl ?_
  refine a_get C fl_RX6_126 (i := p1) hp1.1.1 (hid _ hp1.1.2) (v := .ref (ad (p1 + 12))) rfl dX6_tellingLaw_1 ?_
  refine a_iload_n C dX6_tellingLaw_4 (i := 2) rfl rfl ?_
  refine a_iconst C dX6_tellingLaw_5 (v := 2) rfl ?_
  refine a_isub C dX6_tellingLaw_6 ?_
  refine a_aload_n C dX6_tellingLaw_7 (i := 1) rfl rfl ?_
  refine a_get C fl_RX6_129 (i := p1) hp1.1.1 (hid _ hp1.1.2) (v := .int (σ.1 p1 8)) rfl dX6_tellingLaw_8 ?_
  refine p_iast C (i := (p1 + 12)) hp1.2.2.2.2.2.2.1.1 hid (by rw [hp1.2.2.2.2.2.2.1.2]; rfl) dX6_tellingLaw_11 h (fun σ1 h => ?_)
  refine a_aload_n C dX6_tellingLaw_12 (i := 0) rfl rfl ?_
  refine a_iload_n C dX6_tellingLaw_13 (i := 2) rfl rfl ?_
  refine p_callVi C (As := [.int x2]) (i := 1) kd_1 (hid 1 (by decide)) ⟨_, _, rfl⟩ (by decide) h (fun _ _ e => Z_X6_take hid e) mi_X6_take ml_RX6_77 rfl rfl (Nat.le_of_ble_eq_true rfl) (Nat.le_of_ble_eq_true rfl) (Nat.le_of_ble_eq_true rfl) dX6_tellingLaw_14 (fun r3 σ2 h => ?_)
  refine p_if_eq C (X := r3.toInt) rfl dX6_tellingLaw_17 (tgt := 29) rfl h (fun h => ?_) (fun h => ?_)
  ·
    refine a_iconst C dX6_tellingLaw_29 (v := 0) rfl ?_
    exact a_iret Rt dX6_tellingLaw_30 (nar_z (by decide)).1 (ret_eq (h.trans (congrArg some hR.symm)))
  ·
    refine a_aload_n C dX6_tellingLaw_20 (i := 0) rfl rfl ?_
    refine a_bipush C dX6_tellingLaw_21 (v := 61) rfl ?_
    refine p_callVi C (As := [.int 61]) (i := 1) kd_1 (hid 1 (by decide)) ⟨_, _, rfl⟩ (by decide) h (fun _ _ e => Z_X6_take hid e) mi_X6_take ml_RX6_77 rfl rfl (Nat.le_of_ble_eq_true rfl) (Nat.le_of_ble_eq_true rfl) (Nat.le_of_ble_eq_true rfl) dX6_tellingLaw_23 (fun r5 σ4 h => ?_)
    refine p_if_ne C (X := r5.toInt) rfl dX6_tellingLaw_26 (tgt := 31) rfl h (fun h => ?_) (fun h => ?_)
    ·
      refine a_iconst C dX6_tellingLaw_31 (v := 0) rfl ?_
      refine a_istore_n C dX6_tellingLaw_32 (i := 3) rfl (by decide) rfl (vs1 := [some (.ref (ad 1)), some (.ref (ad p1)), some (.int x2), some (.int 0)]) rfl ?_
      refine AW.sub (vs' := [some (.ref (ad 1)), some (.ref (ad p1)), none, some (.int 0)]) (lsub_of (by simp [lsubB])) ?_
      exact j33 _ _ _ h
    ·
      refine a_iconst C dX6_tellingLaw_29 (v := 0) rfl ?_
      exact a_iret Rt dX6_tellingLaw_30 (nar_z (by decide)).1 (ret_eq (h.trans (congrArg some hR.symm)))
set_option maxHeartbeats 4000000 in
set_option maxRecDepth 100000 in
theorem Z_X6_takeName {l : Launch} {D : va_G} {ids : List Nat} {ad : Nat → Nat} {ca : Nat → ClassId} {σ : HS} {r0 : Int32} {s0 : HS} (hid : ∀ i, i < 277 → i ∈ ids) (h : f_X6_takeName σ = some (r0, s0)) : Ki l D ids ad ca yX6_takeName cX6_takeName 4 .boolean 2 42 [.ref (ad 1)] σ (fun r σ1 => r = r0 ∧ σ1 = s0) := by
  obtain ⟨R, hR⟩ : ∃ R, (r0, s0) = R := ⟨_, rfl⟩
  replace h := h.trans (congrArg some hR)
  refine Ki.of (by decide) (Nat.le_of_ble_eq_true rfl) 3 (fun Γ C Rt => ?_)
  show AW ids ad ca Γ 0 [some (.ref (ad 1)), none, none, none] [] σ
  unfold f_X6_takeName at h
  have j86 : ∀ (σ : HS), f_X6_takeName_86 σ = some R → AW ids ad ca Γ 86 [some (.ref (ad 1)), none, none, none] [] σ := by
    intro σ h
    unfold f_X6_takeName_86 at h
    refine a_aload_n C dX6_takeName_86 (i := 0) rfl rfl ?_
    refine a_bipush C dX6_takeName_87 (v := 20) rfl ?_
    refine p_callVi C (As := [.int 20]) (i := 1) kd_1 (hid 1 (by decide)) ⟨_, _, rfl⟩ (by decide) h (fun _ _ e => Z_X6_take hid e) mi_X6_take ml_RX6_77 rfl rfl (Nat.le_of_ble_eq_true rfl) (Nat.le_of_ble_eq_true rfl) (Nat.le_of_ble_eq_true rfl) dX6_takeName_89 (fun r2 σ1 h => ?_)
    refine ite_n h (fun c h => ?_)
    exact a_iret Rt dX6_takeName_92 (nar_z c).1 (ret_eq (h.trans (congrArg some hR.symm)))
  have j48 : ∀ (k15 : Int64 → Int32 → HS → Option (Int32 × HS)) (hk15 : ∀ (y1 : Int64) (y3 : Int32) (σ : HS), k15 y1 y3 σ = some R → AW ids ad ca Γ 15 [some (.ref (ad 1)), some (.long y1), none, some (.int y3)] [] σ) (y1 : Int64) (y3 : Int32) (σ : HS), f_X6_takeName_48 k15 y1 y3 σ = some R → AW ids ad ca Γ 48 [some (.ref (ad 1)), some (.long y1), none, some (.int y3)] [] σ := by
    intro k15 hk15 y1 y3 σ h
    unfold f_X6_takeName_48 at h
    refine p_iinc C (y := (y3 + 1)) (fun z1 => [some (.ref (ad 1)), some (.long y1), none, some (.int z1)]) dX6_takeName_48 rfl rfl (by decide) rfl (fun _ => rfl) h (fun z1 h => ?_)
    refine a_goto C dX6_takeName_51 (tgt := 15) rfl ?_
    exact hk15 _ _ _ h
  have j15 : ∀ (n : Nat) (y1 : Int64) (y3 : Int32) (σ : HS), f_X6_takeName_15 n y1 y3 σ = some R → AW ids ad ca Γ 15 [some (.ref (ad 1)), some (.long y1), none, some (.int y3)] [] σ := by
    intro n
    induction n with
    | zero => intro y1 y3 σ h; exact nn h
    | succ n ih =>
      intro y1 y3 σ h
      have h : b_X6_takeName_15 (f_X6_takeName_15 n) y1 y3 σ = some R := h
      unfold b_X6_takeName_15 at h
      refine a_iload_n C dX6_takeName_15 (i := 3) rfl rfl ?_
      refine a_aload_n C dX6_takeName_16 (i := 0) rfl rfl ?_
      refine a_get C fl_RX6_31 (i := 1) kd_1 (hid 1 (by decide)) (v := .int (σ.1 1 9)) rfl dX6_takeName_17 ?_
      refine p_ic_ge C (X := y3.toInt) (Y := (σ.1 1 9).toInt) rfl rfl dX6_takeName_20 (tgt := 54) rfl h (fun h => ?_) (fun h => ?_)
      ·
        refine a_aload_n C dX6_takeName_54 (i := 0) rfl rfl ?_
        refine a_get C fl_RX6_31 (i := 1) kd_1 (hid 1 (by decide)) (v := .int (σ.1 1 9)) rfl dX6_takeName_55 ?_
        refine a_aload_n C dX6_takeName_58 (i := 0) rfl rfl ?_
        refine a_get C fl_RX6_22 (i := 1) kd_1 (hid 1 (by decide)) (v := .ref (ad 7)) rfl dX6_takeName_59 ?_
        refine a_alen C (by rw [kd_7]; decide) (hid 7 (by decide)) (v := 12) (by rw [al_7]; rfl) dX6_takeName_62 ?_
        refine p_ic_ge C (X := (σ.1 1 9).toInt) (Y := 12) rfl (by decide) dX6_takeName_63 (tgt := 86) rfl h (fun h => ?_) (fun h => ?_)
        ·
          refine AW.sub (vs' := [some (.ref (ad 1)), none, none, none]) (lsub_of (by simp [lsubB])) ?_
          exact j86 _ h
        ·
          refine a_aload_n C dX6_takeName_66 (i := 0) rfl rfl ?_
          refine a_get C fl_RX6_22 (i := 1) kd_1 (hid 1 (by decide)) (v := .ref (ad 7)) rfl dX6_takeName_67 ?_
          refine a_aload_n C dX6_takeName_70 (i := 0) rfl rfl ?_
          refine a_get C fl_RX6_31 (i := 1) kd_1 (hid 1 (by decide)) (v := .int (σ.1 1 9)) rfl dX6_takeName_71 ?_
          refine a_lload_n C dX6_takeName_74 (i := 1) rfl rfl ?_
          refine p_last C (i := 7) kd_7 (hid 7 (by decide)) (by rw [al_7]; rfl) dX6_takeName_75 h (fun σ1 h => ?_)
          refine a_aload_n C dX6_takeName_76 (i := 0) rfl rfl ?_
          refine a_dup C dX6_takeName_77 rfl ?_
          refine a_get C fl_RX6_31 (i := 1) kd_1 (hid 1 (by decide)) (v := .int (σ1.1 1 9)) rfl dX6_takeName_78 ?_
          refine a_iconst C dX6_takeName_81 (v := 1) rfl ?_
          refine a_iadd C dX6_takeName_82 ?_
          refine p_put C fp_RX6_31 (i := 1) kd_1 (hid 1 (by decide)) rfl rfl dX6_takeName_83 h (fun σ2 h => ?_)
          refine AW.sub (vs' := [some (.ref (ad 1)), none, none, none]) (lsub_of (by simp [lsubB])) ?_
          exact j86 _ h
      ·
        refine a_aload_n C dX6_takeName_23 (i := 0) rfl rfl ?_
        refine a_get C fl_RX6_53 (i := 1) kd_1 (hid 1 (by decide)) (v := .int (σ.1 1 6)) rfl dX6_takeName_24 ?_
        refine a_bipush C dX6_takeName_27 (v := 20) rfl ?_
        refine p_ic_ne C (X := (σ.1 1 6).toInt) (Y := 20) rfl (by decide) dX6_takeName_29 (tgt := 48) rfl h (fun h => ?_) (fun h => ?_)
        ·
          exact j48 (f_X6_takeName_15 n) (fun y1 y3 σ h => ih y1 y3 σ h) _ _ _ h
        ·
          refine a_aload_n C dX6_takeName_32 (i := 0) rfl rfl ?_
          refine a_get C fl_RX6_22 (i := 1) kd_1 (hid 1 (by decide)) (v := .ref (ad 7)) rfl dX6_takeName_33 ?_
          refine a_iload_n C dX6_takeName_36 (i := 3) rfl rfl ?_
          refine p_lald C (i := 7) kd_7 (hid 7 (by decide)) (by rw [al_7]; rfl) dX6_takeName_37 h (fun h => ?_)
          refine a_lload_n C dX6_takeName_38 (i := 1) rfl rfl ?_
          refine a_lcmp C dX6_takeName_39 ?_
          refine p_if_ne C (X := (lg_cmp (σ.2.1 7 y3.toInt.toNat) y1).toInt) rfl dX6_takeName_40 (tgt := 48) rfl h (fun h => ?_) (fun h => ?_)
          ·
            exact j48 (f_X6_takeName_15 n) (fun y1 y3 σ h => ih y1 y3 σ h) _ _ _ h
          ·
            refine a_aload_n C dX6_takeName_43 (i := 0) rfl rfl ?_
            refine a_iconst C dX6_takeName_44 (v := 3) rfl ?_
            refine p_callVv C (As := [.int 3]) (i := 1) kd_1 (hid 1 (by decide)) ⟨_, _, rfl⟩ (by decide) h (fun _ e => Z_X6_noteLater hid e) mi_X6_noteLater ml_RX6_73 rfl rfl (Nat.le_of_ble_eq_true rfl) (Nat.le_of_ble_eq_true rfl) (Nat.le_of_ble_eq_true rfl) dX6_takeName_45 (fun σ3 h => ?_)
            exact j48 (f_X6_takeName_15 n) (fun y1 y3 σ h => ih y1 y3 σ h) _ _ _ h
  refine a_aload_n C dX6_takeName_0 (i := 0) rfl rfl ?_
  refine a_get C fl_RX6_12 (i := 1) kd_1 (hid 1 (by decide)) (v := .ref (ad 2)) rfl dX6_takeName_1 ?_
  refine a_get C fl_RX6_64 (i := 2) kd_2 (hid 2 (by decide)) (v := .ref (ad 6)) rfl dX6_takeName_4 ?_
  refine a_aload_n C dX6_takeName_7 (i := 0) rfl rfl ?_
  refine a_get C fl_RX6_46 (i := 1) kd_1 (hid 1 (by decide)) (v := .int (σ.1 1 5)) rfl dX6_takeName_8 ?_
  refine p_lald C (i := 6) kd_6 (hid 6 (by decide)) (by rw [al_6]; rfl) dX6_takeName_11 h (fun h => ?_)
  refine p_lstore_n C (fun z1 => [some (.ref (ad 1)), some (.long z1), none, none]) dX6_takeName_12 (i := 1) rfl (by decide) rfl (fun _ => rfl) h (fun z1 h => ?_)
  refine a_iconst C dX6_takeName_13 (v := 0) rfl ?_
  refine a_istore_n C dX6_takeName_14 (i := 3) rfl (by decide) rfl (vs1 := [some (.ref (ad 1)), some (.long z1), none, some (.int 0)]) rfl ?_
  exact j15 _ _ _ _ h
set_option maxHeartbeats 4000000 in
set_option maxRecDepth 100000 in
theorem Z_X6_tellingPattern {l : Launch} {D : va_G} {ids : List Nat} {ad : Nat → Nat} {ca : Nat → ClassId} {σ : HS} {p1 : Nat} {r0 : Int32} {s0 : HS} (hid : ∀ i, i < 277 → i ∈ ids) (hp1 : txtOK p1) (h : f_X6_tellingPattern p1 σ = some (r0, s0)) : Ki l D ids ad ca yX6_tellingPattern cX6_tellingPattern 4 .boolean 3 66 [.ref (ad 1), .ref (ad p1)] σ (fun r σ1 => r = r0 ∧ σ1 = s0) := by
  obtain ⟨R, hR⟩ : ∃ R, (r0, s0) = R := ⟨_, rfl⟩
  replace h := h.trans (congrArg some hR)
  refine Ki.of (by decide) (Nat.le_of_ble_eq_true rfl) 2 (fun Γ C Rt => ?_)
  show AW ids ad ca Γ 0 [some (.ref (ad 1)), some (.ref (ad p1)), none, none] [] σ
  unfold f_X6_tellingPattern at h
  have j102 : ∀ (y2 : Int32) (y3 : Int32) (σ : HS), f_X6_tellingPattern_102 p1 y2 y3 σ = some R → AW ids ad ca Γ 102 [some (.ref (ad 1)), some (.ref (ad p1)), some (.int y2), some (.int y3)] [] σ := by
    intro y2 y3 σ h
    unfold f_X6_tellingPattern_102 at h
    refine a_aload_n C dX6_tellingPattern_102 (i := 0) rfl rfl ?_
    refine a_get C fl_RX6_53 (i := 1) kd_1 (hid 1 (by decide)) (v := .int (σ.1 1 6)) rfl dX6_tellingPattern_103 ?_
    refine a_bipush C dX6_tellingPattern_106 (v := 21) rfl ?_
    refine p_ic_ne C (X := (σ.1 1 6).toInt) (Y := 21) rfl (by decide) dX6_tellingPattern_108 (tgt := 117) rfl h (fun h => ?_) (fun h => ?_)
    ·
      refine a_aload_n C dX6_tellingPattern_117 (i := 1) rfl rfl ?_
      refine a_get C fl_RX6_123 (i := p1) hp1.1.1 (hid _ hp1.1.2) (v := .ref (ad (p1 + 10))) rfl dX6_tellingPattern_118 ?_
      refine a_iload_n C dX6_tellingPattern_121 (i := 2) rfl rfl ?_
      refine a_iload_n C dX6_tellingPattern_122 (i := 3) rfl rfl ?_
      refine p_iast C (i := (p1 + 10)) hp1.2.2.2.2.1.1 hid (by rw [hp1.2.2.2.2.1.2]; rfl) dX6_tellingPattern_123 h (fun σ1 h => ?_)
      refine a_aload_n C dX6_tellingPattern_124 (i := 1) rfl rfl ?_
      refine a_dup C dX6_tellingPattern_125 rfl ?_
      refine a_get C fl_RX6_116 (i := p1) hp1.1.1 (hid _ hp1.1.2) (v := .int (σ1.1 p1 4)) rfl dX6_tellingPattern_126 ?_
      refine a_iconst C dX6_tellingPattern_129 (v := 1) rfl ?_
      refine a_iadd C dX6_tellingPattern_130 ?_
      refine p_put C fp_RX6_116 (i := p1) hp1.1.1 (hid _ hp1.1.2) rfl rfl dX6_tellingPattern_131 h (fun σ2 h => ?_)
      refine a_aload_n C dX6_tellingPattern_134 (i := 0) rfl rfl ?_
      refine a_bipush C dX6_tellingPattern_135 (v := 59) rfl ?_
      refine p_callVi C (As := [.int 59]) (i := 1) kd_1 (hid 1 (by decide)) ⟨_, _, rfl⟩ (by decide) h (fun _ _ e => Z_X6_take hid e) mi_X6_take ml_RX6_77 rfl rfl (Nat.le_of_ble_eq_true rfl) (Nat.le_of_ble_eq_true rfl) (Nat.le_of_ble_eq_true rfl) dX6_tellingPattern_137 (fun r4 σ3 h => ?_)
      refine ite_n h (fun c h => ?_)
      exact a_iret Rt dX6_tellingPattern_140 (nar_z c).1 (ret_eq (h.trans (congrArg some hR.symm)))
    ·
      refine a_aload_n C dX6_tellingPattern_111 (i := 0) rfl rfl ?_
      refine a_iconst C dX6_tellingPattern_112 (v := 2) rfl ?_
      refine p_callVi C (As := [.int 2]) (i := 1) kd_1 (hid 1 (by decide)) ⟨_, _, rfl⟩ (by decide) h (fun _ _ e => Z_X6_refuse hid e) mi_X6_refuse ml_RX6_60 rfl rfl (Nat.le_of_ble_eq_true rfl) (Nat.le_of_ble_eq_true rfl) (Nat.le_of_ble_eq_true rfl) dX6_tellingPattern_113 (fun r6 σ5 h => ?_)
      refine ite_n h (fun c h => ?_)
      exact a_iret Rt dX6_tellingPattern_116 (nar_z c).1 (ret_eq (h.trans (congrArg some hR.symm)))
  have j57 : ∀ (n : Nat) (y2 : Int32) (y3 : Int32) (σ : HS), f_X6_tellingPattern_57 p1 n y2 y3 σ = some R → AW ids ad ca Γ 57 [some (.ref (ad 1)), some (.ref (ad p1)), some (.int y2), some (.int y3)] [] σ := by
    intro n
    induction n with
    | zero => intro y2 y3 σ h; exact nn h
    | succ n ih =>
      intro y2 y3 σ h
      have h : b_X6_tellingPattern_57 p1 (f_X6_tellingPattern_57 p1 n) y2 y3 σ = some R := h
      unfold b_X6_tellingPattern_57 at h
      refine a_aload_n C dX6_tellingPattern_57 (i := 0) rfl rfl ?_
      refine a_get C fl_RX6_53 (i := 1) kd_1 (hid 1 (by decide)) (v := .int (σ.1 1 6)) rfl dX6_tellingPattern_58 ?_
      refine a_bipush C dX6_tellingPattern_61 (v := 21) rfl ?_
      refine p_ic_ne C (X := (σ.1 1 6).toInt) (Y := 21) rfl (by decide) dX6_tellingPattern_63 (tgt := 102) rfl h (fun h => ?_) (fun h => ?_)
      ·
        exact j102 _ _ _ h
      ·
        refine a_iload_n C dX6_tellingPattern_66 (i := 3) rfl rfl ?_
        refine a_bipush C dX6_tellingPattern_67 (v := 8) rfl ?_
        refine p_ic_ge C (X := y3.toInt) (Y := 8) rfl (by decide) dX6_tellingPattern_69 (tgt := 102) rfl h (fun h => ?_) (fun h => ?_)
        ·
          exact j102 _ _ _ h
        ·
          refine a_aload_n C dX6_tellingPattern_72 (i := 0) rfl rfl ?_
          refine a_iconst C dX6_tellingPattern_73 (v := 0) rfl ?_
          refine a_bipush C dX6_tellingPattern_74 (v := 9) rfl ?_
          refine p_callVi C (As := [.int 0, .int 9]) (i := 1) kd_1 (hid 1 (by decide)) ⟨_, _, rfl⟩ (by decide) h (fun _ _ e => Z_X6_takeNumber hid e) mi_X6_takeNumber ml_RX6_90 rfl rfl (Nat.le_of_ble_eq_true rfl) (Nat.le_of_ble_eq_true rfl) (Nat.le_of_ble_eq_true rfl) dX6_tellingPattern_76 (fun r2 σ1 h => ?_)
          refine p_if_ne C (X := r2.toInt) rfl dX6_tellingPattern_79 (tgt := 84) rfl h (fun h => ?_) (fun h => ?_)
          ·
            refine a_aload_n C dX6_tellingPattern_84 (i := 1) rfl rfl ?_
            refine a_get C fl_RX6_119 (i := p1) hp1.1.1 (hid _ hp1.1.2) (v := .ref (ad (p1 + 4))) rfl dX6_tellingPattern_85 ?_
            refine a_iload_n C dX6_tellingPattern_88 (i := 2) rfl rfl ?_
            refine p_aaldH C (t := p1) hp1 hid dX6_tellingPattern_89 h (fun hr3 h => ?_)
            refine a_iload_n C dX6_tellingPattern_90 (i := 3) rfl rfl ?_
            refine a_aload_n C dX6_tellingPattern_91 (i := 0) rfl rfl ?_
            refine a_get C fl_RX6_67 (i := 1) kd_1 (hid 1 (by decide)) (v := .int (σ1.1 1 7)) rfl dX6_tellingPattern_92 ?_
            refine p_iast C (i := (p1 + 5 + y2.toInt.toNat)) hr3.1 hid (by rw [hr3.2]; rfl) dX6_tellingPattern_95 h (fun σ4 h => ?_)
            refine p_iinc C (y := (y3 + 1)) (fun z5 => [some (.ref (ad 1)), some (.ref (ad p1)), some (.int y2), some (.int z5)]) dX6_tellingPattern_96 rfl rfl (by decide) rfl (fun _ => rfl) h (fun z5 h => ?_)
            refine a_goto C dX6_tellingPattern_99 (tgt := 57) rfl ?_
            exact ih _ _ _ h
          ·
            refine a_iconst C dX6_tellingPattern_82 (v := 0) rfl ?_
            exact a_iret Rt dX6_tellingPattern_83 (nar_z (by decide)).1 (ret_eq (h.trans (congrArg some hR.symm)))
  refine a_aload_n C dX6_tellingPattern_0 (i := 1) rfl rfl ?_
  refine a_get C fl_RX6_116 (i := p1) hp1.1.1 (hid _ hp1.1.2) (v := .int (σ.1 p1 4)) rfl dX6_tellingPattern_1 ?_
  refine p_istore_n C (fun z1 => [some (.ref (ad 1)), some (.ref (ad p1)), some (.int z1), none]) dX6_tellingPattern_4 (i := 2) rfl (by decide) rfl (fun _ => rfl) h (fun z1 h => ?_)
  refine a_iload_n C dX6_tellingPattern_5 (i := 2) rfl rfl ?_
  refine a_iconst C dX6_tellingPattern_6 (v := 5) rfl ?_
  refine p_ic_lt C (X := z1.toInt) (Y := 5) rfl (by decide) dX6_tellingPattern_7 (tgt := 16) rfl h (fun h => ?_) (fun h => ?_)
  ·
    refine a_aload_n C dX6_tellingPattern_16 (i := 0) rfl rfl ?_
    refine a_iconst C dX6_tellingPattern_17 (v := 1) rfl ?_
    refine p_callVi C (As := [.int 1]) (i := 1) kd_1 (hid 1 (by decide)) ⟨_, _, rfl⟩ (by decide) h (fun _ _ e => Z_X6_take hid e) mi_X6_take ml_RX6_77 rfl rfl (Nat.le_of_ble_eq_true rfl) (Nat.le_of_ble_eq_true rfl) (Nat.le_of_ble_eq_true rfl) dX6_tellingPattern_18 (fun r3 σ2 h => ?_)
    refine p_if_eq C (X := r3.toInt) rfl dX6_tellingPattern_21 (tgt := 41) rfl h (fun h => ?_) (fun h => ?_)
    ·
      refine a_iconst C dX6_tellingPattern_41 (v := 0) rfl ?_
      exact a_iret Rt dX6_tellingPattern_42 (nar_z (by decide)).1 (ret_eq (h.trans (congrArg some hR.symm)))
    ·
      refine a_aload_n C dX6_tellingPattern_24 (i := 0) rfl rfl ?_
      refine p_callVi C (As := []) (i := 1) kd_1 (hid 1 (by decide)) ⟨_, _, rfl⟩ (by decide) h (fun _ _ e => Z_X6_takeName hid e) mi_X6_takeName ml_RX6_103 rfl rfl (Nat.le_of_ble_eq_true rfl) (Nat.le_of_ble_eq_true rfl) (Nat.le_of_ble_eq_true rfl) dX6_tellingPattern_25 (fun r5 σ4 h => ?_)
      refine p_if_eq C (X := r5.toInt) rfl dX6_tellingPattern_28 (tgt := 41) rfl h (fun h => ?_) (fun h => ?_)
      ·
        refine a_iconst C dX6_tellingPattern_41 (v := 0) rfl ?_
        exact a_iret Rt dX6_tellingPattern_42 (nar_z (by decide)).1 (ret_eq (h.trans (congrArg some hR.symm)))
      ·
        refine a_aload_n C dX6_tellingPattern_31 (i := 0) rfl rfl ?_
        refine a_iconst C dX6_tellingPattern_32 (v := 0) rfl ?_
        refine a_bipush C dX6_tellingPattern_33 (v := 9) rfl ?_
        refine p_callVi C (As := [.int 0, .int 9]) (i := 1) kd_1 (hid 1 (by decide)) ⟨_, _, rfl⟩ (by decide) h (fun _ _ e => Z_X6_takeNumber hid e) mi_X6_takeNumber ml_RX6_90 rfl rfl (Nat.le_of_ble_eq_true rfl) (Nat.le_of_ble_eq_true rfl) (Nat.le_of_ble_eq_true rfl) dX6_tellingPattern_35 (fun r7 σ6 h => ?_)
        refine p_if_ne C (X := r7.toInt) rfl dX6_tellingPattern_38 (tgt := 43) rfl h (fun h => ?_) (fun h => ?_)
        ·
          refine a_aload_n C dX6_tellingPattern_43 (i := 1) rfl rfl ?_
          refine a_get C fl_RX6_119 (i := p1) hp1.1.1 (hid _ hp1.1.2) (v := .ref (ad (p1 + 4))) rfl dX6_tellingPattern_44 ?_
          refine a_iload_n C dX6_tellingPattern_47 (i := 2) rfl rfl ?_
          refine p_aaldH C (t := p1) hp1 hid dX6_tellingPattern_48 h (fun hr8 h => ?_)
          refine a_iconst C dX6_tellingPattern_49 (v := 0) rfl ?_
          refine a_aload_n C dX6_tellingPattern_50 (i := 0) rfl rfl ?_
          refine a_get C fl_RX6_67 (i := 1) kd_1 (hid 1 (by decide)) (v := .int (σ6.1 1 7)) rfl dX6_tellingPattern_51 ?_
          refine p_iastc C (i := (p1 + 5 + z1.toInt.toNat)) 0 hr8.1 hid (by decide) (show 0 < al (p1 + 5 + z1.toInt.toNat) by have := hr8.2; omega) dX6_tellingPattern_54 h (fun σ9 h => ?_)
          refine a_iconst C dX6_tellingPattern_55 (v := 1) rfl ?_
          refine a_istore_n C dX6_tellingPattern_56 (i := 3) rfl (by decide) rfl (vs1 := [some (.ref (ad 1)), some (.ref (ad p1)), some (.int z1), some (.int 1)]) rfl ?_
          exact j57 _ _ _ _ h
        ·
          refine a_iconst C dX6_tellingPattern_41 (v := 0) rfl ?_
          exact a_iret Rt dX6_tellingPattern_42 (nar_z (by decide)).1 (ret_eq (h.trans (congrArg some hR.symm)))
  ·
    refine a_aload_n C dX6_tellingPattern_10 (i := 0) rfl rfl ?_
    refine a_iconst C dX6_tellingPattern_11 (v := 2) rfl ?_
    refine p_callVi C (As := [.int 2]) (i := 1) kd_1 (hid 1 (by decide)) ⟨_, _, rfl⟩ (by decide) h (fun _ _ e => Z_X6_refuse hid e) mi_X6_refuse ml_RX6_60 rfl rfl (Nat.le_of_ble_eq_true rfl) (Nat.le_of_ble_eq_true rfl) (Nat.le_of_ble_eq_true rfl) dX6_tellingPattern_12 (fun r11 σ10 h => ?_)
    refine ite_n h (fun c h => ?_)
    exact a_iret Rt dX6_tellingPattern_15 (nar_z c).1 (ret_eq (h.trans (congrArg some hR.symm)))
set_option maxHeartbeats 4000000 in
set_option maxRecDepth 100000 in
theorem Z_X6_tellingThing {l : Launch} {D : va_G} {ids : List Nat} {ad : Nat → Nat} {ca : Nat → ClassId} {σ : HS} {p1 : Nat} {r0 : Int32} {s0 : HS} (hid : ∀ i, i < 277 → i ∈ ids) (hp1 : txtOK p1) (h : f_X6_tellingThing p1 σ = some (r0, s0)) : Ki l D ids ad ca yX6_tellingThing cX6_tellingThing 3 .boolean 3 66 [.ref (ad 1), .ref (ad p1)] σ (fun r σ1 => r = r0 ∧ σ1 = s0) := by
  obtain ⟨R, hR⟩ : ∃ R, (r0, s0) = R := ⟨_, rfl⟩
  replace h := h.trans (congrArg some hR)
  refine Ki.of (by decide) (Nat.le_of_ble_eq_true rfl) 1 (fun Γ C Rt => ?_)
  show AW ids ad ca Γ 0 [some (.ref (ad 1)), some (.ref (ad p1)), none] [] σ
  unfold f_X6_tellingThing at h
  refine a_aload_n C dX6_tellingThing_0 (i := 1) rfl rfl ?_
  refine a_get C fl_RX6_100 (i := p1) hp1.1.1 (hid _ hp1.1.2) (v := .int (σ.1 p1 0)) rfl dX6_tellingThing_1 ?_
  refine p_istore_n C (fun z1 => [some (.ref (ad 1)), some (.ref (ad p1)), some (.int z1)]) dX6_tellingThing_4 (i := 2) rfl (by decide) rfl (fun _ => rfl) h (fun z1 h => ?_)
  refine a_iload_n C dX6_tellingThing_5 (i := 2) rfl rfl ?_
  refine a_bipush C dX6_tellingThing_6 (v := 7) rfl ?_
  refine p_ic_lt C (X := z1.toInt) (Y := 7) rfl (by decide) dX6_tellingThing_8 (tgt := 17) rfl h (fun h => ?_) (fun h => ?_)
  ·
    refine a_aload_n C dX6_tellingThing_17 (i := 0) rfl rfl ?_
    refine a_iconst C dX6_tellingThing_18 (v := 0) rfl ?_
    refine p_callVi C (As := [.int 0]) (i := 1) kd_1 (hid 1 (by decide)) ⟨_, _, rfl⟩ (by decide) h (fun _ _ e => Z_X6_take hid e) mi_X6_take ml_RX6_77 rfl rfl (Nat.le_of_ble_eq_true rfl) (Nat.le_of_ble_eq_true rfl) (Nat.le_of_ble_eq_true rfl) dX6_tellingThing_19 (fun r3 σ2 h => ?_)
    refine p_if_eq C (X := r3.toInt) rfl dX6_tellingThing_22 (tgt := 42) rfl h (fun h => ?_) (fun h => ?_)
    ·
      refine a_iconst C dX6_tellingThing_42 (v := 0) rfl ?_
      exact a_iret Rt dX6_tellingThing_43 (nar_z (by decide)).1 (ret_eq (h.trans (congrArg some hR.symm)))
    ·
      refine a_aload_n C dX6_tellingThing_25 (i := 0) rfl rfl ?_
      refine p_callVi C (As := []) (i := 1) kd_1 (hid 1 (by decide)) ⟨_, _, rfl⟩ (by decide) h (fun _ _ e => Z_X6_takeName hid e) mi_X6_takeName ml_RX6_103 rfl rfl (Nat.le_of_ble_eq_true rfl) (Nat.le_of_ble_eq_true rfl) (Nat.le_of_ble_eq_true rfl) dX6_tellingThing_26 (fun r5 σ4 h => ?_)
      refine p_if_eq C (X := r5.toInt) rfl dX6_tellingThing_29 (tgt := 42) rfl h (fun h => ?_) (fun h => ?_)
      ·
        refine a_iconst C dX6_tellingThing_42 (v := 0) rfl ?_
        exact a_iret Rt dX6_tellingThing_43 (nar_z (by decide)).1 (ret_eq (h.trans (congrArg some hR.symm)))
      ·
        refine a_aload_n C dX6_tellingThing_32 (i := 0) rfl rfl ?_
        refine a_iconst C dX6_tellingThing_33 (v := 1) rfl ?_
        refine a_bipush C dX6_tellingThing_34 (v := 9) rfl ?_
        refine p_callVi C (As := [.int 1, .int 9]) (i := 1) kd_1 (hid 1 (by decide)) ⟨_, _, rfl⟩ (by decide) h (fun _ _ e => Z_X6_takeNumber hid e) mi_X6_takeNumber ml_RX6_90 rfl rfl (Nat.le_of_ble_eq_true rfl) (Nat.le_of_ble_eq_true rfl) (Nat.le_of_ble_eq_true rfl) dX6_tellingThing_36 (fun r7 σ6 h => ?_)
        refine p_if_ne C (X := r7.toInt) rfl dX6_tellingThing_39 (tgt := 44) rfl h (fun h => ?_) (fun h => ?_)
        ·
          refine a_aload_n C dX6_tellingThing_44 (i := 1) rfl rfl ?_
          refine a_get C fl_RX6_107 (i := p1) hp1.1.1 (hid _ hp1.1.2) (v := .ref (ad (p1 + 1))) rfl dX6_tellingThing_45 ?_
          refine a_iload_n C dX6_tellingThing_48 (i := 2) rfl rfl ?_
          refine a_aload_n C dX6_tellingThing_49 (i := 0) rfl rfl ?_
          refine a_get C fl_RX6_67 (i := 1) kd_1 (hid 1 (by decide)) (v := .int (σ6.1 1 7)) rfl dX6_tellingThing_50 ?_
          refine p_iast C (i := (p1 + 1)) hp1.2.1.1 hid (by rw [hp1.2.1.2]; rfl) dX6_tellingThing_53 h (fun σ8 h => ?_)
          refine a_aload_n C dX6_tellingThing_54 (i := 0) rfl rfl ?_
          refine a_iconst C dX6_tellingThing_55 (v := 0) rfl ?_
          refine a_bipush C dX6_tellingThing_56 (v := 9) rfl ?_
          refine p_callVi C (As := [.int 0, .int 9]) (i := 1) kd_1 (hid 1 (by decide)) ⟨_, _, rfl⟩ (by decide) h (fun _ _ e => Z_X6_takeNumber hid e) mi_X6_takeNumber ml_RX6_90 rfl rfl (Nat.le_of_ble_eq_true rfl) (Nat.le_of_ble_eq_true rfl) (Nat.le_of_ble_eq_true rfl) dX6_tellingThing_58 (fun r10 σ9 h => ?_)
          refine p_if_ne C (X := r10.toInt) rfl dX6_tellingThing_61 (tgt := 66) rfl h (fun h => ?_) (fun h => ?_)
          ·
            refine a_aload_n C dX6_tellingThing_66 (i := 1) rfl rfl ?_
            refine a_get C fl_RX6_110 (i := p1) hp1.1.1 (hid _ hp1.1.2) (v := .ref (ad (p1 + 2))) rfl dX6_tellingThing_67 ?_
            refine a_iload_n C dX6_tellingThing_70 (i := 2) rfl rfl ?_
            refine a_aload_n C dX6_tellingThing_71 (i := 0) rfl rfl ?_
            refine a_get C fl_RX6_67 (i := 1) kd_1 (hid 1 (by decide)) (v := .int (σ9.1 1 7)) rfl dX6_tellingThing_72 ?_
            refine p_iast C (i := (p1 + 2)) hp1.2.2.1.1 hid (by rw [hp1.2.2.1.2]; rfl) dX6_tellingThing_75 h (fun σ11 h => ?_)
            refine a_aload_n C dX6_tellingThing_76 (i := 0) rfl rfl ?_
            refine a_iconst C dX6_tellingThing_77 (v := 0) rfl ?_
            refine a_bipush C dX6_tellingThing_78 (v := 9) rfl ?_
            refine p_callVi C (As := [.int 0, .int 9]) (i := 1) kd_1 (hid 1 (by decide)) ⟨_, _, rfl⟩ (by decide) h (fun _ _ e => Z_X6_takeNumber hid e) mi_X6_takeNumber ml_RX6_90 rfl rfl (Nat.le_of_ble_eq_true rfl) (Nat.le_of_ble_eq_true rfl) (Nat.le_of_ble_eq_true rfl) dX6_tellingThing_80 (fun r13 σ12 h => ?_)
            refine p_if_ne C (X := r13.toInt) rfl dX6_tellingThing_83 (tgt := 88) rfl h (fun h => ?_) (fun h => ?_)
            ·
              refine a_aload_n C dX6_tellingThing_88 (i := 1) rfl rfl ?_
              refine a_get C fl_RX6_113 (i := p1) hp1.1.1 (hid _ hp1.1.2) (v := .ref (ad (p1 + 3))) rfl dX6_tellingThing_89 ?_
              refine a_iload_n C dX6_tellingThing_92 (i := 2) rfl rfl ?_
              refine a_aload_n C dX6_tellingThing_93 (i := 0) rfl rfl ?_
              refine a_get C fl_RX6_67 (i := 1) kd_1 (hid 1 (by decide)) (v := .int (σ12.1 1 7)) rfl dX6_tellingThing_94 ?_
              refine p_iast C (i := (p1 + 3)) hp1.2.2.2.1.1 hid (by rw [hp1.2.2.2.1.2]; rfl) dX6_tellingThing_97 h (fun σ14 h => ?_)
              refine a_aload_n C dX6_tellingThing_98 (i := 1) rfl rfl ?_
              refine a_dup C dX6_tellingThing_99 rfl ?_
              refine a_get C fl_RX6_100 (i := p1) hp1.1.1 (hid _ hp1.1.2) (v := .int (σ14.1 p1 0)) rfl dX6_tellingThing_100 ?_
              refine a_iconst C dX6_tellingThing_103 (v := 1) rfl ?_
              refine a_iadd C dX6_tellingThing_104 ?_
              refine p_put C fp_RX6_100 (i := p1) hp1.1.1 (hid _ hp1.1.2) rfl rfl dX6_tellingThing_105 h (fun σ15 h => ?_)
              refine a_aload_n C dX6_tellingThing_108 (i := 0) rfl rfl ?_
              refine a_bipush C dX6_tellingThing_109 (v := 59) rfl ?_
              refine p_callVi C (As := [.int 59]) (i := 1) kd_1 (hid 1 (by decide)) ⟨_, _, rfl⟩ (by decide) h (fun _ _ e => Z_X6_take hid e) mi_X6_take ml_RX6_77 rfl rfl (Nat.le_of_ble_eq_true rfl) (Nat.le_of_ble_eq_true rfl) (Nat.le_of_ble_eq_true rfl) dX6_tellingThing_111 (fun r17 σ16 h => ?_)
              refine ite_n h (fun c h => ?_)
              exact a_iret Rt dX6_tellingThing_114 (nar_z c).1 (ret_eq (h.trans (congrArg some hR.symm)))
            ·
              refine a_iconst C dX6_tellingThing_86 (v := 0) rfl ?_
              exact a_iret Rt dX6_tellingThing_87 (nar_z (by decide)).1 (ret_eq (h.trans (congrArg some hR.symm)))
          ·
            refine a_iconst C dX6_tellingThing_64 (v := 0) rfl ?_
            exact a_iret Rt dX6_tellingThing_65 (nar_z (by decide)).1 (ret_eq (h.trans (congrArg some hR.symm)))
        ·
          refine a_iconst C dX6_tellingThing_42 (v := 0) rfl ?_
          exact a_iret Rt dX6_tellingThing_43 (nar_z (by decide)).1 (ret_eq (h.trans (congrArg some hR.symm)))
  ·
    refine a_aload_n C dX6_tellingThing_11 (i := 0) rfl rfl ?_
    refine a_iconst C dX6_tellingThing_12 (v := 2) rfl ?_
    refine p_callVi C (As := [.int 2]) (i := 1) kd_1 (hid 1 (by decide)) ⟨_, _, rfl⟩ (by decide) h (fun _ _ e => Z_X6_refuse hid e) mi_X6_refuse ml_RX6_60 rfl rfl (Nat.le_of_ble_eq_true rfl) (Nat.le_of_ble_eq_true rfl) (Nat.le_of_ble_eq_true rfl) dX6_tellingThing_13 (fun r19 σ18 h => ?_)
    refine ite_n h (fun c h => ?_)
    exact a_iret Rt dX6_tellingThing_16 (nar_z c).1 (ret_eq (h.trans (congrArg some hR.symm)))
set_option maxHeartbeats 4000000 in
set_option maxRecDepth 100000 in
theorem Z_X6_telling {l : Launch} {D : va_G} {ids : List Nat} {ad : Nat → Nat} {ca : Nat → ClassId} {σ : HS} {p1 : Nat} {r0 : Int32} {s0 : HS} (hid : ∀ i, i < 277 → i ∈ ids) (hp1 : txtOK p1) (h : f_X6_telling p1 σ = some (r0, s0)) : Ki l D ids ad ca yX6_telling cX6_telling 3 .boolean 35 790 [.ref (ad 1), .ref (ad p1)] σ (fun r σ1 => r = r0 ∧ σ1 = s0) := by
  obtain ⟨R, hR⟩ : ∃ R, (r0, s0) = R := ⟨_, rfl⟩
  replace h := h.trans (congrArg some hR)
  refine Ki.of (by decide) (Nat.le_of_ble_eq_true rfl) 1 (fun Γ C Rt => ?_)
  show AW ids ad ca Γ 0 [some (.ref (ad 1)), some (.ref (ad p1)), none] [] σ
  unfold f_X6_telling at h
  have j148 : ∀ (v0 : Int32) (σ : HS), f_X6_telling_148 p1 v0 σ = some R → AW ids ad ca Γ 148 [some (.ref (ad 1)), some (.ref (ad p1)), none] [.int v0] σ := by
    intro v0 σ h
    unfold f_X6_telling_148 at h
    refine a_istore_n C dX6_telling_148 (i := 2) rfl (by decide) rfl (vs1 := [some (.ref (ad 1)), some (.ref (ad p1)), some (.int v0)]) rfl ?_
    refine a_aload_n C dX6_telling_149 (i := 1) rfl rfl ?_
    refine a_aload_n C dX6_telling_150 (i := 0) rfl rfl ?_
    refine a_get C fl_RX6_67 (i := 1) kd_1 (hid 1 (by decide)) (v := .int (σ.1 1 7)) rfl dX6_telling_151 ?_
    refine p_put C fp_RX6_97 (i := p1) hp1.1.1 (hid _ hp1.1.2) rfl rfl dX6_telling_154 h (fun σ1 h => ?_)
    refine a_iload_n C dX6_telling_157 (i := 2) rfl rfl ?_
    refine p_if_eq C (X := v0.toInt) rfl dX6_telling_158 (tgt := 174) rfl h (fun h => ?_) (fun h => ?_)
    ·
      refine a_iconst C dX6_telling_174 (v := 0) rfl ?_
      exact a_iret Rt dX6_telling_175 (nar_z (by decide)).1 (ret_eq (h.trans (congrArg some hR.symm)))
    ·
      refine a_aload_n C dX6_telling_161 (i := 0) rfl rfl ?_
      refine a_bipush C dX6_telling_162 (v := 59) rfl ?_
      refine p_callVi C (As := [.int 59]) (i := 1) kd_1 (hid 1 (by decide)) ⟨_, _, rfl⟩ (by decide) h (fun _ _ e => Z_X6_take hid e) mi_X6_take ml_RX6_77 rfl rfl (Nat.le_of_ble_eq_true rfl) (Nat.le_of_ble_eq_true rfl) (Nat.le_of_ble_eq_true rfl) dX6_telling_164 (fun r3 σ2 h => ?_)
      refine p_if_eq C (X := r3.toInt) rfl dX6_telling_167 (tgt := 174) rfl h (fun h => ?_) (fun h => ?_)
      ·
        refine a_iconst C dX6_telling_174 (v := 0) rfl ?_
        exact a_iret Rt dX6_telling_175 (nar_z (by decide)).1 (ret_eq (h.trans (congrArg some hR.symm)))
      ·
        refine a_iconst C dX6_telling_170 (v := 1) rfl ?_
        refine a_goto C dX6_telling_171 (tgt := 175) rfl ?_
        exact a_iret Rt dX6_telling_175 (nar_z (by decide)).1 (ret_eq (h.trans (congrArg some hR.symm)))
  have j147 : ∀ (σ : HS), f_X6_telling_147 p1 σ = some R → AW ids ad ca Γ 147 [some (.ref (ad 1)), some (.ref (ad p1)), none] [] σ := by
    intro σ h
    unfold f_X6_telling_147 at h
    refine a_iconst C dX6_telling_147 (v := 0) rfl ?_
    exact j148 _ _ h
  have j86 : ∀ (v0 : Int32) (σ : HS), f_X6_telling_86 p1 v0 σ = some R → AW ids ad ca Γ 86 [some (.ref (ad 1)), some (.ref (ad p1)), none] [.int v0] σ := by
    intro v0 σ h
    unfold f_X6_telling_86 at h
    refine a_istore_n C dX6_telling_86 (i := 2) rfl (by decide) rfl (vs1 := [some (.ref (ad 1)), some (.ref (ad p1)), some (.int v0)]) rfl ?_
    refine a_aload_n C dX6_telling_87 (i := 1) rfl rfl ?_
    refine a_aload_n C dX6_telling_88 (i := 0) rfl rfl ?_
    refine a_get C fl_RX6_67 (i := 1) kd_1 (hid 1 (by decide)) (v := .int (σ.1 1 7)) rfl dX6_telling_89 ?_
    refine p_put C fp_RX6_94 (i := p1) hp1.1.1 (hid _ hp1.1.2) rfl rfl dX6_telling_92 h (fun σ1 h => ?_)
    refine a_iload_n C dX6_telling_95 (i := 2) rfl rfl ?_
    refine p_if_eq C (X := v0.toInt) rfl dX6_telling_96 (tgt := 112) rfl h (fun h => ?_) (fun h => ?_)
    ·
      refine a_iconst C dX6_telling_112 (v := 0) rfl ?_
      exact a_iret Rt dX6_telling_113 (nar_z (by decide)).1 (ret_eq (h.trans (congrArg some hR.symm)))
    ·
      refine a_aload_n C dX6_telling_99 (i := 0) rfl rfl ?_
      refine a_bipush C dX6_telling_100 (v := 59) rfl ?_
      refine p_callVi C (As := [.int 59]) (i := 1) kd_1 (hid 1 (by decide)) ⟨_, _, rfl⟩ (by decide) h (fun _ _ e => Z_X6_take hid e) mi_X6_take ml_RX6_77 rfl rfl (Nat.le_of_ble_eq_true rfl) (Nat.le_of_ble_eq_true rfl) (Nat.le_of_ble_eq_true rfl) dX6_telling_102 (fun r3 σ2 h => ?_)
      refine p_if_eq C (X := r3.toInt) rfl dX6_telling_105 (tgt := 112) rfl h (fun h => ?_) (fun h => ?_)
      ·
        refine a_iconst C dX6_telling_112 (v := 0) rfl ?_
        exact a_iret Rt dX6_telling_113 (nar_z (by decide)).1 (ret_eq (h.trans (congrArg some hR.symm)))
      ·
        refine a_iconst C dX6_telling_108 (v := 1) rfl ?_
        refine a_goto C dX6_telling_109 (tgt := 113) rfl ?_
        exact a_iret Rt dX6_telling_113 (nar_z (by decide)).1 (ret_eq (h.trans (congrArg some hR.symm)))
  have j85 : ∀ (σ : HS), f_X6_telling_85 p1 σ = some R → AW ids ad ca Γ 85 [some (.ref (ad 1)), some (.ref (ad p1)), none] [] σ := by
    intro σ h
    unfold f_X6_telling_85 at h
    refine a_iconst C dX6_telling_85 (v := 0) rfl ?_
    exact j86 _ _ h
  have j53 : ∀ (σ : HS), f_X6_telling_53 p1 σ = some R → AW ids ad ca Γ 53 [some (.ref (ad 1)), some (.ref (ad p1)), none] [] σ := by
    intro σ h
    unfold f_X6_telling_53 at h
    refine a_aload_n C dX6_telling_53 (i := 0) rfl rfl ?_
    refine a_get C fl_RX6_53 (i := 1) kd_1 (hid 1 (by decide)) (v := .int (σ.1 1 6)) rfl dX6_telling_54 ?_
    refine a_bipush C dX6_telling_57 (v := 6) rfl ?_
    refine p_ic_ne C (X := (σ.1 1 6).toInt) (Y := 6) rfl (by decide) dX6_telling_59 (tgt := 114) rfl h (fun h => ?_) (fun h => ?_)
    ·
      refine a_aload_n C dX6_telling_114 (i := 0) rfl rfl ?_
      refine a_get C fl_RX6_53 (i := 1) kd_1 (hid 1 (by decide)) (v := .int (σ.1 1 6)) rfl dX6_telling_115 ?_
      refine a_bipush C dX6_telling_118 (v := 7) rfl ?_
      refine p_ic_ne C (X := (σ.1 1 6).toInt) (Y := 7) rfl (by decide) dX6_telling_120 (tgt := 176) rfl h (fun h => ?_) (fun h => ?_)
      ·
        refine a_aload_n C dX6_telling_176 (i := 0) rfl rfl ?_
        refine a_iconst C dX6_telling_177 (v := 1) rfl ?_
        refine p_callVi C (As := [.int 1]) (i := 1) kd_1 (hid 1 (by decide)) ⟨_, _, rfl⟩ (by decide) h (fun _ _ e => Z_X6_refuse hid e) mi_X6_refuse ml_RX6_60 rfl rfl (Nat.le_of_ble_eq_true rfl) (Nat.le_of_ble_eq_true rfl) (Nat.le_of_ble_eq_true rfl) dX6_telling_178 (fun r2 σ1 h => ?_)
        refine ite_n h (fun c h => ?_)
        exact a_iret Rt dX6_telling_181 (nar_z c).1 (ret_eq (h.trans (congrArg some hR.symm)))
      ·
        refine a_aload_n C dX6_telling_123 (i := 0) rfl rfl ?_
        refine a_bipush C dX6_telling_124 (v := 7) rfl ?_
        refine p_callVi C (As := [.int 7]) (i := 1) kd_1 (hid 1 (by decide)) ⟨_, _, rfl⟩ (by decide) h (fun _ _ e => Z_X6_take hid e) mi_X6_take ml_RX6_77 rfl rfl (Nat.le_of_ble_eq_true rfl) (Nat.le_of_ble_eq_true rfl) (Nat.le_of_ble_eq_true rfl) dX6_telling_126 (fun r4 σ3 h => ?_)
        refine p_if_eq C (X := r4.toInt) rfl dX6_telling_129 (tgt := 147) rfl h (fun h => ?_) (fun h => ?_)
        ·
          exact j147 _ h
        ·
          refine a_aload_n C dX6_telling_132 (i := 0) rfl rfl ?_
          refine a_iconst C dX6_telling_133 (v := 0) rfl ?_
          refine a_sipush C dX6_telling_134 (v := 9999) rfl ?_
          refine p_callVi C (As := [.int 0, .int 9999]) (i := 1) kd_1 (hid 1 (by decide)) ⟨_, _, rfl⟩ (by decide) h (fun _ _ e => Z_X6_takeNumber hid e) mi_X6_takeNumber ml_RX6_90 rfl rfl (Nat.le_of_ble_eq_true rfl) (Nat.le_of_ble_eq_true rfl) (Nat.le_of_ble_eq_true rfl) dX6_telling_137 (fun r6 σ5 h => ?_)
          refine p_if_eq C (X := r6.toInt) rfl dX6_telling_140 (tgt := 147) rfl h (fun h => ?_) (fun h => ?_)
          ·
            exact j147 _ h
          ·
            refine a_iconst C dX6_telling_143 (v := 1) rfl ?_
            refine a_goto C dX6_telling_144 (tgt := 148) rfl ?_
            exact j148 _ _ h
    ·
      refine a_aload_n C dX6_telling_62 (i := 0) rfl rfl ?_
      refine a_bipush C dX6_telling_63 (v := 6) rfl ?_
      refine p_callVi C (As := [.int 6]) (i := 1) kd_1 (hid 1 (by decide)) ⟨_, _, rfl⟩ (by decide) h (fun _ _ e => Z_X6_take hid e) mi_X6_take ml_RX6_77 rfl rfl (Nat.le_of_ble_eq_true rfl) (Nat.le_of_ble_eq_true rfl) (Nat.le_of_ble_eq_true rfl) dX6_telling_65 (fun r8 σ7 h => ?_)
      refine p_if_eq C (X := r8.toInt) rfl dX6_telling_68 (tgt := 85) rfl h (fun h => ?_) (fun h => ?_)
      ·
        exact j85 _ h
      ·
        refine a_aload_n C dX6_telling_71 (i := 0) rfl rfl ?_
        refine a_iconst C dX6_telling_72 (v := 0) rfl ?_
        refine a_bipush C dX6_telling_73 (v := 99) rfl ?_
        refine p_callVi C (As := [.int 0, .int 99]) (i := 1) kd_1 (hid 1 (by decide)) ⟨_, _, rfl⟩ (by decide) h (fun _ _ e => Z_X6_takeNumber hid e) mi_X6_takeNumber ml_RX6_90 rfl rfl (Nat.le_of_ble_eq_true rfl) (Nat.le_of_ble_eq_true rfl) (Nat.le_of_ble_eq_true rfl) dX6_telling_75 (fun r10 σ9 h => ?_)
        refine p_if_eq C (X := r10.toInt) rfl dX6_telling_78 (tgt := 85) rfl h (fun h => ?_) (fun h => ?_)
        ·
          exact j85 _ h
        ·
          refine a_iconst C dX6_telling_81 (v := 1) rfl ?_
          refine a_goto C dX6_telling_82 (tgt := 86) rfl ?_
          exact j86 _ _ h
  refine a_aload_n C dX6_telling_0 (i := 0) rfl rfl ?_
  refine a_get C fl_RX6_53 (i := 1) kd_1 (hid 1 (by decide)) (v := .int (σ.1 1 6)) rfl dX6_telling_1 ?_
  refine p_if_ne C (X := (σ.1 1 6).toInt) rfl dX6_telling_4 (tgt := 13) rfl h (fun h => ?_) (fun h => ?_)
  ·
    refine a_aload_n C dX6_telling_13 (i := 0) rfl rfl ?_
    refine a_get C fl_RX6_53 (i := 1) kd_1 (hid 1 (by decide)) (v := .int (σ.1 1 6)) rfl dX6_telling_14 ?_
    refine a_iconst C dX6_telling_17 (v := 1) rfl ?_
    refine p_ic_ne C (X := (σ.1 1 6).toInt) (Y := 1) rfl (by decide) dX6_telling_18 (tgt := 27) rfl h (fun h => ?_) (fun h => ?_)
    ·
      refine a_aload_n C dX6_telling_27 (i := 0) rfl rfl ?_
      refine a_get C fl_RX6_53 (i := 1) kd_1 (hid 1 (by decide)) (v := .int (σ.1 1 6)) rfl dX6_telling_28 ?_
      refine a_iconst C dX6_telling_31 (v := 2) rfl ?_
      refine p_ic_lt C (X := (σ.1 1 6).toInt) (Y := 2) rfl (by decide) dX6_telling_32 (tgt := 53) rfl h (fun h => ?_) (fun h => ?_)
      ·
        exact j53 _ h
      ·
        refine a_aload_n C dX6_telling_35 (i := 0) rfl rfl ?_
        refine a_get C fl_RX6_53 (i := 1) kd_1 (hid 1 (by decide)) (v := .int (σ.1 1 6)) rfl dX6_telling_36 ?_
        refine a_iconst C dX6_telling_39 (v := 5) rfl ?_
        refine p_ic_gt C (X := (σ.1 1 6).toInt) (Y := 5) rfl (by decide) dX6_telling_40 (tgt := 53) rfl h (fun h => ?_) (fun h => ?_)
        ·
          exact j53 _ h
        ·
          refine a_aload_n C dX6_telling_43 (i := 0) rfl rfl ?_
          refine a_aload_n C dX6_telling_44 (i := 1) rfl rfl ?_
          refine a_aload_n C dX6_telling_45 (i := 0) rfl rfl ?_
          refine a_get C fl_RX6_53 (i := 1) kd_1 (hid 1 (by decide)) (v := .int (σ.1 1 6)) rfl dX6_telling_46 ?_
          refine p_callVi C (As := [.ref (ad p1), .int (σ.1 1 6)]) (i := 1) kd_1 (hid 1 (by decide)) ⟨_, _, rfl⟩ (by decide) h (fun _ _ e => Z_X6_tellingLaw hid hp1 e) mi_X6_tellingLaw ml_RX6_86 rfl rfl (Nat.le_of_ble_eq_true rfl) (Nat.le_of_ble_eq_true rfl) (Nat.le_of_ble_eq_true rfl) dX6_telling_49 (fun r2 σ1 h => ?_)
          refine ite_n h (fun c h => ?_)
          exact a_iret Rt dX6_telling_52 (nar_z c).1 (ret_eq (h.trans (congrArg some hR.symm)))
    ·
      refine a_aload_n C dX6_telling_21 (i := 0) rfl rfl ?_
      refine a_aload_n C dX6_telling_22 (i := 1) rfl rfl ?_
      refine p_callVi C (As := [.ref (ad p1)]) (i := 1) kd_1 (hid 1 (by decide)) ⟨_, _, rfl⟩ (by decide) h (fun _ _ e => Z_X6_tellingPattern hid hp1 e) mi_X6_tellingPattern ml_RX6_83 rfl rfl (Nat.le_of_ble_eq_true rfl) (Nat.le_of_ble_eq_true rfl) (Nat.le_of_ble_eq_true rfl) dX6_telling_23 (fun r4 σ3 h => ?_)
      refine ite_n h (fun c h => ?_)
      exact a_iret Rt dX6_telling_26 (nar_z c).1 (ret_eq (h.trans (congrArg some hR.symm)))
  ·
    refine a_aload_n C dX6_telling_7 (i := 0) rfl rfl ?_
    refine a_aload_n C dX6_telling_8 (i := 1) rfl rfl ?_
    refine p_callVi C (As := [.ref (ad p1)]) (i := 1) kd_1 (hid 1 (by decide)) ⟨_, _, rfl⟩ (by decide) h (fun _ _ e => Z_X6_tellingThing hid hp1 e) mi_X6_tellingThing ml_RX6_80 rfl rfl (Nat.le_of_ble_eq_true rfl) (Nat.le_of_ble_eq_true rfl) (Nat.le_of_ble_eq_true rfl) dX6_telling_9 (fun r6 σ5 h => ?_)
    refine ite_n h (fun c h => ?_)
    exact a_iret Rt dX6_telling_12 (nar_z c).1 (ret_eq (h.trans (congrArg some hR.symm)))
set_option maxHeartbeats 4000000 in
set_option maxRecDepth 100000 in
theorem Z_X6_readInto {l : Launch} {D : va_G} {ids : List Nat} {ad : Nat → Nat} {ca : Nat → ClassId} {K : (Nat → Nat) × (Nat → Nat)} {σ : HS} {p1 : Nat} {r0 : Int32} {s0 : HS} (hid : ∀ i, i < 277 → i ∈ ids) (hp1 : txtOK p1) (h : f_X6_readInto p1 σ = some (r0, s0)) : KiS l D ids ad ca K yX6_readInto cX6_readInto 4 .int 36 812 [.ref (ad 1), .ref (ad p1)] σ (fun r σ1 => r = r0 ∧ σ1 = s0) := by
  obtain ⟨R, hR⟩ : ∃ R, (r0, s0) = R := ⟨_, rfl⟩
  replace h := h.trans (congrArg some hR)
  refine KiS.of (by decide) (Nat.le_of_ble_eq_true rfl) 2 (fun Γ C E Rt => ?_)
  show AW ids ad ca Γ 0 [some (.ref (ad 1)), some (.ref (ad p1)), none, none] [] σ
  unfold f_X6_readInto at h
  have j120 : ∀ (σ : HS), f_X6_readInto_120 p1 σ = some R → AW ids ad ca Γ 120 [some (.ref (ad 1)), none, none, none] [] σ := by
    intro σ h
    unfold f_X6_readInto_120 at h
    refine a_aload_n C dX6_readInto_120 (i := 0) rfl rfl ?_
    refine a_get C fl_RX6_34 (i := 1) kd_1 (hid 1 (by decide)) (v := .int (σ.1 1 2)) rfl dX6_readInto_121 ?_
    exact a_iret Rt dX6_readInto_124 rfl (ret_eq (h.trans (congrArg some hR.symm)))
  have j90 : ∀ (σ : HS), f_X6_readInto_90 p1 σ = some R → AW ids ad ca Γ 90 [some (.ref (ad 1)), none, none, none] [] σ := by
    intro σ h
    unfold f_X6_readInto_90 at h
    refine a_aload_n C dX6_readInto_90 (i := 0) rfl rfl ?_
    refine a_get C fl_RX6_34 (i := 1) kd_1 (hid 1 (by decide)) (v := .int (σ.1 1 2)) rfl dX6_readInto_91 ?_
    refine p_if_ne C (X := (σ.1 1 2).toInt) rfl dX6_readInto_94 (tgt := 120) rfl h (fun h => ?_) (fun h => ?_)
    ·
      exact j120 _ h
    ·
      refine a_aload_n C dX6_readInto_97 (i := 0) rfl rfl ?_
      refine a_get C fl_RX6_37 (i := 1) kd_1 (hid 1 (by decide)) (v := .int (σ.1 1 3)) rfl dX6_readInto_98 ?_
      refine p_if_eq C (X := (σ.1 1 3).toInt) rfl dX6_readInto_101 (tgt := 120) rfl h (fun h => ?_) (fun h => ?_)
      ·
        exact j120 _ h
      ·
        refine a_aload_n C dX6_readInto_104 (i := 0) rfl rfl ?_
        refine a_aload_n C dX6_readInto_105 (i := 0) rfl rfl ?_
        refine a_get C fl_RX6_37 (i := 1) kd_1 (hid 1 (by decide)) (v := .int (σ.1 1 3)) rfl dX6_readInto_106 ?_
        refine p_put C fp_RX6_34 (i := 1) kd_1 (hid 1 (by decide)) rfl rfl dX6_readInto_109 h (fun σ1 h => ?_)
        refine a_aload_n C dX6_readInto_112 (i := 0) rfl rfl ?_
        refine a_aload_n C dX6_readInto_113 (i := 0) rfl rfl ?_
        refine a_get C fl_RX6_40 (i := 1) kd_1 (hid 1 (by decide)) (v := .int (σ1.1 1 4)) rfl dX6_readInto_114 ?_
        refine p_put C fp_RX6_18 (i := 1) kd_1 (hid 1 (by decide)) rfl rfl dX6_readInto_117 h (fun σ2 h => ?_)
        exact j120 _ h
  have j58 : ∀ (n : Nat) (y2 : Int32) (y3 : Int32) (σ : HS), f_X6_readInto_58 p1 n y2 y3 σ = some R → AW ids ad ca Γ 58 [some (.ref (ad 1)), some (.ref (ad p1)), some (.int y2), some (.int y3)] [] σ := by
    intro n
    induction n with
    | zero => intro y2 y3 σ h; exact nn h
    | succ n ih =>
      intro y2 y3 σ h
      have h : b_X6_readInto_58 p1 (f_X6_readInto_58 p1 n) y2 y3 σ = some R := h
      unfold b_X6_readInto_58 at h
      refine a_iload_n C dX6_readInto_58 (i := 2) rfl rfl ?_
      refine p_if_eq C (X := y2.toInt) rfl dX6_readInto_59 (tgt := 90) rfl h (fun h => ?_) (fun h => ?_)
      ·
        refine AW.sub (vs' := [some (.ref (ad 1)), none, none, none]) (lsub_of (by simp [lsubB])) ?_
        exact j90 _ h
      ·
        refine a_aload_n C dX6_readInto_62 (i := 0) rfl rfl ?_
        refine a_get C fl_RX6_53 (i := 1) kd_1 (hid 1 (by decide)) (v := .int (σ.1 1 6)) rfl dX6_readInto_63 ?_
        refine a_bipush C dX6_readInto_66 (v := 22) rfl ?_
        refine p_ic_eq C (X := (σ.1 1 6).toInt) (Y := 22) rfl (by decide) dX6_readInto_68 (tgt := 90) rfl h (fun h => ?_) (fun h => ?_)
        ·
          refine AW.sub (vs' := [some (.ref (ad 1)), none, none, none]) (lsub_of (by simp [lsubB])) ?_
          exact j90 _ h
        ·
          refine a_iload_n C dX6_readInto_71 (i := 3) rfl rfl ?_
          refine a_sipush C dX6_readInto_72 (v := 400) rfl ?_
          refine p_ic_gt C (X := y3.toInt) (Y := 400) rfl (by decide) dX6_readInto_75 (tgt := 90) rfl h (fun h => ?_) (fun h => ?_)
          ·
            refine AW.sub (vs' := [some (.ref (ad 1)), none, none, none]) (lsub_of (by simp [lsubB])) ?_
            exact j90 _ h
          ·
            refine a_aload_n C dX6_readInto_78 (i := 0) rfl rfl ?_
            refine a_aload_n C dX6_readInto_79 (i := 1) rfl rfl ?_
            refine p_callVi C (As := [.ref (ad p1)]) (i := 1) kd_1 (hid 1 (by decide)) ⟨_, _, rfl⟩ (by decide) h (fun _ _ e => Z_X6_telling hid hp1 e) mi_X6_telling ml_RX6_56 rfl rfl (Nat.le_of_ble_eq_true rfl) (Nat.le_of_ble_eq_true rfl) (Nat.le_of_ble_eq_true rfl) dX6_readInto_80 (fun r2 σ1 h => ?_)
            refine a_istore_n C dX6_readInto_83 (i := 2) rfl (by decide) rfl (vs1 := [some (.ref (ad 1)), some (.ref (ad p1)), some (.int r2), some (.int y3)]) rfl ?_
            refine p_iinc C (y := (y3 + 1)) (fun z3 => [some (.ref (ad 1)), some (.ref (ad p1)), some (.int r2), some (.int z3)]) dX6_readInto_84 rfl rfl (by decide) rfl (fun _ => rfl) h (fun z3 h => ?_)
            refine a_goto C dX6_readInto_87 (tgt := 58) rfl ?_
            exact ih _ _ _ h
  refine a_aload_n C dX6_readInto_0 (i := 1) rfl rfl ?_
  refine p_callVv C (As := []) (i := p1) hp1.1.1 (hid _ hp1.1.2) ⟨_, _, rfl⟩ (by decide) h (fun _ e => Z_X10_clear hid hp1 e) mi_X10_clear ml_RX6_26 rfl rfl (Nat.le_of_ble_eq_true rfl) (Nat.le_of_ble_eq_true rfl) (Nat.le_of_ble_eq_true rfl) dX6_readInto_1 (fun σ1 h => ?_)
  refine a_aload_n C dX6_readInto_4 (i := 0) rfl rfl ?_
  refine a_iconst C dX6_readInto_5 (v := 0) rfl ?_
  refine p_put C fp_RX6_31 (i := 1) kd_1 (hid 1 (by decide)) rfl rfl dX6_readInto_6 h (fun σ3 h => ?_)
  refine a_aload_n C dX6_readInto_9 (i := 0) rfl rfl ?_
  refine a_iconst C dX6_readInto_10 (v := 0) rfl ?_
  refine p_put C fp_RX6_34 (i := 1) kd_1 (hid 1 (by decide)) rfl rfl dX6_readInto_11 h (fun σ4 h => ?_)
  refine a_aload_n C dX6_readInto_14 (i := 0) rfl rfl ?_
  refine a_iconst C dX6_readInto_15 (v := (-1)) rfl ?_
  refine p_put C fp_RX6_18 (i := 1) kd_1 (hid 1 (by decide)) rfl rfl dX6_readInto_16 h (fun σ5 h => ?_)
  refine a_aload_n C dX6_readInto_19 (i := 0) rfl rfl ?_
  refine a_iconst C dX6_readInto_20 (v := 0) rfl ?_
  refine p_put C fp_RX6_37 (i := 1) kd_1 (hid 1 (by decide)) rfl rfl dX6_readInto_21 h (fun σ6 h => ?_)
  refine a_aload_n C dX6_readInto_24 (i := 0) rfl rfl ?_
  refine a_iconst C dX6_readInto_25 (v := (-1)) rfl ?_
  refine p_put C fp_RX6_40 (i := 1) kd_1 (hid 1 (by decide)) rfl rfl dX6_readInto_26 h (fun σ7 h => ?_)
  refine a_aload_n C dX6_readInto_29 (i := 0) rfl rfl ?_
  refine a_get C fl_RX6_12 (i := 1) kd_1 (hid 1 (by decide)) (v := .ref (ad 2)) rfl dX6_readInto_30 ?_
  refine p_cVvS C E (As := []) (i := 2) kd_2 (hid 2 (by decide)) ⟨_, _, rfl⟩ (by decide) h (fun _ e => Z_X9_cut hid e) mi_X9_cut ml_RX6_43 rfl rfl (Nat.le_of_ble_eq_true rfl) (Nat.le_of_ble_eq_true rfl) (Nat.le_of_ble_eq_true rfl) dX6_readInto_33 (fun σ8 h => ?_)
  refine a_aload_n C dX6_readInto_36 (i := 0) rfl rfl ?_
  refine a_iconst C dX6_readInto_37 (v := 0) rfl ?_
  refine p_put C fp_RX6_46 (i := 1) kd_1 (hid 1 (by decide)) rfl rfl dX6_readInto_38 h (fun σ10 h => ?_)
  refine a_aload_n C dX6_readInto_41 (i := 0) rfl rfl ?_
  refine a_aload_n C dX6_readInto_42 (i := 0) rfl rfl ?_
  refine a_get C fl_RX6_12 (i := 1) kd_1 (hid 1 (by decide)) (v := .ref (ad 2)) rfl dX6_readInto_43 ?_
  refine a_get C fl_RX6_49 (i := 2) kd_2 (hid 2 (by decide)) (v := .ref (ad 4)) rfl dX6_readInto_46 ?_
  refine a_iconst C dX6_readInto_49 (v := 0) rfl ?_
  refine p_ialdc C (i := 4) 0 (show rowOK 4 from ⟨kd_4, by decide⟩) hid (by decide) (by rw [al_4]; decide) dX6_readInto_50 ?_
  refine p_put C fp_RX6_53 (i := 1) kd_1 (hid 1 (by decide)) rfl rfl dX6_readInto_51 h (fun σ11 h => ?_)
  refine a_iconst C dX6_readInto_54 (v := 1) rfl ?_
  refine a_istore_n C dX6_readInto_55 (i := 2) rfl (by decide) rfl (vs1 := [some (.ref (ad 1)), some (.ref (ad p1)), some (.int 1), none]) rfl ?_
  refine a_iconst C dX6_readInto_56 (v := 0) rfl ?_
  refine a_istore_n C dX6_readInto_57 (i := 3) rfl (by decide) rfl (vs1 := [some (.ref (ad 1)), some (.ref (ad p1)), some (.int 1), some (.int 0)]) rfl ?_
  exact j58 _ _ _ _ h

