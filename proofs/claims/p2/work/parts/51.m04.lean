set_option maxHeartbeats 4000000 in
set_option maxRecDepth 100000 in
theorem S_X12_goes_236 {l : Launch} {D : va_G} {ids : List Nat} {ad : Nat → Nat} {ca : Nat → ClassId} {σ : HS} {x1 : Int32} (hid : ∀ i, i < 277 → i ∈ ids) (hG : GIm σ) {b : Int} (hR : RKm b σ) (hx1 : x1.toInt ≤ 60) (hp0 : (σ.1 267 21).toInt ≤ b + 200) : Kv l D ids ad ca yX12_goes cX12_goes 3 5 122 [.ref (ad 236), .int x1] σ (fun σ1 => (GIm σ1) ∧ (onm [264, 265, 267, 1046, 1051, 1052, 1053, 2021] σ σ1) ∧ (RKm b σ1) ∧ ((σ1.1 267 21).toInt ≤ (σ.1 267 21).toInt + 60)) := by
  refine Kv.of (by decide) (Nat.le_of_ble_eq_true rfl) 1 (fun Γ C Rt => ?_)
  show AW ids ad ca Γ 0 [some (.ref (ad 236)), some (.int x1), none] [] σ
  have j2 : ∀ (d2 : Nat) (σq2 : HS) (y2_2 : Int32), 60 - y2_2.toInt < d2 → GIm σq2 → onm [264, 265, 267, 1046, 1051, 1052, 1053, 2021] σ σq2 → RKm b σq2 → 0 ≤ y2_2.toInt ∧ y2_2.toInt ≤ 60 → ((σq2.1 267 21).toInt = (σ.1 267 21).toInt + y2_2.toInt) → AW ids ad ca Γ 2 [some (.ref (ad 236)), some (.int x1), some (.int y2_2)] [] σq2 := by
    intro d2
    induction d2 with
    | zero =>
      intro σq2 y2_2 hd2 hGq2 hoq2 hRq2 hx2_0 hx2_1
      exfalso
      omega
    | succ d2 ih2 =>
      intro σq2 y2_2 hd2 hGq2 hoq2 hRq2 hx2_0 hx2_1
      refine a_iload_n C dX12_goes_2 (i := 2) rfl rfl ?_
      refine a_iload_n C dX12_goes_3 (i := 1) rfl rfl ?_
      refine s_ic_ge C dX12_goes_4 (tgt := 17) rfl (fun c1 => ?_) (fun c1 => ?_)
      ·
        exact a_vret Rt dX12_goes_17 (⟨hGq2, hoq2, hRq2, (show (σq2.1 267 21).toInt ≤ (σ.1 267 21).toInt + 60 by intros; omega)⟩)
      ·
        refine a_aload_n C dX12_goes_7 (i := 0) rfl rfl ?_
        refine a_callVv C (i := 236) kd_236 (hid 236 (by decide)) ⟨_, _, rfl⟩ (by decide) (S_X12_beatGoes_236 hid hGq2 hRq2 (by omega)) mi_X12_beatGoes ml_RX12_387 rfl rfl (Nat.le_of_ble_eq_true rfl) (Nat.le_of_ble_eq_true rfl) (Nat.le_of_ble_eq_true rfl) dX12_goes_8 (fun σ3 q4 => ?_)
        obtain ⟨hG5, ho6, hR7, w8⟩ := q4
        refine s_iinc C dX12_goes_11 rfl (1) (by decide) (by omega) (by decide) rfl (fun z9 h10 => ?_)
        show AW ids ad ca Γ 14 [some (.ref (ad 236)), some (.int x1), some (.int z9)] _ _
        refine a_goto C dX12_goes_14 (tgt := 2) rfl ?_
        exact ih2 _ z9 (by omega) hG5 (onm.tr hoq2 (onm.mono ho6 (by decide))) hR7 (by omega) (show (σ3.1 267 21).toInt = (σ.1 267 21).toInt + z9.toInt by omega)
  refine s_iconst C dX12_goes_0 (0) (by decide) (fun z11 h12 => ?_)
  refine a_istore_n C dX12_goes_1 (i := 2) rfl (by decide) rfl (vs1 := [some (.ref (ad 236)), some (.int x1), some (.int z11)]) rfl ?_
  exact j2 100000 _ z11 (by omega) hG onm.rf hR (by omega) (show (σ.1 267 21).toInt = (σ.1 267 21).toInt + z11.toInt by omega)
