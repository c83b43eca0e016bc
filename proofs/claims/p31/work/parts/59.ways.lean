theorem p_ways_outB {l : Launch} {D : va_G} {ids : List Nat} {ad : Nat → Nat} {ca : Nat → ClassId} {σ : HS} {p0 p1 p2 p3 : Int32} (hid : ∀ i, i < 277 → i ∈ ids) (ho : ¬ ((¬ p0 < 1 ∧ ¬ 5 < p0) ∧ (¬ p1 < 1 ∧ ¬ 7 < p1) ∧ (¬ p2 < 0 ∧ ¬ 7 < p2) ∧ (¬ p3 < -1 ∧ p3 < p0))) : Ki l D ids ad ca yX11_ways cX11_ways 5 .int 9 253 [.ref (ad 0), .int p0, .int p1, .int p2, .int p3] σ (fun r σ1 => r = (-1) ∧ keepM σ σ1) := by
  refine Ki.of (by decide) (Nat.le_of_ble_eq_true rfl) 0 (fun Γ C Rt => ?_)
  show AW ids ad ca Γ 0 [some (.ref (ad 0)), some (.int p0), some (.int p1), some (.int p2), some (.int p3)] [] σ
  have ret : AW ids ad ca Γ 43 [some (.ref (ad 0)), some (.int p0), some (.int p1), some (.int p2), some (.int p3)] [] σ := by
    refine a_iconst C dX11_ways_43 (v := (-1)) rfl ?_
    exact a_iret Rt dX11_ways_44 rfl ⟨rfl, keepM.rf⟩
  refine a_iload_n C dX11_ways_0 (i := 1) rfl rfl ?_
  refine a_iconst C dX11_ways_1 (v := 1) rfl ?_
  refine a_ic_lt C dX11_ways_2 (tgt := 43) rfl (fun _ => ret) (fun c1 => ?_)
  refine a_iload_n C dX11_ways_5 (i := 1) rfl rfl ?_
  refine a_iconst C dX11_ways_6 (v := 5) rfl ?_
  refine a_ic_gt C dX11_ways_7 (tgt := 43) rfl (fun _ => ret) (fun c2 => ?_)
  refine a_iload_n C dX11_ways_10 (i := 2) rfl rfl ?_
  refine a_iconst C dX11_ways_11 (v := 1) rfl ?_
  refine a_ic_lt C dX11_ways_12 (tgt := 43) rfl (fun _ => ret) (fun c3 => ?_)
  refine a_iload_n C dX11_ways_15 (i := 2) rfl rfl ?_
  refine a_bipush C dX11_ways_16 (v := 7) rfl ?_
  refine a_ic_gt C dX11_ways_18 (tgt := 43) rfl (fun _ => ret) (fun c4 => ?_)
  refine a_iload_n C dX11_ways_21 (i := 3) rfl rfl ?_
  refine a_if_lt C dX11_ways_22 (tgt := 43) rfl (fun _ => ret) (fun c5 => ?_)
  refine a_iload_n C dX11_ways_25 (i := 3) rfl rfl ?_
  refine a_bipush C dX11_ways_26 (v := 7) rfl ?_
  refine a_ic_gt C dX11_ways_28 (tgt := 43) rfl (fun _ => ret) (fun c6 => ?_)
  refine a_iload C dX11_ways_31 rfl ?_
  refine a_iconst C dX11_ways_33 (v := (-1)) rfl ?_
  refine a_ic_lt C dX11_ways_34 (tgt := 43) rfl (fun _ => ret) (fun c7 => ?_)
  refine a_iload C dX11_ways_37 rfl ?_
  refine a_iload_n C dX11_ways_39 (i := 1) rfl rfl ?_
  exact a_ic_lt C dX11_ways_40 (tgt := 45) rfl (fun c8 => absurd ⟨⟨c1, c2⟩, ⟨c3, c4⟩, ⟨c5, c6⟩, c7, c8⟩ ho) (fun _ => ret)
theorem w_ways {l : Launch} {D : va_G} {ids : List Nat} {ad : Nat → Nat} {ca : Nat → ClassId} {p0 p1 p2 p3 : Int32} (hid : ∀ i, i < 277 → i ∈ ids) : ∃ v : Int32, (∀ σ : HS, Ki l D ids ad ca yX11_ways cX11_ways 5 .int 9 253 [.ref (ad 0), .int p0, .int p1, .int p2, .int p3] σ (fun r σ1 => r = v ∧ keepM σ σ1)) ∧ (∀ σ : HS, Ki l D ids ad ca yX12_ways cX12_ways 10 .int 1 24 [.ref (ad 236), .int p0, .int p1, .int p2, .int p3] σ (fun r _ => r = v)) := by
  by_cases R : (¬ p0 < 1 ∧ ¬ 5 < p0) ∧ (¬ p1 < 1 ∧ ¬ 7 < p1) ∧ (¬ p2 < 0 ∧ ¬ 7 < p2) ∧ (¬ p3 < -1 ∧ p3 < p0)
  · obtain ⟨⟨a1, a2⟩, ⟨b1, b2⟩, ⟨c1, c2⟩, d1, d2⟩ := R
    obtain ⟨p, h5, rfl⟩ := i32_nI (n := 5) (a := 5) (by decide) (i32_one a1) a2
    obtain ⟨m, m7, rfl⟩ := i32_nI (n := 7) (a := 7) (by decide) (i32_one b1) b2
    obtain ⟨k, k7, rfl⟩ := i32_nI (n := 7) (a := 7) (by decide) c1 c2
    have h1 : 1 ≤ p := nI_one a1 (by omega)
    have m1 : 1 ≤ m := nI_one b1 (by omega)
    by_cases e : p3 < 0
    · have e3 : p3 = -1 := by
        rw [← Int32.toInt_inj]
        rw [Int32.lt_iff_toInt_lt] at e d1
        have e0 : (0 : Int32).toInt = 0 := by decide
        have e1 : (-1 : Int32).toInt = -1 := by decide
        omega
      subst e3
      refine ⟨resW (rwC p m p 0 0 (p * k)) none, fun σ => p_ways_all hid h1 h5 m1 m7 k7, fun σ => ?_⟩
      rw [rows_eq h1 h5]
      exact q_ways_all hid h1 h5 m1 m7 k7
    · obtain ⟨n, hn, rfl⟩ := nI_of e
      have hn : n < p := (nI_ltI hn (by omega)).mp d2
      refine ⟨resW (rwC p m p 0 0 (p * k)) (some n), fun σ => p_ways_one hid h1 h5 m1 m7 k7 hn, fun σ => ?_⟩
      rw [rows_eq h1 h5]
      exact q_ways_one hid h1 h5 m1 m7 k7 hn
  · exact ⟨-1, fun σ => p_ways_outB hid R, fun σ => q_ways_out hid R⟩
