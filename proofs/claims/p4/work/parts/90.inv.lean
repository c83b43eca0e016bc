/-! the relation goes on; the fresh state keeps it -/
theorem REL.next {n : Nat} {σ : HS} (h : REL n σ) : REL (n + 1) σ := by
  obtain ⟨d, t, u, sd, ρ, k, nx, H, m, tb, G, h⟩ := h
  exact ⟨d, t, u, sd, ρ, k, nx, H, m, tb, G, h.next⟩
theorem s0I_zero {i : Nat} (h : (decide (20 ≤ kd i) && !([41, 42, 54, 55, 252, 266, 267].contains i)) = true) (j : Nat) : s0I i j = 0 := by
  simp only [Bool.and_eq_true, decide_eq_true_eq, Bool.not_eq_true', List.contains_cons, List.contains_nil, Bool.or_false, Bool.or_eq_false_iff, beq_eq_false_iff_ne] at h
  obtain ⟨h1, h2, h3, h4, h5, h6, h7, h8⟩ := h
  unfold s0I
  split
  · omega
  · omega
  · omega
  · omega
  · rw [if_neg (by omega), if_neg (by omega), if_neg (by omega), if_neg (by omega)]
  · rfl
theorem s0_tc : TC 30 dat0 s0 := by
  have a1 : ∀ k, k < 4 → s0.1 42 k = nI (2 * k) := by decide
  have a2 : ∀ k, k < 4 → (dfC k).length = 2 ∧ ∀ i, i < 2 → (s0.1 41 (2 * k + i)).toInt = (dfC k).getD i 0 := by decide +kernel
  refine ⟨⟨by decide, by decide, fun e he => absurd he (by show ¬ e < 0; omega)⟩, ⟨by decide, by decide, fun p hp => absurd hp (by show ¬ p < 0; omega)⟩, ⟨by decide, by decide⟩, 8, by omega, fun k hk => ⟨2 * k, a1 k hk, ?_, ?_⟩⟩
  · show 2 * k + (layL (2 * k) (lawO k none)).length ≤ 8
    rw [dfC_lay, (a2 k hk).1]
    omega
  · show seg _ _ _ (layL (2 * k) (lawO k none))
    rw [dfC_lay]
    intro i hi
    rw [(a2 k hk).1] at hi
    exact (a2 k hk).2 i hi
theorem s0_tm : TM 0 dat0 s0 := ⟨by decide, by decide, ⟨by decide, by decide, fun e he => absurd he (by show ¬ e < 0; omega)⟩, ⟨by decide, by decide, fun p hp => absurd hp (by show ¬ p < 0; omega)⟩, ⟨by decide, by decide⟩, 0, 0, by decide, by decide, fun k hk => ⟨s0I_zero (i := 254) (by decide) (4 * 0 + k), s0I_zero (i := 255) (by decide) (4 * 0 + k)⟩⟩
theorem s0_ar : AR 56 0 (s0I 266) s0 := ⟨by decide, fun e he => absurd he (by omega), fun k h4 h8 => (show ∀ k, k < 9 → 4 ≤ k → s0.1 56 k = s0I 266 (17 + k) by decide) k (by omega) h4, by decide, by decide, by decide⟩
theorem s0_rw : RW dat0 0 (s0I 266) := ⟨fun e he => absurd he (by show ¬ e < 0; omega), by decide, by decide, Or.inl (by decide), by decide, by decide⟩
theorem s0_rel : REL 0 s0 := by
  refine ⟨dat0, 30, 43, 0, s0I 266, 0, 0, fun _ _ => 0, 0, fun _ => 0, fun _ _ => 0, ⟨⟨0, by omega, by decide, by decide, fun i hi => absurd hi (by omega)⟩, ⟨by decide, fun k => ?_⟩, fun k hk => (show s0L 243 k = keyL.getD k 0 by unfold s0L keyL; rw [if_pos rfl]), by decide⟩, ⟨Or.inl rfl, Or.inr rfl, by decide, ⟨rfl, rfl⟩, s0_tc, s0_tm, dat0_ok⟩, ⟨s0_ar, fun i hi => rfl, s0_rw⟩, ⟨by decide, by omega, by decide, by omega, by decide, fun j hj => absurd hj (by omega)⟩, ⟨by decide, by omega, by decide, fun i hi => absurd hi (by omega)⟩, fun s hs => ?_⟩
  · have e : s0.1 3 k = 0 := s0I_zero (i := 3) (by decide) k
    rw [e]; decide
  · have e26 : s0.1 26 s = 0 := s0I_zero (i := 26) (by decide) s
    have e275 : s0.1 275 s = 0 := s0I_zero (i := 275) (by decide) s
    refine ⟨⟨e26.trans e275.symm, Or.inl e275⟩, fun e => ?_⟩
    rw [e275] at e
    exact absurd e (by decide)
