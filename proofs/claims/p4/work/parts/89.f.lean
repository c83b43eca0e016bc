/-! undone, held, restored, told, fed -/
section GOON3
variable {σ s s2 : HS} {n t u sd k nx m T k' nx' m' : Nat} {ρ ρ' : Nat → Int32} {d : DAT} {b : Int} {H H' G G' : Nat → Nat → Int32} {tb9 : Nat → Nat} {x y z x1 x2 x3 x4 x5 : Int32}
theorem AR.c12 {a k : Nat} {v : Int32} (h : AR a T ρ s) (ha : 12 < a) : AR a T ρ (hI s 12 k v) := h.fr (wl := wl0) (frm.rf.I (w := fun a _ => a == 12) rfl) (fun i k x y => by simp; omega)
/-- both sides gone on, the class first -/
theorem RELx.both (h : RELx n d t u sd ρ k nx H m tb9 G σ) {fc fm : HS → Option (Int32 × HS)} {r : Int32} (hc : Ok (fc σ) (fun r1 s => r1 = r ∧ AR 56 d.1.1.1 ρ' s ∧ PSc d k' nx' H' s ∧ frm wSc wl0 σ s)) (hm : ∀ s, frm wSc wl0 σ s → NWm ρ s → PSm k H s → Ok (fm s) (fun r2 s2 => r2 = r ∧ NWm ρ' s2 ∧ PSm k' H' s2 ∧ frm wSm wl0 s s2)) (hW : RW d (60 * ((n + 1 : Nat) : Int)) ρ') (hH : ∀ j, j < k' → RW d (60 * ((n + 1 : Nat) : Int)) (H' j)) : ∃ r s s2, fc σ = some (r, s) ∧ fm s = some (r, s2) ∧ REL (n + 1) s2 := by
  obtain ⟨r1, s, e1, rfl, a1, a2, a3⟩ := hc
  obtain ⟨r2, s2, e2, rfl, b1, b2, b3⟩ := hm s a3 (h.nw.fr a3 (fun _ => rfl)) (h.2.2.2.1.mm.fr a3 (fun _ => rfl) rfl)
  exact ⟨r2, s, s2, e1, e2, d, t, u, sd, ρ', k', nx', H', m, tb9, G, h.done a3 b3 a1 a2 b1 b2 hW hH⟩
theorem sim_undo : SIM n f_X11_undo f_X12_undo := sim_gen (fun d t u sd ρ k nx H m tb G σ h => by
  have hT := h.tc.T7
  obtain ⟨p1, p2, p3, p4, p5⟩ := h.2.2.2.1.c
  have pm := h.2.2.2.1.mm
  by_cases c : k = 0
  · subst c
    refine h.no (r := 0) ?_ ?_
    · unfold f_X11_undo f_X5_giveBack
      rw [p3, if_pos (show (nI 0).toInt = 0 from rfl)]
      rfl
    · unfold f_X12_undo
      rw [pm.1, if_pos (show (nI 0).toInt = 0 from rfl)]
  · obtain ⟨k, rfl⟩ : ∃ q, k = q + 1 := ⟨k - 1, by omega⟩
    have hm40 : (nx + 39) % 40 < 40 := Nat.mod_lt _ (by decide)
    refine h.both (ρ' := H k) (k' := k) (nx' := (nx + 39) % 40) (H' := H) (r := 1) ?_ (fun s hf hN hP => ?_) ((h.2.2.2.1.w k (by omega)).mono (by omega)) (fun j hj => (h.2.2.2.1.w j (by omega)).mono (by omega))
    · unfold f_X11_undo f_X5_giveBack
      rw [p3, p1, nIt (n := k + 1) (by omega), show nI nx + (40 : Int32) - (1 : Int32) = nI (nx + 39) by rw [show (40 : Int32) = nI 40 from rfl, nI_add, show (1 : Int32) = nI 1 from rfl, nI_sub (by omega) (by omega)]; exact congrArg nI (by omega), rem40 (by omega)]
      generalize hs1 : hI σ 12 1 (nI ((nx + 39) % 40)) = s1
      have F1 : frm (fun a k => a == 12 && k == 1) wl0 σ s1 := by rw [← hs1]; exact frm.rf.I rfl
      have e1 : s1.1 12 1 = nI ((nx + 39) % 40) := by rw [← hs1, rI_s]
      have A1 : AR (76 + 4 * ((nx + 39) % 40)) d.1.1.1 (H k) s1 := by
        have := p5 k (by omega)
        rw [show (nx + 40 + k - (k + 1)) % 40 = (nx + 39) % 40 by omega] at this
        exact this.fr F1 (fun i k x y => by simp; omega)
      refine Ok.cl (P := fun r s => r = 1 ∧ AR 56 d.1.1.1 (H k) s ∧ PSc d k ((nx + 39) % 40) H s ∧ frm wSc wl0 σ s) (Ok.f (by omega) (Ok.bd ?_)) (fun r s hs => ?_)
      · rw [e1, nIt (n := (nx + 39) % 40) (by omega), Int.toNat_natCast]
        refine Ok.t (by omega) (Ok.cv (w_copy (a := 56) A1 hT (by omega)) (fun s3 h3 => Ok.bd ?_))
        have e2 : s3.1 12 2 = nI (k + 1) := by rw [h3.2.1 12 2 rfl, ← hs1, rI_k (by decide)]; exact p3
        have e3 : s3.1 12 1 = nI ((nx + 39) % 40) := by rw [h3.2.1 12 1 rfl, e1]
        rw [e2, nI_mm (by omega)]
        have F3 : frm wSc wl0 σ (hI s3 12 2 (nI k)) := ((F1.sub (fun i k h => by
          have : i = 12 ∧ k = 1 := by simpa using h
          obtain ⟨rfl, rfl⟩ := this
          rfl)).tr (h3.2.sub ai_wSc)).I rfl
        refine Ok.ret ⟨rfl, ?_, ⟨?_, hm40, rI_s, by omega, fun j hj => ?_⟩, F3⟩
        · exact h3.1.c12 (by decide)
        · rw [rI_k (by decide)]; exact e3
        · have := p5 j (by omega)
          have hm2 : (nx + 40 + j - (k + 1)) % 40 < 40 := Nat.mod_lt _ (by decide)
          rw [show ((nx + 39) % 40 + 40 + j - k) % 40 = (nx + 40 + j - (k + 1)) % 40 by omega]
          exact ((this.fr F1 (fun i k x y => by simp; omega)).fr h3.2 (fun i k x y => wAi_no (by omega))).c12 (by omega)
      · obtain ⟨rfl, hs⟩ := hs
        exact Ok.t (by decide) (Ok.ret ⟨rfl, hs⟩)
    · unfold f_X12_undo
      rw [hP.1, nIt (n := k + 1) (by omega), nI_mm (by omega)]
      refine Ok.f (by omega) (Ok.bd ?_)
      have loop : ∀ (dd i N : Nat) (s1 : HS), i + dd = 29 → dd < N → frm wRs wl0 s s1 → s1.1 236 54 = nI k → (∀ j, s1.1 268 j = s.1 268 j) → (∀ j, j < i → s1.1 266 j = H k j) → Ok (f_X12_undo_21 N (nI i) s1) (fun r2 s2 => r2 = 1 ∧ NWm (H k) s2 ∧ PSm k H s2 ∧ frm wSm wl0 s s2) := by
        intro dd
        induction dd with
        | zero =>
          intro i N s1 hi hF h1 h2 h3 h4
          obtain ⟨N, rfl⟩ : ∃ q, N = q + 1 := ⟨N - 1, by omega⟩
          obtain rfl : i = 29 := by omega
          show Ok (b_X12_undo_21 (f_X12_undo_21 N) (nI 29) s1) _
          unfold b_X12_undo_21
          exact Ok.f (by decide) (Ok.ret ⟨rfl, h4, ⟨h2, by omega, fun j hj i hi => by rw [h3]; exact hP.2.2 j (by omega) i hi⟩, h1.sub rs_wSm⟩)
        | succ dd ih =>
          intro i N s1 hi hF h1 h2 h3 h4
          obtain ⟨N, rfl⟩ : ∃ q, N = q + 1 := ⟨N - 1, by omega⟩
          show Ok (b_X12_undo_21 (f_X12_undo_21 N) (nI i) s1) _
          unfold b_X12_undo_21
          rw [h2, nI_29 (by omega), nI_add, nIt (n := i) (by omega), nIt (n := 29 * k + i) (by omega), Int.toNat_natCast, Int.toNat_natCast, h3, hP.2.2 k (by omega) i (by omega)]
          refine Ok.t (by omega) (Ok.t (by omega) (Ok.t (by omega) (Ok.bd (Ok.bd ?_))))
          rw [nI_1]
          refine ih (i + 1) N _ (by omega) (by omega) (h1.I rfl) (by rw [rI_i (by decide)]; exact h2) (fun j => by rw [rI_i (by decide)]; exact h3 j) (fun j hj => ?_)
          by_cases c : j = i
          · rw [c, rI_s]
          · rw [rI_k (by omega)]; exact h4 j (by omega)
      exact loop 29 0 5000 _ (by omega) (by omega) (frm.rf.I rfl) rI_s (fun j => by rw [rI_i (by decide)]) (fun j hj => absurd hj (by omega)))
theorem sim_restore : SIM n (f_X11_restore x) (f_X12_restore x) := sim_gen (fun d t u sd ρ k nx H m tb G σ h => by
  have hT := h.tc.T7
  have ein : ∀ s, f_X12_in x 0 2 s = some (if 0 ≤ x.toInt ∧ x.toInt ≤ 2 then 1 else 0, s) := fun s => e_in
  by_cases c : 0 ≤ x.toInt ∧ x.toInt ≤ 2
  · obtain ⟨q, hq, rfl⟩ : ∃ q : Nat, q ≤ 2 ∧ x = nI q := ⟨x.toInt.toNat, by omega, nI_tn c.1 (by omega)⟩
    obtain ⟨⟨g1, g2⟩, g3⟩ := h.2.2.2.2.2 q (by omega)
    rcases g2 with g2 | g2
    · refine h.no (r := 0) ?_ ?_
      · unfold f_X11_restore
        rw [nIt (n := q) (by omega), if_neg (by omega), if_pos (show (q : Int) < 3 by omega), if_pos (show 0 ≤ (q : Int) ∧ (q : Int) < 3 by omega), Int.toNat_natCast, g1, g2, if_pos i0_eq]
      · unfold f_X12_restore
        rw [ein, if_pos c]
        simp only [Cl]
        rw [if_neg (show ¬ (1 : Int32).toInt = 0 by decide), nIt (n := q) (by omega), if_pos (show 0 ≤ (q : Int) ∧ (q : Int) < 3 by omega), Int.toNat_natCast, g2, if_pos i0_eq]
    · obtain ⟨A, B, W⟩ := g3 g2
      refine h.both (ρ' := G q) (k' := 0) (nx' := nx) (H' := H) (r := 1) ?_ (fun s hf hN hP => ?_) (W.mono (by omega)) (fun j hj => absurd hj (by omega))
      · unfold f_X11_restore f_X5_clear
        rw [nIt (n := q) (by omega), Int.toNat_natCast, g1, g2]
        refine Ok.f (by omega) (Ok.t (by omega) (Ok.t (by omega) (Ok.f (by decide) (Ok.t (by omega) (Ok.cv (w_copy (a := 56) A hT (by omega)) (fun s1 h1 => Ok.cv (P := fun s2 => s2 = hI s1 12 2 0) (Okv.bd (Okv.ret rfl)) (fun s2 h2 => ?_)))))))
        subst h2
        refine Ok.ret ⟨rfl, h1.1.c12 (by decide), ⟨?_, h.2.2.2.1.2.1, rI_s, by decide, fun j hj => absurd hj (by omega)⟩, (h1.2.sub ai_wSc).I rfl⟩
        rw [rI_k (by decide), h1.2.1 12 1 rfl]; exact h.2.2.2.1.1
      · unfold f_X12_restore
        have e275 : s.1 275 q = 1 := by rw [hf.1 275 q rfl]; exact g2
        refine Ok.cle (ein s) (Ok.f (fun e => if10.mp e c) ?_)
        rw [nIt (n := q) (by omega), Int.toNat_natCast, e275]
        refine Ok.t (by omega) (Ok.f (by decide) ?_)
        have B2 : ∀ i, i < 29 → s.1 276 (29 * q + i) = G q i := fun i hi => by rw [hf.1 276 _ rfl]; exact B i hi
        have loop : ∀ (dd i N : Nat) (s1 : HS), i + dd = 29 → dd < N → frm wRs wl0 s s1 → (∀ j, j < i → s1.1 266 j = G q j) → Ok (f_X12_restore_22 N (nI q) (nI i) s1) (fun r2 s2 => r2 = 1 ∧ NWm (G q) s2 ∧ PSm 0 H s2 ∧ frm wSm wl0 s s2) := by
          intro dd
          induction dd with
          | zero =>
            intro i N s1 hi hF h1 h4
            obtain ⟨N, rfl⟩ : ∃ q, N = q + 1 := ⟨N - 1, by omega⟩
            obtain rfl : i = 29 := by omega
            show Ok (b_X12_restore_22 (f_X12_restore_22 N) (nI q) (nI 29) s1) _
            unfold b_X12_restore_22
            exact Ok.f (by decide) (Ok.bd (Ok.ret ⟨rfl, fun i hi => by rw [rI_i (by decide)]; exact h4 i hi, ⟨rI_s, by decide, fun j hj => absurd hj (by omega)⟩, ((h1.I rfl).sub rs_wSm)⟩))
          | succ dd ih =>
            intro i N s1 hi hF h1 h4
            obtain ⟨N, rfl⟩ : ∃ q, N = q + 1 := ⟨N - 1, by omega⟩
            show Ok (b_X12_restore_22 (f_X12_restore_22 N) (nI q) (nI i) s1) _
            unfold b_X12_restore_22
            rw [nI_29 (by omega), nI_add, nIt (n := i) (by omega), nIt (n := 29 * q + i) (by omega), Int.toNat_natCast, Int.toNat_natCast, h1.1 276 _ rfl, B2 i (by omega)]
            refine Ok.t (by omega) (Ok.t (by omega) (Ok.t (by omega) (Ok.bd (Ok.bd ?_))))
            rw [nI_1]
            refine ih (i + 1) N _ (by omega) (by omega) (h1.I rfl) (fun j hj => ?_)
            by_cases c : j = i
            · rw [c, rI_s]
            · rw [rI_k (by omega)]; exact h4 j (by omega)
        exact loop 29 0 5000 _ (by omega) (by omega) frm.rf (fun j hj => absurd hj (by omega))
  · refine h.no (r := 0) ?_ ?_
    · unfold f_X11_restore
      by_cases c1 : x.toInt < 0
      · rw [if_pos c1]
      · rw [if_neg c1, if_neg (show ¬ x.toInt < 3 by omega)]
    · unfold f_X12_restore
      rw [ein, if_neg c]
      rfl)
end GOON3
