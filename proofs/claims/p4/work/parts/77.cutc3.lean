/-! what may have been written: by cell and place; longs by cell -/
def frm (w : Nat → Nat → Bool) (wl : Nat → Bool) (σ σ1 : HS) : Prop := (∀ a k, w a k = false → σ1.1 a k = σ.1 a k) ∧ (∀ a, wl a = false → σ1.2.1 a = σ.2.1 a) ∧ σ1.2.2 = σ.2.2
section FRM
variable {w : Nat → Nat → Bool} {wl : Nat → Bool} {σ σ1 σ2 : HS}
theorem frm.rf : frm w wl σ σ := ⟨fun _ _ _ => rfl, fun _ _ => rfl, rfl⟩
theorem frm.tr (h : frm w wl σ σ1) (h2 : frm w wl σ1 σ2) : frm w wl σ σ2 := ⟨fun a k e => (h2.1 a k e).trans (h.1 a k e), fun a e => (h2.2.1 a e).trans (h.2.1 a e), h2.2.2.trans h.2.2⟩
theorem frm.I (h : frm w wl σ σ1) {i k : Nat} {v : Int32} (hw : w i k = true) : frm w wl σ (hI σ1 i k v) := ⟨fun a j e => by
  by_cases e1 : a = i
  · subst e1
    by_cases e2 : j = k
    · subst e2; rw [hw] at e; exact absurd e (by decide)
    · rw [rI_k e2]; exact h.1 a j e
  · rw [rI_i e1]; exact h.1 a j e, h.2.1, h.2.2⟩
theorem frm.A (h : frm w wl σ σ1) {i : Nat} {f : Nat → Int32} (hw : ∀ k, w i k = true) : frm w wl σ (hA σ1 i f) := ⟨fun a j e => by
  by_cases e1 : a = i
  · subst e1; rw [hw j] at e; exact absurd e (by decide)
  · rw [rA_i e1]; exact h.1 a j e, h.2.1, h.2.2⟩
theorem frm.L (h : frm w wl σ σ1) {i k : Nat} {v : Int64} (hw : wl i = true) : frm w wl σ (hL σ1 i k v) := ⟨h.1, fun a e => by
  by_cases e1 : a = i
  · subst e1; rw [hw] at e; exact absurd e (by decide)
  · rw [rL_i e1]; exact h.2.1 a e, h.2.2⟩
theorem frm.mono {w1 : Nat → Nat → Bool} {wl1 : Nat → Bool} (h : frm w wl σ σ1) (hw : ∀ a k, w1 a k = false → w a k = false) (hl : ∀ a, wl1 a = false → wl a = false) : frm w1 wl1 σ σ1 := ⟨fun a k e => h.1 a k (hw a k e), fun a e => h.2.1 a (hl a e), h.2.2⟩
end FRM
theorem tk_rg {b : Nat → Int32} {n i : Nat} : 0 ≤ tkK b n i ∧ tkK b n i ≤ 39 := by
  unfold tkK
  have := sgn_rg (b i).toInt
  split
  · omega
  · split
    · split
      · omega
      · split <;> omega
    · split
      · split <;> omega
      · omega
theorem ck_tab : ∀ k, k < 40 → (ckind (k : Nat) = 22 → k = 0) ∧ (ckind (k : Nat) = 23 → k = 3) := by decide +kernel
theorem ck_22 {K : Int} (h : 0 ≤ K ∧ K ≤ 39) (e : ckind K = 22) : K = 0 := by
  obtain ⟨k, rfl⟩ : ∃ k : Nat, K = k := ⟨K.toNat, by omega⟩
  have := (ck_tab k (by omega)).1 e
  omega
theorem ck_23 {K : Int} (h : 0 ≤ K ∧ K ≤ 39) (e : ckind K = 23) : K = 3 := by
  obtain ⟨k, rfl⟩ : ∃ k : Nat, K = k := ⟨K.toNat, by omega⟩
  have := (ck_tab k (by omega)).2 e
  omega
def TKc (b : Nat → Int32) (n j : Nat) (σ : HS) : Prop := ∀ q : Nat, q < j → (σ.1 4 q).toInt = ckind (kdT b n q) ∧ (σ.1 5 q).toInt = plT b n q ∧ (kdT b n q = 2 → (σ.2.1 6 q).toInt = vlT b n q) ∧ (kdT b n q = 1 → σ.2.1 6 q = nmT b n q)
/-- every token up to the first END or BAD is told rightly -/
def TKC (b : Nat → Int32) (n : Nat) (σ : HS) : Prop := ∀ q : Nat, q ≤ 400 → (∀ p, p < q → kdT b n p ≠ 0 ∧ kdT b n p ≠ 3) → (σ.1 4 q).toInt = ckind (kdT b n q) ∧ (σ.1 5 q).toInt = plT b n q ∧ (kdT b n q = 2 → (σ.2.1 6 q).toInt = vlT b n q) ∧ (kdT b n q = 1 → σ.2.1 6 q = nmT b n q)
def wCut (a k : Nat) : Bool := a == 4 || a == 5 || (a == 2 && k == 5)
def wlCut (a : Nat) : Bool := a == 6
section CUTE
variable {σ σ0 : HS}
theorem CC.fr (h : frm wCut wlCut σ0 σ) (c : CC σ0) : CC σ := by
  unfold CC
  rw [h.1 2 1 rfl]
  exact ⟨c.1, fun k => by rw [h.1 3 k rfl]; exact c.2 k⟩
theorem bC_fr (h : frm wCut wlCut σ0 σ) : bC σ = bC σ0 := funext fun k => h.1 3 k rfl
theorem nC_fr (h : frm wCut wlCut σ0 σ) : nC σ = nC σ0 := by unfold nC; rw [h.1 2 1 rfl]
theorem e_cut_28 {k9 : Int32 → Int32 → HS → Option HS} {y : Int32} (hσ : CC σ) {i e : Nat} (hi : i ≤ nC σ) (he : rn isBl (bC σ) (nC σ) i = e) : ∀ (d m N : Nat), i + m + d = e → d < N → f_X9_cut_28 k9 N y (atC σ (i + m)) = f_X9_cut_67 k9 y (atC σ e) := by
  have hn := nC_n hσ
  have hu := nC_u hσ
  have hen := run_ub he hi
  have run := run_c he
  intro d
  induction d with
  | zero =>
    intro m N h1 hN
    obtain ⟨N, rfl⟩ : ∃ q, N = q + 1 := ⟨N - 1, by omega⟩
    obtain rfl : i + m = e := by omega
    show b_X9_cut_28 k9 (f_X9_cut_28 k9 N) y _ = _
    unfold b_X9_cut_28
    rw [atC_at, atC_n, nIt (by omega), Int.toNat_natCast, atC_b]
    by_cases c : i + m < nC σ
    · rw [if_pos (by omega), if_pos (by omega)]
      have hs := rn_stop (run m (Nat.le_refl _))
      have hz : isBl (bC σ (i + m)) = false := by
        rcases hs with hs | hs
        · omega
        · simpa using hs
      simp only [e_X9_isBlank, Cl]
      rw [if_pos (by rw [bI_0]; show ¬ isBl (bC σ (i + m)) = true; rw [hz]; decide)]
    · rw [if_neg (by omega)]
  | succ d ih =>
    intro m N h1 hN
    obtain ⟨N, rfl⟩ : ∃ q, N = q + 1 := ⟨N - 1, by omega⟩
    have hg := rn_go (p := isBl) (b := bC σ) (n := nC σ) (i := i + m) (by rw [run m (by omega)]; omega)
    have ih1 := ih (m + 1) N (by omega) (by omega)
    rw [← ih1]
    show b_X9_cut_28 k9 (f_X9_cut_28 k9 N) y _ = _
    unfold b_X9_cut_28
    rw [atC_at, atC_n, nIt (by omega), Int.toNat_natCast, atC_b, if_pos (by omega), if_pos (by omega)]
    simp only [e_X9_isBlank, Cl]
    rw [if_neg (by rw [bI_0]; show ¬ ¬ isBl (bC σ (i + m)) = true; rw [hg.2.1]; decide)]
    simp only [Bd, atC_at, nI_1, atC_to]
    rfl
theorem w_cut_9 (hC : CC σ0) : ∀ (d N i j : Nat) (kk : Int32) (σ : HS), frm wCut wlCut σ0 σ → σ.1 2 5 = nI i → j ≤ 401 → i ≤ nC σ0 → plT (bC σ0) (nC σ0) j = rn isBl (bC σ0) (nC σ0) i → TKc (bC σ0) (nC σ0) j σ → (kk.toInt = 22 → 0 < j ∧ kdT (bC σ0) (nC σ0) (j - 1) = 0) → (kk.toInt = 23 → 0 < j ∧ kdT (bC σ0) (nC σ0) (j - 1) = 3) → 402 - j ≤ d → d ≤ N → Okv (f_X9_cut_9 N kk (nI j) σ) (fun s => frm wCut wlCut σ0 s ∧ TKC (bC σ0) (nC σ0) s) := by
  intro d
  induction d with
  | zero => intro N i j kk σ _ _ _ _ _ _ _ _ h _; omega
  | succ d ih =>
    intro N i j kk σ ho hat hj hi hp hT h22 h23 hd hN
    obtain ⟨N, rfl⟩ : ∃ q, N = q + 1 := ⟨N - 1, by omega⟩
    have hσ := CC.fr ho hC
    have hu := nC_u hC
    have hb := bC_fr ho
    have hn := nC_fr ho
    show Okv (b_X9_cut_9 (f_X9_cut_9 N) kk (nI j) σ) _
    unfold b_X9_cut_9
    rw [nIt (by omega)]
    refine Okv.i (fun c => ?_) (fun c => ?_)
    · exact Okv.ret ⟨ho, fun q hq _ => hT q (by omega)⟩
    refine Okv.i (fun c1 => ?_) (fun c1 => ?_)
    · have := h22 c1
      exact Okv.ret ⟨ho, fun q hq hp => hT q (by
        by_cases e : q < j
        · exact e
        · exact absurd this.2 (hp (j - 1) (by omega)).1)⟩
    refine Okv.i (fun c2 => ?_) (fun c2 => ?_)
    · have := h23 c2
      exact Okv.ret ⟨ho, fun q hq hp => hT q (by
        by_cases e : q < j
        · exact e
        · exact absurd this.2 (hp (j - 1) (by omega)).2)⟩
    generalize he : rn isBl (bC σ0) (nC σ0) i = e
    have hen := run_ub he hi
    rw [he] at hp
    have e1 := e_cut_28 (k9 := f_X9_cut_9 N) (y := nI j) hσ (i := i) (e := e) (by rw [hn]; exact hi) (by rw [hb, hn]; exact he) (e - i) 0 5000 (by have := (rn_le (p := isBl) (b := bC σ0) (n := nC σ0) (i := i)).1; omega) (by omega)
    rw [show f_X9_cut_28 (f_X9_cut_9 N) 5000 (nI j) σ = f_X9_cut_28 (f_X9_cut_9 N) 5000 (nI j) (atC σ (i + 0)) from by rw [show atC σ (i + 0) = σ from hI_same hat], e1]
    unfold f_X9_cut_67
    rw [nIt (by omega), Int.toNat_natCast]
    refine Okv.t (by omega) (Okv.bd ?_)
    rw [atC_at]
    generalize hs1 : hI (atC σ e) 5 j (nI e) = σ1
    have ho1 : frm wCut wlCut σ0 σ1 := by rw [← hs1]; exact (ho.I rfl).I rfl
    have a1 : σ1.1 2 5 = nI e := by rw [← hs1, rI_i (by decide)]; exact atC_at
    have p1 : σ1.1 5 j = nI e := by rw [← hs1]; exact rI_s
    have T1 : TKc (bC σ0) (nC σ0) j σ1 := fun q hq => by
      have := hT q hq
      rw [← hs1, rI_i (show (4 : Nat) ≠ 5 by decide), rI_k (show q ≠ j by omega)]
      exact this
    obtain ⟨r, v, e2, h1, h2, h3, h4, h5, h6, h7⟩ := w_cutOne (CC.fr ho1 hC) (i := e) (j := j) (by omega) (by rw [nC_fr ho1]; exact hen)
    rw [bC_fr ho1, nC_fr ho1] at h1 h2 h3 h4 h7
    rw [nC_fr ho1] at h5
    have rg := tk_rg (b := bC σ0) (n := nC σ0) (i := e)
    have kj : kdT (bC σ0) (nC σ0) j = tkK (bC σ0) (nC σ0) e := by unfold kdT; rw [hp]
    rw [show atC σ1 e = σ1 from hI_same a1] at h7
    -- the state behind the token
    have fin : ∀ σ2 : HS, frm wCut wlCut σ0 σ2 → σ2.1 2 5 = nI e2 → (∀ q, σ2.1 4 q = σ1.1 4 q) → (∀ q, σ2.1 5 q = σ1.1 5 q) → (∀ q, q ≠ j → σ2.2.1 6 q = σ1.2.1 6 q) → (kdT (bC σ0) (nC σ0) j = 2 → (σ2.2.1 6 j).toInt = vlT (bC σ0) (nC σ0) j) → (kdT (bC σ0) (nC σ0) j = 1 → σ2.2.1 6 j = nmT (bC σ0) (nC σ0) j) → Okv (f_X9_cut_9 N r (nI (j + 1)) (hI σ2 4 j r)) (fun s => frm wCut wlCut σ0 s ∧ TKC (bC σ0) (nC σ0) s) := by
      intro σ2 o2 at2 q4 q5 q6 q7 q8
      refine ih N e2 (j + 1) r (hI σ2 4 j r) (o2.I rfl) (by rw [rI_i (by decide)]; exact at2) (by omega) h5 ?_ ?_ ?_ ?_ (by omega) (by omega)
      · show rn isBl (bC σ0) (nC σ0) (tkE (bC σ0) (nC σ0) (plT (bC σ0) (nC σ0) j)) = _
        rw [hp, h4]
      · intro q hq
        by_cases eq : q = j
        · subst eq
          refine ⟨by rw [rI_s, h1, kj], ?_, q7, q8⟩
          rw [rI_i (show (5 : Nat) ≠ 4 by decide), q5, p1, nIt (by omega), hp]
        · have := T1 q (by omega)
          rw [rI_k eq, q4, rI_i (show (5 : Nat) ≠ 4 by decide), q5]
          refine ⟨this.1, this.2.1, fun h => ?_, fun h => ?_⟩
          · show (σ2.2.1 6 q).toInt = _; rw [q6 q eq]; exact this.2.2.1 h
          · show σ2.2.1 6 q = _; rw [q6 q eq]; exact this.2.2.2 h
      · intro h
        refine ⟨by omega, ?_⟩
        rw [show j + 1 - 1 = j by omega, kj]
        exact ck_22 rg (by rw [← h1]; exact h)
      · intro h
        refine ⟨by omega, ?_⟩
        rw [show j + 1 - 1 = j by omega, kj]
        exact ck_23 rg (by rw [← h1]; exact h)
    rcases h7 with h7 | ⟨h7, n1, n2⟩
    · refine Okv.cle h7 ?_
      refine Okv.t (by omega) (Okv.bd (Okv.bd ?_))
      rw [nI_1]
      refine fin _ ((ho1.I rfl).L rfl) ?_ ?_ ?_ ?_ ?_ ?_
      · rw [rL_1]; exact atC_at
      · intro q; rw [rL_1]; exact rI_i (by decide)
      · intro q; rw [rL_1]; exact rI_i (by decide)
      · intro q hq; rw [rL_k hq]; rfl
      · intro h; rw [rL_s, h2 (by rw [← kj]; exact h)]; unfold vlT; rw [hp]
      · intro h; rw [rL_s, h3 (by rw [← kj]; exact h)]; unfold nmT; rw [hp]
    · refine Okv.cle h7 ?_
      refine Okv.t (by omega) (Okv.bd (Okv.bd ?_))
      rw [nI_1]
      refine fin _ (ho1.I rfl) ?_ ?_ ?_ ?_ ?_ ?_
      · exact atC_at
      · intro q; exact rI_i (by decide)
      · intro q; exact rI_i (by decide)
      · intro q hq; rfl
      · intro h; rw [kj] at h; exact absurd h n2
      · intro h; rw [kj] at h; exact absurd h n1
theorem w_X9_cut (hC : CC σ) : Okv (f_X9_cut σ) (fun s => frm wCut wlCut σ s ∧ TKC (bC σ) (nC σ) s) := by
  unfold f_X9_cut
  refine Okv.bd ?_
  have o1 : frm wCut wlCut σ (hI σ 2 5 0) := frm.rf.I rfl
  exact w_cut_9 hC 402 5000 0 0 (-1) (hI σ 2 5 0) o1 (by rw [rI_s]; exact nI0) (by omega) (by omega) rfl (fun q hq => absurd hq (by omega)) (fun h => absurd h (by decide)) (fun h => absurd h (by decide)) (by omega) (by omega)
end CUTE
