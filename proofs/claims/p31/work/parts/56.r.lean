/-! an expression under way -/
def EXg (s0 : HS) (W : Int) (u : Nat) (bs d : Int) (σ : HS) : Prop := (0 ≤ W ∧ (u : Int) ≤ (σ.1 236 39).toInt) ∧ WK (σ.1 263) W.toNat ∧ WB (σ.1 263) W.toNat ∧ opn (σ.1 263) W.toNat = (σ.1 236 12).toInt - bs ∧ PGm (σ.1 261) (σ.1 262) u (σ.1 236 39).toInt.toNat ∧ dep (σ.1 261) u ((σ.1 236 39).toInt.toNat - u) = W - ((σ.1 236 12).toInt - bs) + d ∧ (∀ c : Nat, c < u → σ.1 261 c = s0.1 261 c ∧ σ.1 262 c = s0.1 262 c)
theorem EXg.rg {s0 σ : HS} {W bs d : Int} {u : Nat} (h : EXg s0 W u bs d σ) : 0 ≤ W ∧ (u : Int) ≤ (σ.1 236 39).toInt ∧ bs ≤ (σ.1 236 12).toInt ∧ (σ.1 236 12).toInt - bs ≤ W ∧ W ≤ 3 * ((σ.1 236 12).toInt - bs) + 2 := by
  obtain ⟨⟨h0, h1⟩, _, h3, h4, _, _, _⟩ := h
  have a := opn_rg (w := σ.1 263) W.toNat
  have b := tcc_rg (w := σ.1 263) W.toNat
  have c := h3 W.toNat (Nat.le_refl _)
  omega
theorem EXg.W {s0 σ : HS} {W W1 bs d : Int} {u : Nat} (h : EXg s0 W u bs d σ) (e : W1 = W) : EXg s0 W1 u bs d σ := by subst e; exact h
def okE (L : List Nat) : Bool := [1012, 1039, 261, 262, 263].all (fun i => !(L.contains i))
theorem EXg.ony {L : List Nat} {s0 σ σ1 : HS} {W bs d : Int} {u : Nat} (h : EXg s0 W u bs d σ) (ho : onm L σ σ1) (hk : okE L = true) : EXg s0 W u bs d σ1 := by
  unfold okE at hk
  simp only [List.all_cons, List.all_nil, Bool.and_true, Bool.and_eq_true, Bool.not_eq_true'] at hk
  obtain ⟨h12, h39, h261, h262, h263⟩ := hk
  have f : ∀ k, L.contains (1000 + k) = false → σ1.1 236 k = σ.1 236 k := fun k hk => ho.1 236 k (by unfold wr; rw [if_pos rfl]; exact hk)
  unfold EXg
  rw [f 12 h12, f 39 h39, ho.a (i := 261) (by rw [h261]; decide), ho.a (i := 262) (by rw [h262]; decide), ho.a (i := 263) (by rw [h263]; decide)]
  exact h
theorem EXg.start {s0 σ : HS} {W bs : Int} {u : Nat} (hW : W = 0) (hu : (σ.1 236 39).toInt = u) (hb : (σ.1 236 12).toInt = bs) (hf : ∀ c : Nat, c < u → σ.1 261 c = s0.1 261 c ∧ σ.1 262 c = s0.1 262 c) : EXg s0 W u bs 0 σ := by
  subst hW
  refine ⟨⟨Int.le_refl _, by omega⟩, fun i hi => absurd hi (Nat.not_lt_zero _), WB.zero, ?_, ?_, ?_, hf⟩
  · show (0 : Int) = _
    omega
  · rw [show (σ.1 236 39).toInt.toNat = u by omega]
    exact PGm.zero
  · rw [show (σ.1 236 39).toInt.toNat - u = 0 by omega]
    show (0 : Int) = _
    omega
theorem EXg.push6 {s0 σ σ1 : HS} {W W1 bs : Int} {u : Nat} (h : EXg s0 W u bs 0 σ) (hW : W1 = W + 1) (e261 : σ1.1 261 = σ.1 261) (e262 : σ1.1 262 = σ.1 262) (e263 : ∀ j : Nat, (j : Int) < W → σ1.1 263 j = σ.1 263 j) (h6 : (σ1.1 263 W.toNat).toInt = 6) (eo : (σ1.1 236 12).toInt = (σ.1 236 12).toInt + 1) (ec : (σ1.1 236 39).toInt = (σ.1 236 39).toInt) : EXg s0 W1 u bs 0 σ1 := by
  obtain ⟨⟨h0, h1⟩, h2, h3, h4, h5, h7, h8⟩ := h
  subst hW
  have en : (W + 1).toNat = W.toNat + 1 := by omega
  have e3 : ∀ j, j < W.toNat → σ1.1 263 j = σ.1 263 j := fun j hj => e263 j (by omega)
  unfold EXg
  rw [ec, e261, e262, en, eo]
  refine ⟨⟨by omega, h1⟩, h2.push e3 (Or.inl h6), h3.push e3 (Or.inl h6), ?_, h5, ?_, h8⟩
  · show opn (σ1.1 263) W.toNat + (if (σ1.1 263 W.toNat).toInt = 6 then 1 else 0) = _
    rw [if_pos h6, opn_cong _ e3, h4]
    omega
  · rw [h7]
    omega
theorem EXg.unit {s0 σ σ1 : HS} {W bs : Int} {u : Nat} (h : EXg s0 W u bs 0 σ) (e263 : σ1.1 263 = σ.1 263) (eo : (σ1.1 236 12).toInt = (σ.1 236 12).toInt) (ec : (σ1.1 236 39).toInt = (σ.1 236 39).toInt + 1) (hr : ∀ c : Nat, (c : Int) ≠ (σ.1 236 39).toInt → σ1.1 261 c = σ.1 261 c ∧ σ1.1 262 c = σ.1 262 c) (hn : 0 ≤ (σ1.1 261 (σ.1 236 39).toInt.toNat).toInt ∧ (σ1.1 261 (σ.1 236 39).toInt.toNat).toInt ≤ 1 ∧ (σ1.1 261 (σ.1 236 39).toInt.toNat).toInt < 2 ∧ ((σ1.1 261 (σ.1 236 39).toInt.toNat).toInt = 1 → 0 ≤ (σ1.1 262 (σ.1 236 39).toInt.toNat).toInt ∧ (σ1.1 262 (σ.1 236 39).toInt.toNat).toInt ≤ 8)) : EXg s0 W u bs 1 σ1 := by
  obtain ⟨⟨h0, h1⟩, h2, h3, h4, h5, h7, h8⟩ := h
  have en : (σ1.1 236 39).toInt.toNat = (σ.1 236 39).toInt.toNat + 1 := by omega
  have q := h5.emit (cd1 := σ1.1 261) (ci1 := σ1.1 262) (by omega) (fun c hc => hr c (by omega)) ⟨hn.1, by omega⟩ hn.2.2.2 (fun h9 => absurd h9 (by omega))
  unfold EXg
  rw [e263, eo, en]
  refine ⟨⟨h0, by omega⟩, h2, h3, h4, q.1, ?_, fun c hc => ?_⟩
  · rw [q.2, if_pos hn.2.2.1, h7]
    omega
  · have a := hr c (by omega)
    have b := h8 c hc
    exact ⟨a.1.trans b.1, a.2.trans b.2⟩
theorem EXg.out {s0 σ σ1 : HS} {W W1 bs : Int} {u : Nat} {x y : Int32} (h : EXg s0 W u bs 1 σ) (hW : W = W1 + 1) (hW0 : 0 ≤ W1) (h6 : (σ.1 263 W1.toNat).toInt ≠ 6) (e263 : σ1.1 263 = σ.1 263) (eo : (σ1.1 236 12).toInt = (σ.1 236 12).toInt) (ec : (σ1.1 236 39).toInt = (σ.1 236 39).toInt + 1) (hr : ∀ c : Nat, (c : Int) ≠ (σ.1 236 39).toInt → σ1.1 261 c = σ.1 261 c ∧ σ1.1 262 c = σ.1 262 c) (hn : σ1.1 261 (σ.1 236 39).toInt.toNat = x ∧ σ1.1 262 (σ.1 236 39).toInt.toNat = y) (hx : 2 ≤ x.toInt ∧ x.toInt ≤ 5) : EXg s0 W1 u bs 1 σ1 := by
  obtain ⟨⟨h0, h1⟩, h2, h3, h4, h5, h7, h8⟩ := h
  subst hW
  have en : (σ1.1 236 39).toInt.toNat = (σ.1 236 39).toInt.toNat + 1 := by omega
  have eW : (W1 + 1).toNat = W1.toNat + 1 := by omega
  rw [eW] at h2 h3 h4
  have h4b : opn (σ.1 263) W1.toNat + (if (σ.1 263 W1.toNat).toInt = 6 then 1 else 0) = (σ.1 236 12).toInt - bs := h4
  rw [if_neg h6] at h4b
  have hr1 := opn_rg (w := σ.1 263) W1.toNat
  have ex : (σ1.1 261 (σ.1 236 39).toInt.toNat).toInt = x.toInt := congrArg Int32.toInt hn.1
  have q := h5.emit (cd1 := σ1.1 261) (ci1 := σ1.1 262) (by omega) (fun c hc => hr c (by omega)) ⟨by omega, by omega⟩ (fun h9 => absurd h9 (by omega)) (fun _ => by rw [h7]; omega)
  unfold EXg
  rw [e263, eo, en]
  refine ⟨⟨hW0, by omega⟩, fun i hi => h2 i (by omega), h3.le (by omega), by omega, q.1, ?_, fun c hc => ?_⟩
  · rw [q.2, if_neg (by omega), h7]
    omega
  · have a := hr c (by omega)
    have b := h8 c hc
    exact ⟨a.1.trans b.1, a.2.trans b.2⟩
theorem tcc_top {w : Nat → Int32} {n : Nat} (h : tcc w (n + 1) = 0) : (w n).toInt = 6 := by
  have h1 : (if (w n).toInt = 6 then (0 : Int) else if (w n).toInt = 8 ∨ (w n).toInt = 9 then 1 else 2) = 0 := h
  by_cases e : (w n).toInt = 6
  · exact e
  · rw [if_neg e] at h1
    split at h1 <;> omega
theorem tcc_le {w : Nat → Int32} {W x : Int} (h : W = 0 ∨ (1 ≤ W ∧ ((w (W - 1).toNat).toInt = 6 ∨ (((w (W - 1).toNat).toInt = 8 ∨ (w (W - 1).toNat).toInt = 9) ∧ 1 ≤ x)))) (hx : 0 ≤ x) : tcc w W.toNat ≤ x := by
  rcases h with h | ⟨h1, h2⟩
  · subst h
    exact hx
  · rw [show W.toNat = (W - 1).toNat + 1 by omega]
    show (if (w (W - 1).toNat).toInt = 6 then (0 : Int) else if (w (W - 1).toNat).toInt = 8 ∨ (w (W - 1).toNat).toInt = 9 then 1 else 2) ≤ x
    rcases h2 with h2 | ⟨h2, h3⟩
    · rw [if_pos h2]; exact hx
    · rw [if_neg (by omega), if_pos h2]; exact h3
theorem EXg.close {s0 σ σ1 : HS} {W W1 bs : Int} {u : Nat} (h : EXg s0 W u bs 1 σ) (hW : W1 = W - 1) (hp : bs < (σ.1 236 12).toInt) (ht : tcc (σ.1 263) W.toNat ≤ 0) (e261 : σ1.1 261 = σ.1 261) (e262 : σ1.1 262 = σ.1 262) (e263 : σ1.1 263 = σ.1 263) (eo : (σ1.1 236 12).toInt = (σ.1 236 12).toInt - 1) (ec : (σ1.1 236 39).toInt = (σ.1 236 39).toInt) : EXg s0 W1 u bs 1 σ1 := by
  have hg := h.rg
  obtain ⟨⟨h0, h1⟩, h2, h3, h4, h5, h7, h8⟩ := h
  have hn : W.toNat = W1.toNat + 1 := by omega
  have t0 := (tcc_rg (w := σ.1 263) W.toNat).1
  have t1 : tcc (σ.1 263) (W1.toNat + 1) = 0 := by rw [← hn]; omega
  have h6 := tcc_top t1
  rw [hn] at h2 h3 h4
  have h4b : opn (σ.1 263) W1.toNat + (if (σ.1 263 W1.toNat).toInt = 6 then 1 else 0) = (σ.1 236 12).toInt - bs := h4
  rw [if_pos h6] at h4b
  unfold EXg
  rw [ec, e261, e262, e263, eo]
  refine ⟨⟨by omega, h1⟩, fun i hi => h2 i (by omega), h3.le (by omega), by omega, h5, ?_, h8⟩
  rw [h7]
  omega
theorem EXg.oper {s0 σ σ1 : HS} {W W1 bs x : Int} {u : Nat} (h : EXg s0 W u bs 1 σ) (hW : W1 = W + 1) (ht : tcc (σ.1 263) W.toNat ≤ x) (e261 : σ1.1 261 = σ.1 261) (e262 : σ1.1 262 = σ.1 262) (e263 : ∀ j : Nat, (j : Int) < W → σ1.1 263 j = σ.1 263 j) (hv : (((σ1.1 263 W.toNat).toInt = 8 ∨ (σ1.1 263 W.toNat).toInt = 9) ∧ x ≤ 0) ∨ (((σ1.1 263 W.toNat).toInt = 10 ∨ (σ1.1 263 W.toNat).toInt = 15) ∧ x ≤ 1)) (eo : (σ1.1 236 12).toInt = (σ.1 236 12).toInt) (ec : (σ1.1 236 39).toInt = (σ.1 236 39).toInt) : EXg s0 W1 u bs 0 σ1 := by
  obtain ⟨⟨h0, h1⟩, h2, h3, h4, h5, h7, h8⟩ := h
  subst hW
  have en : (W + 1).toNat = W.toNat + 1 := by omega
  have e3 : ∀ j, j < W.toNat → σ1.1 263 j = σ.1 263 j := fun j hj => e263 j (by omega)
  have t0 := (tcc_rg (w := σ.1 263) W.toNat).1
  unfold EXg
  rw [ec, e261, e262, en, eo]
  refine ⟨⟨by omega, h1⟩, h2.push e3 (by omega), h3.push e3 (by omega), ?_, h5, ?_, h8⟩
  · show opn (σ1.1 263) W.toNat + (if (σ1.1 263 W.toNat).toInt = 6 then 1 else 0) = _
    rw [if_neg (by omega), opn_cong _ e3, h4]
    omega
  · rw [h7]
    omega
/-- the token ahead is an operator; a strong one -/
def KOP (σ : HS) : Prop := (σ.1 239 (σ.1 236 11).toInt.toNat).toInt = 8 ∨ (σ.1 239 (σ.1 236 11).toInt.toNat).toInt = 9 ∨ (σ.1 239 (σ.1 236 11).toInt.toNat).toInt = 10 ∨ (σ.1 239 (σ.1 236 11).toInt.toNat).toInt = 15
def KOS (σ : HS) (x : Int) : Prop := x = 0 ∨ (x = 1 ∧ ((σ.1 239 (σ.1 236 11).toInt.toNat).toInt = 10 ∨ (σ.1 239 (σ.1 236 11).toInt.toNat).toInt = 15))
/-! what an expression leaves -/
def EXh (σ σ1 : HS) : Prop := (∀ c : Nat, (c : Int) < (σ.1 236 39).toInt → σ1.1 261 c = σ.1 261 c ∧ σ1.1 262 c = σ.1 262 c) ∧ ((σ1.1 236 13).toInt = 0 → PGm (σ1.1 261) (σ1.1 262) (σ.1 236 39).toInt.toNat (σ1.1 236 39).toInt.toNat)
theorem EXg.fin {σ σ1 : HS} {W bs d : Int} (h : EXg σ W (σ.1 236 39).toInt.toNat bs d σ1) (h0 : 0 ≤ (σ.1 236 39).toInt) : EXh σ σ1 := ⟨fun c hc => h.2.2.2.2.2.2 c (by omega), fun _ => h.2.2.2.2.1⟩
theorem EXg.fault {σ σ2 σ1 : HS} {W bs d : Int} (h : EXg σ W (σ.1 236 39).toInt.toNat bs d σ2) (hc : (σ.1 236 39).toInt ≤ (σ2.1 236 39).toInt) (hr : ∀ c : Nat, (c : Int) ≠ (σ2.1 236 39).toInt → σ1.1 261 c = σ2.1 261 c ∧ σ1.1 262 c = σ2.1 262 c) (hf : (σ1.1 236 13).toInt ≠ 0) : EXh σ σ1 := ⟨fun c h9 => by
  have a := hr c (by omega)
  have b := h.2.2.2.2.2.2 c (by omega)
  exact ⟨a.1.trans b.1, a.2.trans b.2⟩, fun e => absurd e hf⟩
/-! a term, and what a branch was told before it -/
def TRM (σ σ1 : HS) : Prop := ((σ1.1 236 33).toInt = (σ.1 236 33).toInt + 1 ∧ (σ.1 236 39).toInt ≤ (σ1.1 236 39).toInt) ∧ (∀ q : Nat, (q : Int) ≠ (σ.1 236 33).toInt → σ1.1 259 q = σ.1 259 q ∧ σ1.1 260 q = σ.1 260 q) ∧ ((σ1.1 259 (σ.1 236 33).toInt.toNat).toInt = (σ.1 236 39).toInt ∧ (σ1.1 260 (σ.1 236 33).toInt.toNat).toInt = (σ1.1 236 39).toInt) ∧ EXh σ σ1
def TL1 (s0 σ : HS) : Prop := ((σ.1 236 19).toInt = (s0.1 236 19).toInt ∧ (σ.1 236 33).toInt = (s0.1 236 33).toInt ∧ (s0.1 236 39).toInt ≤ (σ.1 236 39).toInt) ∧ (σ.1 254 = s0.1 254 ∧ σ.1 255 = s0.1 255 ∧ σ.1 259 = s0.1 259 ∧ σ.1 260 = s0.1 260) ∧ (∀ q : Nat, (q : Int) ≠ (s0.1 236 33).toInt → σ.1 256 q = s0.1 256 q ∧ σ.1 257 q = s0.1 257 q ∧ σ.1 258 q = s0.1 258 q) ∧ (∀ c : Nat, (c : Int) < (s0.1 236 39).toInt → σ.1 261 c = s0.1 261 c ∧ σ.1 262 c = s0.1 262 c) ∧ ((σ.1 236 13).toInt = 0 → (σ.1 256 (s0.1 236 33).toInt.toNat).toInt ≠ 0 → ∃ M : Int, (σ.1 257 (s0.1 236 33).toInt.toNat).toInt = (s0.1 236 39).toInt ∧ (σ.1 258 (s0.1 236 33).toInt.toNat).toInt = M ∧ (s0.1 236 39).toInt ≤ M ∧ M ≤ (σ.1 236 39).toInt ∧ PGm (σ.1 261) (σ.1 262) (s0.1 236 39).toInt.toNat M.toNat ∧ PGm (σ.1 261) (σ.1 262) M.toNat (σ.1 236 39).toInt.toNat)
theorem PGm.re {cd ci : Nat → Int32} {u n u1 n1 : Nat} (h : PGm cd ci u n) (hu : u1 = u) (hn : n1 = n) : PGm cd ci u1 n1 := by subst hu; subst hn; exact h
def okT (L : List Nat) : Bool := [1019, 1033, 1039, 254, 255, 256, 257, 258, 259, 260, 261, 262].all (fun i => !(L.contains i))
theorem TL1.ony {L : List Nat} {s0 σ σ1 : HS} (h : TL1 s0 σ) (ho : onm L σ σ1) (hk : okT L = true) (hf : (σ1.1 236 13).toInt = 0 → (σ.1 236 13).toInt = 0) : TL1 s0 σ1 := by
  unfold okT at hk
  simp only [List.all_cons, List.all_nil, Bool.and_true, Bool.and_eq_true, Bool.not_eq_true'] at hk
  obtain ⟨h19, h33, h39, h254, h255, h256, h257, h258, h259, h260, h261, h262⟩ := hk
  have f : ∀ k, L.contains (1000 + k) = false → σ1.1 236 k = σ.1 236 k := fun k hk => ho.1 236 k (by unfold wr; rw [if_pos rfl]; exact hk)
  unfold TL1
  rw [f 19 h19, f 33 h33, f 39 h39, ho.a (i := 254) (by rw [h254]; decide), ho.a (i := 255) (by rw [h255]; decide), ho.a (i := 256) (by rw [h256]; decide), ho.a (i := 257) (by rw [h257]; decide), ho.a (i := 258) (by rw [h258]; decide), ho.a (i := 259) (by rw [h259]; decide), ho.a (i := 260) (by rw [h260]; decide), ho.a (i := 261) (by rw [h261]; decide), ho.a (i := 262) (by rw [h262]; decide)]
  exact ⟨h.1, h.2.1, h.2.2.1, h.2.2.2.1, fun e => h.2.2.2.2 (hf e)⟩
theorem TL1.base {L : List Nat} {s0 s1 σ : HS} (h : TL1 s1 σ) (ho : onm L s0 s1) (hk : okT L = true) : TL1 s0 σ := by
  unfold okT at hk
  simp only [List.all_cons, List.all_nil, Bool.and_true, Bool.and_eq_true, Bool.not_eq_true'] at hk
  obtain ⟨h19, h33, h39, h254, h255, h256, h257, h258, h259, h260, h261, h262⟩ := hk
  have f : ∀ k, L.contains (1000 + k) = false → s1.1 236 k = s0.1 236 k := fun k hk => ho.1 236 k (by unfold wr; rw [if_pos rfl]; exact hk)
  unfold TL1 at h ⊢
  rw [f 19 h19, f 33 h33, f 39 h39, ho.a (i := 254) (by rw [h254]; decide), ho.a (i := 255) (by rw [h255]; decide), ho.a (i := 256) (by rw [h256]; decide), ho.a (i := 257) (by rw [h257]; decide), ho.a (i := 258) (by rw [h258]; decide), ho.a (i := 259) (by rw [h259]; decide), ho.a (i := 260) (by rw [h260]; decide), ho.a (i := 261) (by rw [h261]; decide), ho.a (i := 262) (by rw [h262]; decide)] at h
  exact h
/-! the side's laws so far -/
def BOK (n : Nat) (C : Int) (σ : HS) (q : Nat) : Prop := BRq (σ.1 256) (σ.1 257) (σ.1 258) (σ.1 259) (σ.1 260) (σ.1 261) (σ.1 262) q ∧ RGq n (σ.1 256 q) (σ.1 257 q) (σ.1 258 q) (σ.1 259 q) (σ.1 260 q) q ∧ ((σ.1 256 q).toInt ≠ 0 → (σ.1 258 q).toInt ≤ C ∧ (σ.1 259 q).toInt ≤ C) ∧ (σ.1 260 q).toInt ≤ C
theorem BOK.cong {n : Nat} {C C1 : Int} {σ σ1 : HS} {q : Nat} (h : BOK n C σ q) (hC : C ≤ C1) (e : σ1.1 256 q = σ.1 256 q ∧ σ1.1 257 q = σ.1 257 q ∧ σ1.1 258 q = σ.1 258 q ∧ σ1.1 259 q = σ.1 259 q ∧ σ1.1 260 q = σ.1 260 q) (ec : ∀ c : Nat, (c : Int) < C → σ1.1 261 c = σ.1 261 c ∧ σ1.1 262 c = σ.1 262 c) : BOK n C1 σ1 q := by
  obtain ⟨hb, hg, hm, ht⟩ := h
  obtain ⟨e1, e2, e3, e4, e5⟩ := e
  unfold BOK BRq
  unfold BRq at hb
  rw [e1, e2, e3, e4, e5]
  refine ⟨⟨fun hn => ⟨(hb.1 hn).1.cong (fun c c1 c2 => ec c ?_), (hb.1 hn).2.cong (fun c c1 c2 => ec c ?_)⟩, hb.2.cong (fun c c1 c2 => ec c ?_)⟩, hg, fun hn => ?_, by omega⟩
  · have := hm hn; omega
  · have := hm hn; omega
  · omega
  · have := hm hn; omega
def LAW (σ : HS) : Prop := (∀ q : Nat, 130 * (σ.1 236 19).toInt ≤ q → (q : Int) < (σ.1 236 33).toInt → BOK (σ.1 236 19).toInt.toNat (σ.1 236 39).toInt σ q) ∧ (∀ k, k < 4 → (0 ≤ (σ.1 254 (4 * (σ.1 236 19).toInt.toNat + k)).toInt ∧ (σ.1 254 (4 * (σ.1 236 19).toInt.toNat + k)).toInt ≤ 260) ∧ (σ.1 255 (4 * (σ.1 236 19).toInt.toNat + k)).toInt ≤ 260 ∧ ((σ.1 254 (4 * (σ.1 236 19).toInt.toNat + k)).toInt < (σ.1 255 (4 * (σ.1 236 19).toInt.toNat + k)).toInt → 130 * (σ.1 236 19).toInt ≤ (σ.1 254 (4 * (σ.1 236 19).toInt.toNat + k)).toInt ∧ (σ.1 255 (4 * (σ.1 236 19).toInt.toNat + k)).toInt ≤ (σ.1 236 33).toInt))
theorem LAW.ony {L : List Nat} {σ σ1 : HS} (h : LAW σ) (ho : onm L σ σ1) (hk : okT L = true) : LAW σ1 := by
  unfold okT at hk
  simp only [List.all_cons, List.all_nil, Bool.and_true, Bool.and_eq_true, Bool.not_eq_true'] at hk
  obtain ⟨h19, h33, h39, h254, h255, h256, h257, h258, h259, h260, h261, h262⟩ := hk
  have f : ∀ k, L.contains (1000 + k) = false → σ1.1 236 k = σ.1 236 k := fun k hk => ho.1 236 k (by unfold wr; rw [if_pos rfl]; exact hk)
  unfold LAW BOK
  rw [f 19 h19, f 33 h33, f 39 h39, ho.a (i := 254) (by rw [h254]; decide), ho.a (i := 255) (by rw [h255]; decide), ho.a (i := 256) (by rw [h256]; decide), ho.a (i := 257) (by rw [h257]; decide), ho.a (i := 258) (by rw [h258]; decide), ho.a (i := 259) (by rw [h259]; decide), ho.a (i := 260) (by rw [h260]; decide), ho.a (i := 261) (by rw [h261]; decide), ho.a (i := 262) (by rw [h262]; decide)]
  exact h
theorem LAW.zero {σ : HS} (hb : (σ.1 236 33).toInt ≤ 130 * (σ.1 236 19).toInt) (hl : ∀ k, k < 4 → (σ.1 254 (4 * (σ.1 236 19).toInt.toNat + k)).toInt = 0 ∧ (σ.1 255 (4 * (σ.1 236 19).toInt.toNat + k)).toInt = 0) : LAW σ := ⟨fun q h1 h2 => absurd h1 (by omega), fun k hk => by have a := hl k hk; omega⟩
theorem LAW.add {s0 σ σ1 : HS} (h : LAW s0) (hT : TL1 s0 σ) (hR : TRM σ σ1) (es : (σ1.1 236 19).toInt = (σ.1 236 19).toInt) (e254 : σ1.1 254 = σ.1 254) (e255 : σ1.1 255 = σ.1 255) (e256 : σ1.1 256 = σ.1 256) (e257 : σ1.1 257 = σ.1 257) (e258 : σ1.1 258 = σ.1 258) (hf : (σ.1 236 13).toInt = 0) (hf1 : (σ1.1 236 13).toInt = 0) (hs : 0 ≤ (σ.1 236 19).toInt ∧ (σ.1 236 19).toInt ≤ 1) (hc0 : 420 * (σ.1 236 19).toInt ≤ (s0.1 236 39).toInt) (hc1 : (σ1.1 236 39).toInt ≤ 420 * (σ.1 236 19).toInt + 400) (hb0 : 130 * (σ.1 236 19).toInt ≤ (σ.1 236 33).toInt) (hb1 : (σ.1 236 33).toInt ≤ 130 * (σ.1 236 19).toInt + 129) : LAW σ1 := by
  obtain ⟨⟨t1, t2, t3⟩, ⟨t4, t5, t6, t7⟩, t8, t9, t10⟩ := hT
  obtain ⟨⟨r1, r2⟩, r3, ⟨r4, r5⟩, r6, r7⟩ := hR
  obtain ⟨a1, a2⟩ := h
  refine ⟨fun q q1 q2 => ?_, fun k hk => ?_⟩
  · by_cases hq : (q : Int) < (s0.1 236 33).toInt
    · have b := a1 q (by omega) hq
      rw [show (s0.1 236 19).toInt.toNat = (σ1.1 236 19).toInt.toNat by omega] at b
      have c8 := t8 q (by omega)
      have c3 := r3 q (by omega)
      refine b.cong (by omega) ⟨by rw [e256]; exact c8.1, by rw [e257]; exact c8.2.1, by rw [e258]; exact c8.2.2, by rw [c3.1, t6], by rw [c3.2, t7]⟩ (fun c hc => ?_)
      have d1 := r6 c (by omega)
      have d2 := t9 c hc
      exact ⟨d1.1.trans d2.1, d1.2.trans d2.2⟩
    · have eq : q = (σ.1 236 33).toInt.toNat := by omega
      have eq0 : q = (s0.1 236 33).toInt.toNat := by omega
      have p3 := r7 hf1
      rw [← eq] at r4 r5
      rw [← eq0] at t10
      have en : (((σ1.1 236 19).toInt.toNat : Nat) : Int) = (σ.1 236 19).toInt := by omega
      refine ⟨⟨fun hn => ?_, ?_⟩, ⟨by omega, by omega, fun hn => ?_, by omega, by omega⟩, fun hn => ?_, by omega⟩
      · rw [e256] at hn
        obtain ⟨M, m1, m2, m3, m4, m5, m6⟩ := t10 hf hn
        rw [e257, e258]
        refine ⟨?_, ?_⟩
        · exact (m5.cong (fun c c1 c2 => r6 c (by omega))).seg (u := (s0.1 236 39).toInt.toNat) (n := M.toNat) (by omega) (by omega) (by omega) (by omega) (by omega)
        · exact (m6.cong (fun c c1 c2 => r6 c (by omega))).seg (u := M.toNat) (n := (σ.1 236 39).toInt.toNat) (by omega) (by omega) (by omega) (by omega) (by omega)
      · exact p3.seg (by omega) (by omega) (by omega) (by omega) (by omega)
      · rw [e256] at hn
        obtain ⟨M, m1, m2, m3, m4, m5, m6⟩ := t10 hf hn
        rw [e257, e258]
        omega
      · rw [e256] at hn
        obtain ⟨M, m1, m2, m3, m4, m5, m6⟩ := t10 hf hn
        rw [e258]
        omega
  · have b := a2 k hk
    rw [show (s0.1 236 19).toInt.toNat = (σ1.1 236 19).toInt.toNat by omega] at b
    rw [e254, e255, t4, t5]
    omega
theorem LAW.law {σ σ1 : HS} {x1 : Int32} (h : LAW σ) (hx : 0 ≤ x1.toInt ∧ x1.toInt ≤ 3) (hs : 0 ≤ (σ.1 236 19).toInt) (f33 : (σ1.1 236 33).toInt = (σ.1 236 33).toInt) (f19 : (σ1.1 236 19).toInt = (σ.1 236 19).toInt) (f39 : (σ1.1 236 39).toInt = (σ.1 236 39).toInt) (e256 : σ1.1 256 = σ.1 256) (e257 : σ1.1 257 = σ.1 257) (e258 : σ1.1 258 = σ.1 258) (e259 : σ1.1 259 = σ.1 259) (e260 : σ1.1 260 = σ.1 260) (e261 : σ1.1 261 = σ.1 261) (e262 : σ1.1 262 = σ.1 262) (ek : ∀ j : Nat, (j : Int) ≠ 4 * (σ.1 236 19).toInt + x1.toInt → σ1.1 254 j = σ.1 254 j ∧ σ1.1 255 j = σ.1 255 j) (hf : 130 * (σ.1 236 19).toInt ≤ (σ1.1 254 (4 * (σ.1 236 19).toInt + x1.toInt).toNat).toInt ∧ (σ1.1 254 (4 * (σ.1 236 19).toInt + x1.toInt).toNat).toInt ≤ 260) (hl : (σ1.1 255 (4 * (σ.1 236 19).toInt + x1.toInt).toNat).toInt = (σ.1 236 33).toInt) (hb : (σ.1 236 33).toInt ≤ 260) : LAW σ1 := by
  obtain ⟨a1, a2⟩ := h
  have en : (σ1.1 236 19).toInt.toNat = (σ.1 236 19).toInt.toNat := by omega
  refine ⟨fun q q1 q2 => ?_, fun k hk => ?_⟩
  · rw [en]
    exact (a1 q (by omega) (by omega)).cong (by omega) ⟨by rw [e256], by rw [e257], by rw [e258], by rw [e259], by rw [e260]⟩ (fun c hc => ⟨by rw [e261], by rw [e262]⟩)
  · rw [en]
    by_cases e : k = x1.toInt.toNat
    · rw [show 4 * (σ.1 236 19).toInt.toNat + k = (4 * (σ.1 236 19).toInt + x1.toInt).toNat by omega]
      omega
    · have b := a2 k hk
      have c := ek (4 * (σ.1 236 19).toInt.toNat + k) (by omega)
      rw [c.1, c.2]
      omega
theorem LAW.lw {σ : HS} (h : LAW σ) (hs : 0 ≤ (σ.1 236 19).toInt) : LWq (σ.1 236 19).toInt.toNat (σ.1 254) (σ.1 255) (σ.1 256) (σ.1 257) (σ.1 258) (σ.1 259) (σ.1 260) (σ.1 261) (σ.1 262) := by
  intro k hk
  obtain ⟨b1, b2, b3⟩ := h.2 k hk
  refine ⟨b1, b2, fun q q1 q2 => ?_⟩
  have b4 := b3 (by omega)
  have c := h.1 q (by omega) (by omega)
  exact ⟨c.1, c.2.1⟩
/-! the side's patterns; all of the side -/
def LNG (σ : HS) : Prop := ∀ p : Nat, (p : Int) < (σ.1 249 (σ.1 236 19).toInt.toNat).toInt → 1 ≤ (σ.1 250 (5 * (σ.1 236 19).toInt.toNat + p)).toInt
def RDI (σ : HS) : Prop := (σ.1 236 13).toInt = 0 → LAW σ ∧ LNG σ ∧ (σ.1 236 20).toInt ≤ (σ.1 245 (σ.1 236 19).toInt.toNat).toInt + (σ.1 249 (σ.1 236 19).toInt.toNat).toInt ∧ 4 * ((σ.1 236 33).toInt - 130 * (σ.1 236 19).toInt) ≤ (σ.1 236 11).toInt ∧ (σ.1 236 39).toInt ≤ 420 * (σ.1 236 19).toInt + (σ.1 236 11).toInt ∧ (σ.1 236 12).toInt ≤ 6 ∧ 130 * (σ.1 236 19).toInt ≤ (σ.1 236 33).toInt ∧ 420 * (σ.1 236 19).toInt ≤ (σ.1 236 39).toInt
theorem LNG.ony {L : List Nat} {σ σ1 : HS} (h : LNG σ) (ho : onm L σ σ1) (h19 : L.contains 1019 = false) (h249 : L.contains 249 = false) (h250 : L.contains 250 = false) : LNG σ1 := by
  have f : σ1.1 236 19 = σ.1 236 19 := ho.1 236 19 (by unfold wr; rw [if_pos rfl]; exact h19)
  unfold LNG
  rw [f, ho.a (i := 249) (by rw [h249]; decide), ho.a (i := 250) (by rw [h250]; decide)]
  exact h
theorem LNG.add {σ σ1 : HS} (h : LNG σ) (hs : 0 ≤ (σ.1 236 19).toInt) (f19 : (σ1.1 236 19).toInt = (σ.1 236 19).toInt) (e249 : (σ1.1 249 (σ.1 236 19).toInt.toNat).toInt ≤ (σ.1 249 (σ.1 236 19).toInt.toNat).toInt + 1) (er : ∀ p : Nat, (p : Int) ≠ (5 * (σ.1 236 19).toInt + (σ.1 249 (σ.1 236 19).toInt.toNat).toInt) → σ1.1 250 p = σ.1 250 p) (hn : 1 ≤ (σ1.1 250 (5 * (σ.1 236 19).toInt + (σ.1 249 (σ.1 236 19).toInt.toNat).toInt).toNat).toInt) : LNG σ1 := by
  intro p hp
  have en : (σ1.1 236 19).toInt.toNat = (σ.1 236 19).toInt.toNat := by omega
  rw [en] at hp ⊢
  by_cases e : (p : Int) = (σ.1 249 (σ.1 236 19).toInt.toNat).toInt
  · rw [show 5 * (σ.1 236 19).toInt.toNat + p = (5 * (σ.1 236 19).toInt + (σ.1 249 (σ.1 236 19).toInt.toNat).toInt).toNat by omega]
    exact hn
  · rw [er _ (by omega)]
    exact h p (by omega)
theorem zr_step {σ : HS} {n : Nat} {v k k1 : Int32} (h : ∀ q : Nat, (q : Int) < k.toInt → (σ.1 267 q).toInt = 0) (hn : (n : Int) = k.toInt) (hk : k1.toInt = k.toInt + 1) (e : v.toInt = 0) : ∀ q : Nat, (q : Int) < k1.toInt → ((hI σ 267 n v).1 267 q).toInt = 0 := by
  intro q hq
  by_cases e1 : q = n
  · rw [e1, hI_s]; exact e
  · rw [hI_n e1]
    exact h q (by omega)
/-- the new text in force, slots emptied up to k -/
def RKp (k : Int) (σ : HS) : Prop := (LWq (σ.1 236 18).toInt.toNat (σ.1 254) (σ.1 255) (σ.1 256) (σ.1 257) (σ.1 258) (σ.1 259) (σ.1 260) (σ.1 261) (σ.1 262) ∧ (σ.1 236 54).toInt = 0) ∧ rw3 300 (plm σ) (σ.1 267 21) (σ.1 267 26) (σ.1 267 27) ∧ rw3 0 (plm σ) (σ.1 266 21) (σ.1 266 26) (σ.1 266 27) ∧ (∀ s : Nat, (s : Int) < k → (σ.1 275 s).toInt = 0) ∧ (∀ p : Nat, (p : Int) < plm σ → 1 ≤ (σ.1 250 (5 * (σ.1 236 18).toInt.toNat + p)).toInt)
theorem RKp.mk {σ σ1 : HS} {k : Int} (hL : LAW σ) (hN : LNG σ) (hs : 0 ≤ (σ.1 236 19).toInt) (f18 : (σ1.1 236 18).toInt = (σ.1 236 19).toInt) (e249 : σ1.1 249 = σ.1 249) (e250 : σ1.1 250 = σ.1 250) (e254 : σ1.1 254 = σ.1 254) (e255 : σ1.1 255 = σ.1 255) (e256 : σ1.1 256 = σ.1 256) (e257 : σ1.1 257 = σ.1 257) (e258 : σ1.1 258 = σ.1 258) (e259 : σ1.1 259 = σ.1 259) (e260 : σ1.1 260 = σ.1 260) (e261 : σ1.1 261 = σ.1 261) (e262 : σ1.1 262 = σ.1 262) (hu : (σ1.1 236 54).toInt = 0) (hr : rw3 300 (plm σ1) (σ1.1 267 21) (σ1.1 267 26) (σ1.1 267 27)) (hn : rw3 0 (plm σ1) (σ1.1 266 21) (σ1.1 266 26) (σ1.1 266 27)) (hk : k ≤ 0) : RKp k σ1 := by
  have en : (σ1.1 236 18).toInt.toNat = (σ.1 236 19).toInt.toNat := by omega
  refine ⟨⟨?_, hu⟩, hr, hn, fun s h9 => absurd h9 (by omega), fun p hp => ?_⟩
  · rw [en, e254, e255, e256, e257, e258, e259, e260, e261, e262]
    exact hL.lw hs
  · unfold plm at hp
    rw [en, e249] at hp
    rw [en, e250]
    exact hN p hp
theorem RKp.st {σ : HS} {k k1 : Int} {n : Nat} {v : Int32} (h : RKp k σ) (hn : (n : Int) = k) (hk : k1 = k + 1) (e : v.toInt = 0) : RKp k1 (hI σ 275 n v) := by
  obtain ⟨h1, h2, h3, h4, h5⟩ := h
  refine ⟨h1, h2, h3, fun s hs => ?_, h5⟩
  by_cases e1 : s = n
  · rw [e1, hI_s]; exact e
  · rw [hI_n e1]
    exact h4 s (by omega)
theorem RKp.fin {σ : HS} {b k : Int} (h : RKp k σ) (hk : 3 ≤ k) (hb : 0 ≤ b ∧ b ≤ 40000) : RKm b σ := by
  obtain ⟨⟨h1, hu⟩, h2, h3, h4, h5⟩ := h
  unfold plm at h2 h3 h5
  exact ⟨⟨hb.2, h2.mono (by omega), h3.mono (by omega), fun u h9 => absurd h9 (by omega), fun s hs h9 => absurd (h4 s (by omega)) h9, fun p hp => h5 p hp⟩, h1⟩
