/-! an expression under way -/
def EXg (s0 : HS) (W : Int) (u : Nat) (bs d : Int) (σ : HS) : Prop := (0 ≤ W ∧ (u : Int) ≤ (σ.1 236 39).toInt) ∧ WK (σ.1 263) W.toNat ∧ WB (σ.1 263) W.toNat ∧ opn (σ.1 263) W.toNat = (σ.1 236 12).toInt - bs ∧ PGm (σ.1 261) (σ.1 262) u (σ.1 236 39).toInt.toNat ∧ dep (σ.1 261) u ((σ.1 236 39).toInt.toNat - u) = W - ((σ.1 236 12).toInt - bs) + d ∧ (∀ c : Nat, c < u → σ.1 261 c = s0.1 261 c ∧ σ.1 262 c = s0.1 262 c)
theorem EXg.W {s0 σ : HS} {W W1 bs d : Int} {u : Nat} (h : EXg s0 W u bs d σ) (e : W1 = W) : EXg s0 W1 u bs d σ := by subst e; exact h
/-! what an expression leaves -/
def EXh (σ σ1 : HS) : Prop := (∀ c : Nat, (c : Int) < (σ.1 236 39).toInt → σ1.1 261 c = σ.1 261 c ∧ σ1.1 262 c = σ.1 262 c) ∧ ((σ1.1 236 13).toInt = 0 → PGm (σ1.1 261) (σ1.1 262) (σ.1 236 39).toInt.toNat (σ1.1 236 39).toInt.toNat)
theorem EXg.fin {σ σ1 : HS} {W bs d : Int} (h : EXg σ W (σ.1 236 39).toInt.toNat bs d σ1) (h0 : 0 ≤ (σ.1 236 39).toInt) : EXh σ σ1 := ⟨fun c hc => h.2.2.2.2.2.2 c (by omega), fun _ => h.2.2.2.2.1⟩
/-! a term, and what a branch was told before it -/
def TRM (σ σ1 : HS) : Prop := ((σ1.1 236 33).toInt = (σ.1 236 33).toInt + 1 ∧ (σ.1 236 39).toInt ≤ (σ1.1 236 39).toInt) ∧ (∀ q : Nat, (q : Int) ≠ (σ.1 236 33).toInt → σ1.1 259 q = σ.1 259 q ∧ σ1.1 260 q = σ.1 260 q) ∧ ((σ1.1 259 (σ.1 236 33).toInt.toNat).toInt = (σ.1 236 39).toInt ∧ (σ1.1 260 (σ.1 236 33).toInt.toNat).toInt = (σ1.1 236 39).toInt) ∧ EXh σ σ1
def TL1 (s0 σ : HS) : Prop := ((σ.1 236 19).toInt = (s0.1 236 19).toInt ∧ (σ.1 236 33).toInt = (s0.1 236 33).toInt ∧ (s0.1 236 39).toInt ≤ (σ.1 236 39).toInt) ∧ (σ.1 254 = s0.1 254 ∧ σ.1 255 = s0.1 255 ∧ σ.1 259 = s0.1 259 ∧ σ.1 260 = s0.1 260) ∧ (∀ q : Nat, (q : Int) ≠ (s0.1 236 33).toInt → σ.1 256 q = s0.1 256 q ∧ σ.1 257 q = s0.1 257 q ∧ σ.1 258 q = s0.1 258 q) ∧ (∀ c : Nat, (c : Int) < (s0.1 236 39).toInt → σ.1 261 c = s0.1 261 c ∧ σ.1 262 c = s0.1 262 c) ∧ ((σ.1 236 13).toInt = 0 → (σ.1 256 (s0.1 236 33).toInt.toNat).toInt ≠ 0 → ∃ M : Int, (σ.1 257 (s0.1 236 33).toInt.toNat).toInt = (s0.1 236 39).toInt ∧ (σ.1 258 (s0.1 236 33).toInt.toNat).toInt = M ∧ (s0.1 236 39).toInt ≤ M ∧ M ≤ (σ.1 236 39).toInt ∧ PGm (σ.1 261) (σ.1 262) (s0.1 236 39).toInt.toNat M.toNat ∧ PGm (σ.1 261) (σ.1 262) M.toNat (σ.1 236 39).toInt.toNat)
/-! the side's laws so far -/
def BOK (n : Nat) (C : Int) (σ : HS) (q : Nat) : Prop := BRq (σ.1 256) (σ.1 257) (σ.1 258) (σ.1 259) (σ.1 260) (σ.1 261) (σ.1 262) q ∧ RGq n (σ.1 256 q) (σ.1 257 q) (σ.1 258 q) (σ.1 259 q) (σ.1 260 q) q ∧ ((σ.1 256 q).toInt ≠ 0 → (σ.1 258 q).toInt ≤ C ∧ (σ.1 259 q).toInt ≤ C) ∧ (σ.1 260 q).toInt ≤ C
theorem BOK.cong {n : Nat} {C C1 : Int} {σ σ1 : HS} {q : Nat} (h : BOK n C σ q) (hC : C ≤ C1) (e : σ1.1 256 q = σ.1 256 q ∧ σ1.1 257 q = σ.1 257 q ∧ σ1.1 258 q = σ.1 258 q ∧ σ1.1 259 q = σ.1 259 q ∧ σ1.1 260 q = σ.1 260 q) (ec : ∀ c : Nat, (c : Int) < C → σ1.1 261 c = σ.1 261 c ∧ σ1.1 262 c = σ.1 262 c) : BOK n C1 σ1 q := by
  obtain ⟨hb, hg, hm, ht⟩ := h
  obtain ⟨e1, e2, e3, e4, e5⟩ := e
  unfold BOK BRq
  unfold BRq at hb
  rw [e1, e2, e3, e4, e5]
  refine ⟨⟨fun hn => ⟨(hb.1 hn).1.cong (fun c c1 c2 => ec c ?_), (hb.1 hn).2.cong (fun c c1 c2 => ec c ?_)⟩, hb.2.cong (fun c c1 c2 => ec c ?_)⟩, hg, fun hn => ?_, by omega⟩
  · have := hm hn; omega
  · have := hm hn; omega
  · omega
  · have := hm hn; omega
def LAW (σ : HS) : Prop := (∀ q : Nat, 130 * (σ.1 236 19).toInt ≤ q → (q : Int) < (σ.1 236 33).toInt → BOK (σ.1 236 19).toInt.toNat (σ.1 236 39).toInt σ q) ∧ (∀ k, k < 4 → (0 ≤ (σ.1 254 (4 * (σ.1 236 19).toInt.toNat + k)).toInt ∧ (σ.1 254 (4 * (σ.1 236 19).toInt.toNat + k)).toInt ≤ 260) ∧ (σ.1 255 (4 * (σ.1 236 19).toInt.toNat + k)).toInt ≤ 260 ∧ ((σ.1 254 (4 * (σ.1 236 19).toInt.toNat + k)).toInt < (σ.1 255 (4 * (σ.1 236 19).toInt.toNat + k)).toInt → 130 * (σ.1 236 19).toInt ≤ (σ.1 254 (4 * (σ.1 236 19).toInt.toNat + k)).toInt ∧ (σ.1 255 (4 * (σ.1 236 19).toInt.toNat + k)).toInt ≤ (σ.1 236 33).toInt))
theorem LAW.zero {σ : HS} (hb : (σ.1 236 33).toInt ≤ 130 * (σ.1 236 19).toInt) (hl : ∀ k, k < 4 → (σ.1 254 (4 * (σ.1 236 19).toInt.toNat + k)).toInt = 0 ∧ (σ.1 255 (4 * (σ.1 236 19).toInt.toNat + k)).toInt = 0) : LAW σ := ⟨fun q h1 h2 => absurd h1 (by omega), fun k hk => by have a := hl k hk; omega⟩
theorem LAW.add {s0 σ σ1 : HS} (h : LAW s0) (hT : TL1 s0 σ) (hR : TRM σ σ1) (es : (σ1.1 236 19).toInt = (σ.1 236 19).toInt) (e254 : σ1.1 254 = σ.1 254) (e255 : σ1.1 255 = σ.1 255) (e256 : σ1.1 256 = σ.1 256) (e257 : σ1.1 257 = σ.1 257) (e258 : σ1.1 258 = σ.1 258) (hf : (σ.1 236 13).toInt = 0) (hf1 : (σ1.1 236 13).toInt = 0) (hs : 0 ≤ (σ.1 236 19).toInt ∧ (σ.1 236 19).toInt ≤ 1) (hc0 : 420 * (σ.1 236 19).toInt ≤ (s0.1 236 39).toInt) (hc1 : (σ1.1 236 39).toInt ≤ 420 * (σ.1 236 19).toInt + 400) (hb0 : 130 * (σ.1 236 19).toInt ≤ (σ.1 236 33).toInt) (hb1 : (σ.1 236 33).toInt ≤ 130 * (σ.1 236 19).toInt + 129) : LAW σ1 := by
  obtain ⟨⟨t1, t2, t3⟩, ⟨t4, t5, t6, t7⟩, t8, t9, t10⟩ := hT
  obtain ⟨⟨r1, r2⟩, r3, ⟨r4, r5⟩, r6, r7⟩ := hR
  obtain ⟨a1, a2⟩ := h
  refine ⟨fun q q1 q2 => ?_, fun k hk => ?_⟩
  · by_cases hq : (q : Int) < (s0.1 236 33).toInt
    · have b := a1 q (by omega) hq
      rw [show (s0.1 236 19).toInt.toNat = (σ1.1 236 19).toInt.toNat by omega] at b
      have c8 := t8 q (by omega)
      have c3 := r3 q (by omega)
      refine b.cong (by omega) ⟨by rw [e256]; exact c8.1, by rw [e257]; exact c8.2.1, by rw [e258]; exact c8.2.2, by rw [c3.1, t6], by rw [c3.2, t7]⟩ (fun c hc => ?_)
      have d1 := r6 c (by omega)
      have d2 := t9 c hc
      exact ⟨d1.1.trans d2.1, d1.2.trans d2.2⟩
    · have eq : q = (σ.1 236 33).toInt.toNat := by omega
      have eq0 : q = (s0.1 236 33).toInt.toNat := by omega
      have p3 := r7 hf1
      rw [← eq] at r4 r5
      rw [← eq0] at t10
      have en : (((σ1.1 236 19).toInt.toNat : Nat) : Int) = (σ.1 236 19).toInt := by omega
      refine ⟨⟨fun hn => ?_, ?_⟩, ⟨by omega, by omega, fun hn => ?_, by omega, by omega⟩, fun hn => ?_, by omega⟩
      · rw [e256] at hn
        obtain ⟨M, m1, m2, m3, m4, m5, m6⟩ := t10 hf hn
        rw [e257, e258]
        refine ⟨?_, ?_⟩
        · exact (m5.cong (fun c c1 c2 => r6 c (by omega))).seg (u := (s0.1 236 39).toInt.toNat) (n := M.toNat) (by omega) (by omega) (by omega) (by omega) (by omega)
        · exact (m6.cong (fun c c1 c2 => r6 c (by omega))).seg (u := M.toNat) (n := (σ.1 236 39).toInt.toNat) (by omega) (by omega) (by omega) (by omega) (by omega)
      · exact p3.seg (by omega) (by omega) (by omega) (by omega) (by omega)
      · rw [e256] at hn
        obtain ⟨M, m1, m2, m3, m4, m5, m6⟩ := t10 hf hn
        rw [e257, e258]
        omega
      · rw [e256] at hn
        obtain ⟨M, m1, m2, m3, m4, m5, m6⟩ := t10 hf hn
        rw [e258]
        omega
  · have b := a2 k hk
    rw [show (s0.1 236 19).toInt.toNat = (σ1.1 236 19).toInt.toNat by omega] at b
    rw [e254, e255, t4, t5]
    omega
/-! the side's patterns; all of the side -/
def LNG (σ : HS) : Prop := ∀ p : Nat, (p : Int) < (σ.1 249 (σ.1 236 19).toInt.toNat).toInt → 1 ≤ (σ.1 250 (5 * (σ.1 236 19).toInt.toNat + p)).toInt
theorem LNG.add {σ σ1 : HS} (h : LNG σ) (hs : 0 ≤ (σ.1 236 19).toInt) (f19 : (σ1.1 236 19).toInt = (σ.1 236 19).toInt) (e249 : (σ1.1 249 (σ.1 236 19).toInt.toNat).toInt ≤ (σ.1 249 (σ.1 236 19).toInt.toNat).toInt + 1) (er : ∀ p : Nat, (p : Int) ≠ (5 * (σ.1 236 19).toInt + (σ.1 249 (σ.1 236 19).toInt.toNat).toInt) → σ1.1 250 p = σ.1 250 p) (hn : 1 ≤ (σ1.1 250 (5 * (σ.1 236 19).toInt + (σ.1 249 (σ.1 236 19).toInt.toNat).toInt).toNat).toInt) : LNG σ1 := by
  intro p hp
  have en : (σ1.1 236 19).toInt.toNat = (σ.1 236 19).toInt.toNat := by omega
  rw [en] at hp ⊢
  by_cases e : (p : Int) = (σ.1 249 (σ.1 236 19).toInt.toNat).toInt
  · rw [show 5 * (σ.1 236 19).toInt.toNat + p = (5 * (σ.1 236 19).toInt + (σ.1 249 (σ.1 236 19).toInt.toNat).toInt).toNat by omega]
    exact hn
  · rw [er _ (by omega)]
    exact h p (by omega)
/-- the new text in force, slots emptied up to k -/
def RKp (k : Int) (σ : HS) : Prop := (LWq (σ.1 236 18).toInt.toNat (σ.1 254) (σ.1 255) (σ.1 256) (σ.1 257) (σ.1 258) (σ.1 259) (σ.1 260) (σ.1 261) (σ.1 262) ∧ (σ.1 236 54).toInt = 0) ∧ rw3 300 (plm σ) (σ.1 267 21) (σ.1 267 26) (σ.1 267 27) ∧ rw3 0 (plm σ) (σ.1 266 21) (σ.1 266 26) (σ.1 266 27) ∧ (∀ s : Nat, (s : Int) < k → (σ.1 275 s).toInt = 0) ∧ (∀ p : Nat, (p : Int) < plm σ → 1 ≤ (σ.1 250 (5 * (σ.1 236 18).toInt.toNat + p)).toInt)
theorem RKp.fin {σ : HS} {b k : Int} (h : RKp k σ) (hk : 3 ≤ k) (hb : 0 ≤ b ∧ b ≤ 40000) : RKm b σ := by
  obtain ⟨⟨h1, hu⟩, h2, h3, h4, h5⟩ := h
  unfold plm at h2 h3 h5
  exact ⟨⟨hb.2, h2.mono (by omega), h3.mono (by omega), fun u h9 => absurd h9 (by omega), fun s hs h9 => absurd (h4 s (by omega)) h9, fun p hp => h5 p hp⟩, h1⟩

