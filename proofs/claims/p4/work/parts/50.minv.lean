/-! the reference's invariant: bounds of fields and of arrays' elements -/
def bdFm : List (Nat × Nat × Int × Int) := [(236, 2, 0, 2000), (236, 4, 0, 2000), (236, 10, 0, 402), (236, 11, 0, 400), (236, 12, 0, 7), (236, 13, 0, 2), (236, 18, 0, 1), (236, 19, 0, 1), (236, 20, 0, 12), (236, 43, 0, 40), (236, 51, -2, 6), (236, 54, 0, 40), (236, 57, 0, 16), (236, 60, 0, 20)]
def bdAm : List (Nat × Int × Int) := [(239, 0, 39), (241, 0, 9999), (245, 0, 7), (249, 0, 5), (250, 0, 8), (251, 0, 9999), (269, 0, 9999), (272, 0, 40), (274, -2, 6)]
def GIm (σ : HS) : Prop := (∀ q ∈ bdFm, q.2.2.1 ≤ (σ.1 q.1 q.2.1).toInt ∧ (σ.1 q.1 q.2.1).toInt ≤ q.2.2.2) ∧ (∀ q ∈ bdAm, ∀ j : Nat, q.2.1 ≤ (σ.1 q.1 j).toInt ∧ (σ.1 q.1 j).toInt ≤ q.2.2)
theorem GIm.I {σ : HS} {i k : Nat} {v : Int32} (h : GIm σ) (hF : ∀ q ∈ bdFm, q.1 = i → q.2.1 = k → q.2.2.1 ≤ v.toInt ∧ v.toInt ≤ q.2.2.2) (hA : ∀ q ∈ bdAm, q.1 = i → q.2.1 ≤ v.toInt ∧ v.toInt ≤ q.2.2) : GIm (hI σ i k v) := by
  refine ⟨fun q hq => ?_, fun q hq j => ?_⟩
  · rcases hI_at (σ := σ) (i := i) (k := k) (v := v) q.1 q.2.1 with ⟨e1, e2, e3⟩ | e3
    · rw [e3]; exact hF q hq e1 e2
    · rw [e3]; exact h.1 q hq
  · rcases hI_at (σ := σ) (i := i) (k := k) (v := v) q.1 j with ⟨e1, e2, e3⟩ | e3
    · rw [e3]; exact hA q hq e1
    · rw [e3]; exact h.2 q hq j
theorem GIm.L {σ : HS} {i k : Nat} {v : Int64} (h : GIm σ) (_ : i ≠ 6) : GIm (hL σ i k v) := h
/-- may place k of cell i have been written -/
def wr (L : List Nat) (i k : Nat) : Bool := if i = 236 then L.contains (1000 + k) else if i = 267 then (if k = 21 ∨ k = 26 ∨ k = 27 then L.contains (2000 + k) else L.contains 267) else L.contains i
def onm (L : List Nat) (σ σ1 : HS) : Prop := (∀ i k, wr L i k = false → σ1.1 i k = σ.1 i k) ∧ (∀ i, L.contains i = false → σ1.2.1 i = σ.2.1 i) ∧ σ1.2.2 = σ.2.2
theorem wr_c {L L1 : List Nat} (hL : ∀ q, q ∈ L → q ∈ L1) (n : Nat) (hn : L1.contains n = false) : L.contains n = false := by
  by_cases e : L.contains n = true
  · have h1 := hL n (by simpa using e)
    have h2 : L1.contains n = true := by simpa using h1
    rw [h2] at hn
    exact absurd hn (by decide)
  · simpa using e
theorem wr_mono {L L1 : List Nat} (hL : ∀ q, q ∈ L → q ∈ L1) {i k : Nat} (h : wr L1 i k = false) : wr L i k = false := by
  unfold wr at h ⊢
  by_cases h1 : i = 236
  · rw [if_pos h1] at h ⊢
    exact wr_c hL _ h
  · rw [if_neg h1] at h ⊢
    by_cases h2 : i = 267
    · rw [if_pos h2] at h ⊢
      by_cases h3 : k = 21 ∨ k = 26 ∨ k = 27
      · rw [if_pos h3] at h ⊢
        exact wr_c hL _ h
      · rw [if_neg h3] at h ⊢
        exact wr_c hL _ h
    · rw [if_neg h2] at h ⊢
      exact wr_c hL _ h
theorem onm.rf {L : List Nat} {σ : HS} : onm L σ σ := ⟨fun _ _ _ => rfl, fun _ _ => rfl, rfl⟩
theorem onm.tr {L : List Nat} {σ σ1 σ2 : HS} (h : onm L σ σ1) (h2 : onm L σ1 σ2) : onm L σ σ2 := ⟨fun i k hw => (h2.1 i k hw).trans (h.1 i k hw), fun i hi => (h2.2.1 i hi).trans (h.2.1 i hi), h2.2.2.trans h.2.2⟩
theorem onm.mono {L L1 : List Nat} {σ σ1 : HS} (h : onm L σ σ1) (hL : ∀ q, q ∈ L → q ∈ L1) : onm L1 σ σ1 := ⟨fun i k hw => h.1 i k (wr_mono hL hw), fun i hi => h.2.1 i (wr_c hL i hi), h.2.2⟩
theorem onm.W {L : List Nat} {σ σ1 : HS} {i k : Nat} {v : Int32} (h : onm L σ σ1) (hw : wr L i k = true) : onm L σ (hI σ1 i k v) := by
  refine ⟨fun a j hn => ?_, h.2.1, h.2.2⟩
  rcases hI_at (σ := σ1) (i := i) (k := k) (v := v) a j with ⟨e1, e2, _⟩ | e3
  · subst e1
    subst e2
    rw [hw] at hn
    exact absurd hn (by decide)
  · exact e3.trans (h.1 a j hn)
theorem onm.F {L : List Nat} {σ σ1 : HS} {k : Nat} {v : Int32} (h : onm L σ σ1) (hi : L.contains (1000 + k) = true) : onm L σ (hI σ1 236 k v) := h.W (by unfold wr; rw [if_pos rfl]; exact hi)
def aok (L : List Nat) (i : Nat) : Bool := L.contains i && (i != 236) && (i != 267)
theorem aok_w {L : List Nat} {i k : Nat} (h : aok L i = true) : wr L i k = true := by
  unfold aok at h
  simp only [Bool.and_eq_true, bne_iff_ne, ne_eq] at h
  unfold wr
  rw [if_neg h.1.2, if_neg h.2]
  exact h.1.1
theorem onm.I {L : List Nat} {σ σ1 : HS} {i k : Nat} {v : Int32} (h : onm L σ σ1) (hi : aok L i = true) : onm L σ (hI σ1 i k v) := h.W (aok_w hi)
theorem onm.L {L : List Nat} {σ σ1 : HS} {i k : Nat} {v : Int64} (h : onm L σ σ1) (hi : L.contains i = true) : onm L σ (hL σ1 i k v) := by
  refine ⟨h.1, fun a ha => ?_, h.2.2⟩
  have e : a ≠ i := fun e => by rw [e, hi] at ha; exact absurd ha (by decide)
  exact (va_up_ne σ1.2.1 _ e).trans (h.2.1 a ha)
theorem onm.a {L : List Nat} {σ σ1 : HS} (h : onm L σ σ1) {i : Nat} (hi : (!(L.contains i) && (i != 236) && (i != 267)) = true) : σ1.1 i = σ.1 i := by
  simp only [Bool.and_eq_true, bne_iff_ne, ne_eq, Bool.not_eq_true'] at hi
  exact funext fun k => h.1 i k (by unfold wr; rw [if_neg hi.1.2, if_neg hi.2]; exact hi.1.1)
/-- how many patterns the text in force has -/
def plm (σ : HS) : Int := (σ.1 249 (σ.1 236 18).toInt.toNat).toInt
def rw3 (B P : Int) (a21 a26 a27 : Int32) : Prop := a26.toInt < P ∧ 0 ≤ a27.toInt ∧ a27.toInt ≤ a21.toInt ∧ a21.toInt ≤ B
/-- how many numbers lie on the pile -/
def dep (cd : Nat → Int32) (u : Nat) : Nat → Int
  | 0 => 0
  | n + 1 => dep cd u n + (if (cd (u + n)).toInt < 2 then 1 else -1)
def SGm (cd ci : Nat → Int32) (u v : Int32) : Prop := (0 ≤ u.toInt ∧ u.toInt ≤ 840) ∧ v.toInt ≤ 840 ∧ v.toInt - u.toInt ≤ 400 ∧ ∀ c : Nat, u.toInt ≤ c → (c : Int) < v.toInt → 0 ≤ (cd c).toInt ∧ (cd c).toInt ≤ 5 ∧ ((cd c).toInt = 1 → 0 ≤ (ci c).toInt ∧ (ci c).toInt ≤ 8) ∧ (2 ≤ (cd c).toInt → 2 ≤ dep cd u.toInt.toNat (c - u.toInt.toNat))
def BRq (ht tf tm tt te cd ci : Nat → Int32) (q : Nat) : Prop := ((ht q).toInt ≠ 0 → SGm cd ci (tf q) (tm q) ∧ SGm cd ci (tm q) (tt q)) ∧ SGm cd ci (tt q) (te q)
def RGq (n : Nat) (h a m t e : Int32) (q : Nat) : Prop := 130 * n ≤ q ∧ q < 130 * n + 130 ∧ (h.toInt ≠ 0 → 420 * (n : Int) ≤ a.toInt ∧ m.toInt ≤ 420 * (n : Int) + 420 ∧ 420 * (n : Int) ≤ m.toInt ∧ t.toInt ≤ 420 * (n : Int) + 420) ∧ 420 * (n : Int) ≤ t.toInt ∧ e.toInt ≤ 420 * (n : Int) + 420
def LWq (n : Nat) (lf ll ht tf tm tt te cd ci : Nat → Int32) : Prop := ∀ k, k < 4 → (0 ≤ (lf (4 * n + k)).toInt ∧ (lf (4 * n + k)).toInt ≤ 260) ∧ (ll (4 * n + k)).toInt ≤ 260 ∧ ∀ q : Nat, (lf (4 * n + k)).toInt ≤ q → (q : Int) < (ll (4 * n + k)).toInt → BRq ht tf tm tt te cd ci q ∧ RGq n (ht q) (tf q) (tm q) (tt q) (te q) q
def RKq (b : Int) (lv un : Int32) (pt lg nw hs ih hr : Nat → Int32) (r21 r26 r27 : Int32) : Prop := b ≤ 40000 ∧ rw3 (b + 300) (pt lv.toInt.toNat).toInt r21 r26 r27 ∧ rw3 b (pt lv.toInt.toNat).toInt (nw 21) (nw 26) (nw 27) ∧ (∀ u : Nat, (u : Int) < un.toInt → rw3 b (pt lv.toInt.toNat).toInt (hs (29 * u + 21)) (hs (29 * u + 26)) (hs (29 * u + 27))) ∧ (∀ s, s < 3 → (ih s).toInt ≠ 0 → rw3 b (pt lv.toInt.toNat).toInt (hr (29 * s + 21)) (hr (29 * s + 26)) (hr (29 * s + 27))) ∧ (∀ p : Nat, (p : Int) < (pt lv.toInt.toNat).toInt → 1 ≤ (lg (5 * lv.toInt.toNat + p)).toInt)
/-- rows, rows kept, patterns and laws of the text in force -/
def RKm (b : Int) (σ : HS) : Prop := RKq b (σ.1 236 18) (σ.1 236 54) (σ.1 249) (σ.1 250) (σ.1 266) (σ.1 268) (σ.1 275) (σ.1 276) (σ.1 267 21) (σ.1 267 26) (σ.1 267 27) ∧ LWq (σ.1 236 18).toInt.toNat (σ.1 254) (σ.1 255) (σ.1 256) (σ.1 257) (σ.1 258) (σ.1 259) (σ.1 260) (σ.1 261) (σ.1 262)
theorem RKm.mono {b c : Int} {σ : HS} (h : RKm b σ) (hc : b ≤ c) (h4 : c ≤ 40000) : RKm c σ := by
  obtain ⟨⟨h1, h2, h3, h5, h6, h7⟩, h8⟩ := h
  have m : ∀ {B B1 P : Int} {x y z : Int32}, B ≤ B1 → rw3 B P x y z → rw3 B1 P x y z := fun hB q => ⟨q.1, q.2.1, q.2.2.1, by have := q.2.2.2; omega⟩
  exact ⟨⟨h4, m (by omega) h2, m hc h3, fun u hu => m hc (h5 u hu), fun s hs e => m hc (h6 s hs e), h7⟩, h8⟩
theorem RKm.nw {b : Int} {σ : HS} (h : RKm b σ) : rw3 b (plm σ) (σ.1 266 21) (σ.1 266 26) (σ.1 266 27) := h.1.2.2.1
theorem RKm.rw {b : Int} {σ : HS} (h : RKm b σ) : rw3 (b + 300) (plm σ) (σ.1 267 21) (σ.1 267 26) (σ.1 267 27) := h.1.2.1
theorem rw3.mono {B B1 P : Int} {x y z : Int32} (q : rw3 B P x y z) (hB : B ≤ B1) : rw3 B1 P x y z := ⟨q.1, q.2.1, q.2.2.1, by have := q.2.2.2; omega⟩
theorem rw3.eq {B P : Int} {x y z x1 y1 z1 : Int32} (q : rw3 B P x y z) (hx : x1 = x) (hy : y1 = y) (hz : z1 = z) : rw3 B P x1 y1 z1 := by subst hx; subst hy; subst hz; exact q
def HB (b P : Int) (f : Nat → Int32) (n : Int) : Prop := ∀ u : Nat, (u : Int) < n → rw3 b P (f (29 * u + 21)) (f (29 * u + 26)) (f (29 * u + 27))
theorem HB.add {b P : Int} {f g : Nat → Int32} {n k : Int} {a : Nat} (h : HB b P f n) (ha : (a : Int) = 29 * n) (hk : 29 ≤ k) (e : ∀ q : Nat, (q : Int) < k → f (a + q) = g q) (hg : rw3 b P (g 21) (g 26) (g 27)) : HB b P f (n + 1) := by
  intro u hu
  by_cases e1 : (u : Int) < n
  · exact h u e1
  · rw [show 29 * u = a by omega]
    exact hg.eq (e 21 (by omega)) (e 26 (by omega)) (e 27 (by omega))
def byt (σ : HS) (x : Int32) : Int32 := if x.toInt < (σ.1 236 4).toInt then (σ.1 238 x.toInt.toNat) &&& 255 else 0
