/-! the reference's invariant: bounds of fields and of arrays' elements -/
def bdFm : List (Nat × Nat × Int × Int) := [(236, 2, 0, 2000), (236, 4, 0, 2000), (236, 10, 0, 402), (236, 11, 0, 400), (236, 12, 0, 7), (236, 13, 0, 2), (236, 18, 0, 1), (236, 19, 0, 1), (236, 20, 0, 12), (236, 43, 0, 40), (236, 51, -2, 6), (236, 54, 0, 40), (236, 57, 0, 16), (236, 60, 0, 20)]
def bdAm : List (Nat × Int × Int) := [(239, 0, 39), (241, 0, 9999), (245, 0, 7), (249, 0, 5), (250, 0, 8), (251, 0, 9999), (269, 0, 9999), (272, 0, 40), (274, -2, 6)]
def GIm (σ : HS) : Prop := (∀ q ∈ bdFm, q.2.2.1 ≤ (σ.1 q.1 q.2.1).toInt ∧ (σ.1 q.1 q.2.1).toInt ≤ q.2.2.2) ∧ (∀ q ∈ bdAm, ∀ j : Nat, q.2.1 ≤ (σ.1 q.1 j).toInt ∧ (σ.1 q.1 j).toInt ≤ q.2.2)
theorem hFm_of {i k : Nat} {v : Int32} {L : List (Nat × Nat × Int × Int)} (e : bdFm.filter (fun q => q.1 == i && q.2.1 == k) = L) (h : ∀ q ∈ L, q.2.2.1 ≤ v.toInt ∧ v.toInt ≤ q.2.2.2) : ∀ q ∈ bdFm, q.1 = i → q.2.1 = k → q.2.2.1 ≤ v.toInt ∧ v.toInt ≤ q.2.2.2 := fun q hq e1 e2 => h q (by rw [← e]; exact List.mem_filter.mpr ⟨hq, by simp [e1, e2]⟩)
theorem hAm_of {i : Nat} {v : Int32} {L : List (Nat × Int × Int)} (e : bdAm.filter (fun q => q.1 == i) = L) (h : ∀ q ∈ L, q.2.1 ≤ v.toInt ∧ v.toInt ≤ q.2.2) : ∀ q ∈ bdAm, q.1 = i → q.2.1 ≤ v.toInt ∧ v.toInt ≤ q.2.2 := fun q hq e1 => h q (by rw [← e]; exact List.mem_filter.mpr ⟨hq, by simp [e1]⟩)
theorem GIm.I {σ : HS} {i k : Nat} {v : Int32} (h : GIm σ) (hF : ∀ q ∈ bdFm, q.1 = i → q.2.1 = k → q.2.2.1 ≤ v.toInt ∧ v.toInt ≤ q.2.2.2) (hA : ∀ q ∈ bdAm, q.1 = i → q.2.1 ≤ v.toInt ∧ v.toInt ≤ q.2.2) : GIm (hI σ i k v) := by
  refine ⟨fun q hq => ?_, fun q hq j => ?_⟩
  · rcases hI_at (σ := σ) (i := i) (k := k) (v := v) q.1 q.2.1 with ⟨e1, e2, e3⟩ | e3
    · rw [e3]; exact hF q hq e1 e2
    · rw [e3]; exact h.1 q hq
  · rcases hI_at (σ := σ) (i := i) (k := k) (v := v) q.1 j with ⟨e1, e2, e3⟩ | e3
    · rw [e3]; exact hA q hq e1
    · rw [e3]; exact h.2 q hq j
theorem GIm.L {σ : HS} {i k : Nat} {v : Int64} (h : GIm σ) (_ : i ≠ 6) : GIm (hL σ i k v) := h
/-- may place k of cell i have been written -/
def wr (L : List Nat) (i k : Nat) : Bool := if i = 236 then L.contains (1000 + k) else if i = 267 then (if k = 21 ∨ k = 26 ∨ k = 27 then L.contains (2000 + k) else L.contains 267) else L.contains i
def onm (L : List Nat) (σ σ1 : HS) : Prop := (∀ i k, wr L i k = false → σ1.1 i k = σ.1 i k) ∧ (∀ i, L.contains i = false → σ1.2.1 i = σ.2.1 i) ∧ σ1.2.2 = σ.2.2
theorem wr_c {L L1 : List Nat} (hL : ∀ q, q ∈ L → q ∈ L1) (n : Nat) (hn : L1.contains n = false) : L.contains n = false := by
  by_cases e : L.contains n = true
  · have h1 := hL n (by simpa using e)
    have h2 : L1.contains n = true := by simpa using h1
    rw [h2] at hn
    exact absurd hn (by decide)
  · simpa using e
theorem wr_mono {L L1 : List Nat} (hL : ∀ q, q ∈ L → q ∈ L1) {i k : Nat} (h : wr L1 i k = false) : wr L i k = false := by
  unfold wr at h ⊢
  by_cases h1 : i = 236
  · rw [if_pos h1] at h ⊢
    exact wr_c hL _ h
  · rw [if_neg h1] at h ⊢
    by_cases h2 : i = 267
    · rw [if_pos h2] at h ⊢
      by_cases h3 : k = 21 ∨ k = 26 ∨ k = 27
      · rw [if_pos h3] at h ⊢
        exact wr_c hL _ h
      · rw [if_neg h3] at h ⊢
        exact wr_c hL _ h
    · rw [if_neg h2] at h ⊢
      exact wr_c hL _ h
theorem onm.rf {L : List Nat} {σ : HS} : onm L σ σ := ⟨fun _ _ _ => rfl, fun _ _ => rfl, rfl⟩
theorem onm.tr {L : List Nat} {σ σ1 σ2 : HS} (h : onm L σ σ1) (h2 : onm L σ1 σ2) : onm L σ σ2 := ⟨fun i k hw => (h2.1 i k hw).trans (h.1 i k hw), fun i hi => (h2.2.1 i hi).trans (h.2.1 i hi), h2.2.2.trans h.2.2⟩
theorem onm.mono {L L1 : List Nat} {σ σ1 : HS} (h : onm L σ σ1) (hL : ∀ q, q ∈ L → q ∈ L1) : onm L1 σ σ1 := ⟨fun i k hw => h.1 i k (wr_mono hL hw), fun i hi => h.2.1 i (wr_c hL i hi), h.2.2⟩
theorem onm.W {L : List Nat} {σ σ1 : HS} {i k : Nat} {v : Int32} (h : onm L σ σ1) (hw : wr L i k = true) : onm L σ (hI σ1 i k v) := by
  refine ⟨fun a j hn => ?_, h.2.1, h.2.2⟩
  rcases hI_at (σ := σ1) (i := i) (k := k) (v := v) a j with ⟨e1, e2, _⟩ | e3
  · subst e1
    subst e2
    rw [hw] at hn
    exact absurd hn (by decide)
  · exact e3.trans (h.1 a j hn)
theorem onm.F {L : List Nat} {σ σ1 : HS} {k : Nat} {v : Int32} (h : onm L σ σ1) (hi : L.contains (1000 + k) = true) : onm L σ (hI σ1 236 k v) := h.W (by unfold wr; rw [if_pos rfl]; exact hi)
def aok (L : List Nat) (i : Nat) : Bool := L.contains i && (i != 236) && (i != 267)
theorem aok_w {L : List Nat} {i k : Nat} (h : aok L i = true) : wr L i k = true := by
  unfold aok at h
  simp only [Bool.and_eq_true, bne_iff_ne, ne_eq] at h
  unfold wr
  rw [if_neg h.1.2, if_neg h.2]
  exact h.1.1
theorem onm.I {L : List Nat} {σ σ1 : HS} {i k : Nat} {v : Int32} (h : onm L σ σ1) (hi : aok L i = true) : onm L σ (hI σ1 i k v) := h.W (aok_w hi)
theorem onm.R {L : List Nat} {σ σ1 : HS} {k : Nat} {v : Int32} (h : onm L σ σ1) (hi : L.contains 267 = true) (hk : k ≠ 21 ∧ k ≠ 26 ∧ k ≠ 27) : onm L σ (hI σ1 267 k v) := h.W (by unfold wr; rw [if_neg (by decide), if_pos rfl, if_neg (by omega)]; exact hi)
theorem onm.C {L : List Nat} {σ σ1 : HS} {k : Nat} {v : Int32} (h : onm L σ σ1) (hi : wr L 267 k = true) : onm L σ (hI σ1 267 k v) := h.W hi
theorem onm.RA {L : List Nat} {σ σ1 : HS} {k : Nat} {v : Int32} (h : onm L σ σ1) (hi : (L.contains 267 && L.contains 2021 && L.contains 2026 && L.contains 2027) = true) : onm L σ (hI σ1 267 k v) := by
  simp only [Bool.and_eq_true] at hi
  refine h.W ?_
  unfold wr
  rw [if_neg (by decide), if_pos rfl]
  by_cases h3 : k = 21 ∨ k = 26 ∨ k = 27
  · rw [if_pos h3]
    rcases h3 with rfl | rfl | rfl
    · exact hi.1.1.2
    · exact hi.1.2
    · exact hi.2
  · rw [if_neg h3]
    exact hi.1.1.1
theorem onm.L {L : List Nat} {σ σ1 : HS} {i k : Nat} {v : Int64} (h : onm L σ σ1) (hi : L.contains i = true) : onm L σ (hL σ1 i k v) := by
  refine ⟨h.1, fun a ha => ?_, h.2.2⟩
  have e : a ≠ i := fun e => by rw [e, hi] at ha; exact absurd ha (by decide)
  exact (va_up_ne σ1.2.1 _ e).trans (h.2.1 a ha)
theorem onm.a {L : List Nat} {σ σ1 : HS} (h : onm L σ σ1) {i : Nat} (hi : (!(L.contains i) && (i != 236) && (i != 267)) = true) : σ1.1 i = σ.1 i := by
  simp only [Bool.and_eq_true, bne_iff_ne, ne_eq, Bool.not_eq_true'] at hi
  exact funext fun k => h.1 i k (by unfold wr; rw [if_neg hi.1.2, if_neg hi.2]; exact hi.1.1)
/-- how many patterns the text in force has -/
def plm (σ : HS) : Int := (σ.1 249 (σ.1 236 18).toInt.toNat).toInt
def plk (L : List Nat) : Bool := !(L.contains 249) && !(L.contains 1018)
theorem onm.pl {L : List Nat} {σ σ1 : HS} (h : onm L σ σ1) (hi : plk L = true) : plm σ1 = plm σ := by
  unfold plk at hi
  simp only [Bool.and_eq_true, Bool.not_eq_true'] at hi
  unfold plm
  rw [h.1 236 18 (by unfold wr; rw [if_pos rfl]; exact hi.2), h.a (i := 249) (by rw [hi.1]; decide)]
def rw3 (B P : Int) (a21 a26 a27 : Int32) : Prop := a26.toInt < P ∧ 0 ≤ a27.toInt ∧ a27.toInt ≤ a21.toInt ∧ a21.toInt ≤ B
/-- how many numbers lie on the pile -/
def dep (cd : Nat → Int32) (u : Nat) : Nat → Int
  | 0 => 0
  | n + 1 => dep cd u n + (if (cd (u + n)).toInt < 2 then 1 else -1)
def SGm (cd ci : Nat → Int32) (u v : Int32) : Prop := (0 ≤ u.toInt ∧ u.toInt ≤ 840) ∧ v.toInt ≤ 840 ∧ v.toInt - u.toInt ≤ 400 ∧ ∀ c : Nat, u.toInt ≤ c → (c : Int) < v.toInt → 0 ≤ (cd c).toInt ∧ (cd c).toInt ≤ 5 ∧ ((cd c).toInt = 1 → 0 ≤ (ci c).toInt ∧ (ci c).toInt ≤ 8) ∧ (2 ≤ (cd c).toInt → 2 ≤ dep cd u.toInt.toNat (c - u.toInt.toNat))
def BRq (ht tf tm tt te cd ci : Nat → Int32) (q : Nat) : Prop := ((ht q).toInt ≠ 0 → SGm cd ci (tf q) (tm q) ∧ SGm cd ci (tm q) (tt q)) ∧ SGm cd ci (tt q) (te q)
def RGq (n : Nat) (h a m t e : Int32) (q : Nat) : Prop := 130 * n ≤ q ∧ q < 130 * n + 130 ∧ (h.toInt ≠ 0 → 420 * (n : Int) ≤ a.toInt ∧ m.toInt ≤ 420 * (n : Int) + 420 ∧ 420 * (n : Int) ≤ m.toInt ∧ t.toInt ≤ 420 * (n : Int) + 420) ∧ 420 * (n : Int) ≤ t.toInt ∧ e.toInt ≤ 420 * (n : Int) + 420
def LWq (n : Nat) (lf ll ht tf tm tt te cd ci : Nat → Int32) : Prop := ∀ k, k < 4 → (0 ≤ (lf (4 * n + k)).toInt ∧ (lf (4 * n + k)).toInt ≤ 260) ∧ (ll (4 * n + k)).toInt ≤ 260 ∧ ∀ q : Nat, (lf (4 * n + k)).toInt ≤ q → (q : Int) < (ll (4 * n + k)).toInt → BRq ht tf tm tt te cd ci q ∧ RGq n (ht q) (tf q) (tm q) (tt q) (te q) q
def RKq (b : Int) (lv un : Int32) (pt lg nw hs ih hr : Nat → Int32) (r21 r26 r27 : Int32) : Prop := b ≤ 40000 ∧ rw3 (b + 300) (pt lv.toInt.toNat).toInt r21 r26 r27 ∧ rw3 b (pt lv.toInt.toNat).toInt (nw 21) (nw 26) (nw 27) ∧ (∀ u : Nat, (u : Int) < un.toInt → rw3 b (pt lv.toInt.toNat).toInt (hs (29 * u + 21)) (hs (29 * u + 26)) (hs (29 * u + 27))) ∧ (∀ s, s < 3 → (ih s).toInt ≠ 0 → rw3 b (pt lv.toInt.toNat).toInt (hr (29 * s + 21)) (hr (29 * s + 26)) (hr (29 * s + 27))) ∧ (∀ p : Nat, (p : Int) < (pt lv.toInt.toNat).toInt → 1 ≤ (lg (5 * lv.toInt.toNat + p)).toInt)
/-- rows, rows kept, patterns and laws of the text in force -/
def RKm (b : Int) (σ : HS) : Prop := RKq b (σ.1 236 18) (σ.1 236 54) (σ.1 249) (σ.1 250) (σ.1 266) (σ.1 268) (σ.1 275) (σ.1 276) (σ.1 267 21) (σ.1 267 26) (σ.1 267 27) ∧ LWq (σ.1 236 18).toInt.toNat (σ.1 254) (σ.1 255) (σ.1 256) (σ.1 257) (σ.1 258) (σ.1 259) (σ.1 260) (σ.1 261) (σ.1 262)
def okL (L : List Nat) : Bool := [1018, 1054, 2021, 2026, 2027, 249, 250, 266, 268, 275, 276, 254, 255, 256, 257, 258, 259, 260, 261, 262].all (fun i => !(L.contains i))
theorem RKm.ony {b : Int} {L : List Nat} {σ σ1 : HS} (h : RKm b σ) (ho : onm L σ σ1) (hk : okL L = true) : RKm b σ1 := by
  unfold okL at hk
  simp only [List.all_cons, List.all_nil, Bool.and_true, Bool.and_eq_true, Bool.not_eq_true'] at hk
  obtain ⟨h18, h54, h21, h26, h27, h249, h250, h266, h268, h275, h276, h254, h255, h256, h257, h258, h259, h260, h261, h262⟩ := hk
  have f : ∀ k, L.contains (1000 + k) = false → σ1.1 236 k = σ.1 236 k := fun k hk => ho.1 236 k (by unfold wr; rw [if_pos rfl]; exact hk)
  have g : ∀ k, (k = 21 ∨ k = 26 ∨ k = 27) → L.contains (2000 + k) = false → σ1.1 267 k = σ.1 267 k := fun k h3 hk => ho.1 267 k (by unfold wr; rw [if_neg (by decide), if_pos rfl, if_pos h3]; exact hk)
  unfold RKm
  rw [f 18 h18, f 54 h54, g 21 (by decide) h21, g 26 (by decide) h26, g 27 (by decide) h27, ho.a (i := 249) (by rw [h249]; decide), ho.a (i := 250) (by rw [h250]; decide), ho.a (i := 266) (by rw [h266]; decide), ho.a (i := 268) (by rw [h268]; decide), ho.a (i := 275) (by rw [h275]; decide), ho.a (i := 276) (by rw [h276]; decide), ho.a (i := 254) (by rw [h254]; decide), ho.a (i := 255) (by rw [h255]; decide), ho.a (i := 256) (by rw [h256]; decide), ho.a (i := 257) (by rw [h257]; decide), ho.a (i := 258) (by rw [h258]; decide), ho.a (i := 259) (by rw [h259]; decide), ho.a (i := 260) (by rw [h260]; decide), ho.a (i := 261) (by rw [h261]; decide), ho.a (i := 262) (by rw [h262]; decide)]
  exact h
theorem RKm.row {b : Int} {σ : HS} (h : RKm b σ) : (σ.1 267 26).toInt < plm σ ∧ 0 ≤ (σ.1 267 27).toInt ∧ (σ.1 267 27).toInt ≤ (σ.1 267 21).toInt ∧ (σ.1 267 21).toInt ≤ b + 300 ∧ b ≤ 40000 := ⟨h.1.2.1.1, h.1.2.1.2.1, h.1.2.1.2.2.1, h.1.2.1.2.2.2, h.1.1⟩
theorem RKm.now {b : Int} {σ : HS} (h : RKm b σ) : (σ.1 266 26).toInt < plm σ ∧ 0 ≤ (σ.1 266 27).toInt ∧ (σ.1 266 27).toInt ≤ (σ.1 266 21).toInt ∧ (σ.1 266 21).toInt ≤ b ∧ b ≤ 40000 := ⟨h.1.2.2.1.1, h.1.2.2.1.2.1, h.1.2.2.1.2.2.1, h.1.2.2.1.2.2.2, h.1.1⟩
theorem RKm.lng {b : Int} {σ : HS} (h : RKm b σ) {n : Nat} {x : Int32} (h0 : 0 ≤ x.toInt) (h1 : x.toInt < plm σ) (hn : (n : Int) = 5 * (σ.1 236 18).toInt + x.toInt) (hl : 0 ≤ (σ.1 236 18).toInt := by omega) : 1 ≤ (σ.1 250 n).toInt := by
  have := h.1.2.2.2.2.2 x.toInt.toNat (by unfold plm at h1; omega)
  rw [show n = 5 * (σ.1 236 18).toInt.toNat + x.toInt.toNat by omega]
  exact this
theorem RKm.s21 {b : Int} {σ : HS} {v : Int32} (h : RKm b σ) (h1 : (σ.1 267 21).toInt ≤ v.toInt) (h2 : v.toInt ≤ b + 300) : RKm b (hI σ 267 21 v) := by
  have ho : onm [2021] σ (hI σ 267 21 v) := onm.C onm.rf (by decide)
  have g : ∀ k, (k = 26 ∨ k = 27) → (hI σ 267 21 v).1 267 k = σ.1 267 k := fun k h3 => hI_n (by omega)
  unfold RKm at h ⊢
  rw [ho.1 236 18 (by decide), ho.1 236 54 (by decide), g 26 (by decide), g 27 (by decide), ho.a (i := 249) (by decide), ho.a (i := 250) (by decide), ho.a (i := 266) (by decide), ho.a (i := 268) (by decide), ho.a (i := 275) (by decide), ho.a (i := 276) (by decide), ho.a (i := 254) (by decide), ho.a (i := 255) (by decide), ho.a (i := 256) (by decide), ho.a (i := 257) (by decide), ho.a (i := 258) (by decide), ho.a (i := 259) (by decide), ho.a (i := 260) (by decide), ho.a (i := 261) (by decide), ho.a (i := 262) (by decide), hI_s]
  refine ⟨⟨h.1.1, ⟨h.1.2.1.1, h.1.2.1.2.1, ?_, h2⟩, h.1.2.2⟩, h.2⟩
  have := h.1.2.1.2.2.1
  omega
theorem pl_le {σ : HS} (h : GIm σ) : plm σ ≤ 5 := (h.2 (249, 0, 5) (by decide) _).2
def okL2 (L : List Nat) : Bool := [1018, 1054, 249, 250, 266, 268, 275, 276, 254, 255, 256, 257, 258, 259, 260, 261, 262].all (fun i => !(L.contains i))
theorem RKm.ony2 {b : Int} {L : List Nat} {σ σ1 : HS} (h : RKm b σ) (ho : onm L σ σ1) (hk : okL2 L = true) (hr : rw3 (b + 300) (plm σ) (σ1.1 267 21) (σ1.1 267 26) (σ1.1 267 27)) : RKm b σ1 := by
  unfold okL2 at hk
  simp only [List.all_cons, List.all_nil, Bool.and_true, Bool.and_eq_true, Bool.not_eq_true'] at hk
  obtain ⟨h18, h54, h249, h250, h266, h268, h275, h276, h254, h255, h256, h257, h258, h259, h260, h261, h262⟩ := hk
  have f : ∀ k, L.contains (1000 + k) = false → σ1.1 236 k = σ.1 236 k := fun k hk => ho.1 236 k (by unfold wr; rw [if_pos rfl]; exact hk)
  unfold plm at hr
  unfold RKm at h ⊢
  rw [f 18 h18, f 54 h54, ho.a (i := 249) (by rw [h249]; decide), ho.a (i := 250) (by rw [h250]; decide), ho.a (i := 266) (by rw [h266]; decide), ho.a (i := 268) (by rw [h268]; decide), ho.a (i := 275) (by rw [h275]; decide), ho.a (i := 276) (by rw [h276]; decide), ho.a (i := 254) (by rw [h254]; decide), ho.a (i := 255) (by rw [h255]; decide), ho.a (i := 256) (by rw [h256]; decide), ho.a (i := 257) (by rw [h257]; decide), ho.a (i := 258) (by rw [h258]; decide), ho.a (i := 259) (by rw [h259]; decide), ho.a (i := 260) (by rw [h260]; decide), ho.a (i := 261) (by rw [h261]; decide), ho.a (i := 262) (by rw [h262]; decide)]
  exact ⟨⟨h.1.1, hr, h.1.2.2⟩, h.2⟩
theorem cp_step {σ : HS} {i a n n1 : Nat} {v k k1 : Int32} {f : Nat → Int32} (h : ∀ q : Nat, (q : Int) < k.toInt → σ.1 i (a + q) = f q) (hn : (n : Int) = a + k.toInt) (hn1 : (n1 : Int) = k.toInt) (hk : k1.toInt = k.toInt + 1) (e : f n1 = v) : ∀ q : Nat, (q : Int) < k1.toInt → (hI σ i n v).1 i (a + q) = f q := by
  intro q hq
  by_cases e1 : q = n1
  · rw [show a + q = n by omega, hI_s, e1, e]
  · rw [hI_n (by omega)]
    exact h q (by omega)
theorem dep_in {cd : Nat → Int32} {u n c : Nat} {v : Int32} (hc : c = u + n) (e : cd c = v) : dep cd u (n + 1) = dep cd u n + (if v.toInt < 2 then 1 else -1) := by
  subst hc
  rw [← e]
  rfl
theorem dep_le {cd : Nat → Int32} {u : Nat} : ∀ n, dep cd u n ≤ n := by
  intro n
  induction n with
  | zero => exact Int.le_refl _
  | succ n ih =>
    show dep cd u n + (if (cd (u + n)).toInt < 2 then 1 else -1) ≤ ((n + 1 : Nat) : Int)
    split <;> omega
theorem RKm.mono {b c : Int} {σ : HS} (h : RKm b σ) (hc : b ≤ c) (h4 : c ≤ 40000) : RKm c σ := by
  obtain ⟨⟨h1, h2, h3, h5, h6, h7⟩, h8⟩ := h
  have m : ∀ {B B1 P : Int} {x y z : Int32}, B ≤ B1 → rw3 B P x y z → rw3 B1 P x y z := fun hB q => ⟨q.1, q.2.1, q.2.2.1, by have := q.2.2.2; omega⟩
  exact ⟨⟨h4, m (by omega) h2, m hc h3, fun u hu => m hc (h5 u hu), fun s hs e => m hc (h6 s hs e), h7⟩, h8⟩
/-- all but rows kept is as it was -/
def okL3 (L : List Nat) : Bool := [1018, 249, 250, 254, 255, 256, 257, 258, 259, 260, 261, 262].all (fun i => !(L.contains i))
theorem RKm.ony3 {b c : Int} {L : List Nat} {σ σ1 : HS} (h : RKm b σ) (ho : onm L σ σ1) (hk : okL3 L = true) (h4 : c ≤ 40000)
    (hr : rw3 (c + 300) (plm σ) (σ1.1 267 21) (σ1.1 267 26) (σ1.1 267 27)) (hn : rw3 c (plm σ) (σ1.1 266 21) (σ1.1 266 26) (σ1.1 266 27))
    (hu : ∀ u : Nat, (u : Int) < (σ1.1 236 54).toInt → rw3 c (plm σ) (σ1.1 268 (29 * u + 21)) (σ1.1 268 (29 * u + 26)) (σ1.1 268 (29 * u + 27)))
    (hh : ∀ s, s < 3 → (σ1.1 275 s).toInt ≠ 0 → rw3 c (plm σ) (σ1.1 276 (29 * s + 21)) (σ1.1 276 (29 * s + 26)) (σ1.1 276 (29 * s + 27))) : RKm c σ1 := by
  unfold okL3 at hk
  simp only [List.all_cons, List.all_nil, Bool.and_true, Bool.and_eq_true, Bool.not_eq_true'] at hk
  obtain ⟨h18, h249, h250, h254, h255, h256, h257, h258, h259, h260, h261, h262⟩ := hk
  have f : ∀ k, L.contains (1000 + k) = false → σ1.1 236 k = σ.1 236 k := fun k hk => ho.1 236 k (by unfold wr; rw [if_pos rfl]; exact hk)
  unfold plm at hr hn hu hh
  unfold RKm at h ⊢
  rw [f 18 h18, ho.a (i := 249) (by rw [h249]; decide), ho.a (i := 250) (by rw [h250]; decide), ho.a (i := 254) (by rw [h254]; decide), ho.a (i := 255) (by rw [h255]; decide), ho.a (i := 256) (by rw [h256]; decide), ho.a (i := 257) (by rw [h257]; decide), ho.a (i := 258) (by rw [h258]; decide), ho.a (i := 259) (by rw [h259]; decide), ho.a (i := 260) (by rw [h260]; decide), ho.a (i := 261) (by rw [h261]; decide), ho.a (i := 262) (by rw [h262]; decide)]
  exact ⟨⟨h4, hr, hn, hu, hh, h.1.2.2.2.2.2⟩, h.2⟩
theorem RKm.hist {b : Int} {σ : HS} (h : RKm b σ) (u : Nat) (hu : (u : Int) < (σ.1 236 54).toInt) : rw3 b (plm σ) (σ.1 268 (29 * u + 21)) (σ.1 268 (29 * u + 26)) (σ.1 268 (29 * u + 27)) := h.1.2.2.2.1 u hu
theorem RKm.helds {b : Int} {σ : HS} (h : RKm b σ) (s : Nat) (hs : s < 3) (e : (σ.1 275 s).toInt ≠ 0) : rw3 b (plm σ) (σ.1 276 (29 * s + 21)) (σ.1 276 (29 * s + 26)) (σ.1 276 (29 * s + 27)) := h.1.2.2.2.2.1 s hs e
theorem RKm.nw {b : Int} {σ : HS} (h : RKm b σ) : rw3 b (plm σ) (σ.1 266 21) (σ.1 266 26) (σ.1 266 27) := h.1.2.2.1
theorem RKm.rw {b : Int} {σ : HS} (h : RKm b σ) : rw3 (b + 300) (plm σ) (σ.1 267 21) (σ.1 267 26) (σ.1 267 27) := h.1.2.1
theorem rw3.mono {B B1 P : Int} {x y z : Int32} (q : rw3 B P x y z) (hB : B ≤ B1) : rw3 B1 P x y z := ⟨q.1, q.2.1, q.2.2.1, by have := q.2.2.2; omega⟩
theorem rw3.eq {B P : Int} {x y z x1 y1 z1 : Int32} (q : rw3 B P x y z) (hx : x1 = x) (hy : y1 = y) (hz : z1 = z) : rw3 B P x1 y1 z1 := by subst hx; subst hy; subst hz; exact q
theorem fr_step {σ : HS} {i a n : Nat} {v : Int32} {f : Nat → Int32} (h : ∀ q : Nat, (q < a ∨ a + 29 ≤ q) → σ.1 i q = f q) (hn : a ≤ n ∧ n < a + 29) : ∀ q : Nat, (q < a ∨ a + 29 ≤ q) → (hI σ i n v).1 i q = f q := fun q hq => (hI_n (by omega)).trans (h q hq)
theorem sh_step {σ : HS} {n : Nat} {v k k1 : Int32} {f : Nat → Int32} (h : ∀ q : Nat, ((q : Int) < k.toInt → σ.1 268 q = f (q + 29)) ∧ (k.toInt ≤ q → σ.1 268 q = f q)) (hn : (n : Int) = k.toInt) (hk : k1.toInt = k.toInt + 1) (e : f (n + 29) = v) : ∀ q : Nat, ((q : Int) < k1.toInt → (hI σ 268 n v).1 268 q = f (q + 29)) ∧ (k1.toInt ≤ q → (hI σ 268 n v).1 268 q = f q) := by
  intro q
  by_cases e1 : q = n
  · subst e1
    exact ⟨fun _ => hI_s.trans e.symm, fun hq => absurd hq (by omega)⟩
  · exact ⟨fun hq => (hI_n e1).trans ((h q).1 (by omega)), fun hq => (hI_n e1).trans ((h q).2 (by omega))⟩
def HB (b P : Int) (f : Nat → Int32) (n : Int) : Prop := ∀ u : Nat, (u : Int) < n → rw3 b P (f (29 * u + 21)) (f (29 * u + 26)) (f (29 * u + 27))
theorem HB.sh {b P : Int} {f g : Nat → Int32} {k : Int} (h : HB b P f 40) (hk : 1131 ≤ k) (e : ∀ q : Nat, ((q : Int) < k → g q = f (q + 29)) ∧ (k ≤ q → g q = f q)) : HB b P g 39 := fun u hu => (h (u + 1) (by omega)).eq ((e _).1 (by omega)) ((e _).1 (by omega)) ((e _).1 (by omega))
theorem HB.st {b P : Int} {σ : HS} {n : Int} {m : Nat} {v : Int32} (h : HB b P (σ.1 268) n) (hm : 29 * n ≤ (m : Int)) : HB b P ((hI σ 268 m v).1 268) n := fun u hu => (h u hu).eq (hI_n (by omega)) (hI_n (by omega)) (hI_n (by omega))
theorem HB.add {b P : Int} {f g : Nat → Int32} {n k : Int} {a : Nat} (h : HB b P f n) (ha : (a : Int) = 29 * n) (hk : 29 ≤ k) (e : ∀ q : Nat, (q : Int) < k → f (a + q) = g q) (hg : rw3 b P (g 21) (g 26) (g 27)) : HB b P f (n + 1) := by
  intro u hu
  by_cases e1 : (u : Int) < n
  · exact h u e1
  · rw [show 29 * u = a by omega]
    exact hg.eq (e 21 (by omega)) (e 26 (by omega)) (e 27 (by omega))
theorem onm.r {L : List Nat} {σ σ1 : HS} (h : onm L σ σ1) (hi : (!(L.contains 267) && !(L.contains 2021) && !(L.contains 2026) && !(L.contains 2027)) = true) : σ1.1 267 = σ.1 267 := by
  simp only [Bool.and_eq_true, Bool.not_eq_true'] at hi
  refine funext fun k => h.1 267 k ?_
  unfold wr
  rw [if_neg (by decide), if_pos rfl]
  by_cases h3 : k = 21 ∨ k = 26 ∨ k = 27
  · rw [if_pos h3]
    rcases h3 with rfl | rfl | rfl
    · exact hi.1.1.2
    · exact hi.1.2
    · exact hi.2
  · rw [if_neg h3]
    exact hi.1.1.1
theorem mz_tab9 : ∀ e, e ≤ 9 → 1 ≤ ((1 : Int32) <<< (nI e &&& 31)).toInt ∧ ((1 : Int32) <<< (nI e &&& 31)).toInt ≤ 512 := by decide
theorem s_ishl1 {ids : List Nat} {ad : Nat → Nat} {ca : Nat → ClassId} {Γ : GT} {cc : ByteArray} {own : String} {l0 : Launch} {D0 : va_G} {fr lo nL0 pc : Nat} {vs : List (Option Value)} {st : List Value} {σ : HS} (C : CT ids ad ca Γ cc own l0 D0 fr lo nL0) {x y : Int32} (hd : decode cc pc = .ok (.ishl, 1)) (hx : x.toInt = 1) (hy : 0 ≤ y.toInt ∧ y.toInt ≤ 9) (k : ∀ z : Int32, 1 ≤ z.toInt ∧ z.toInt ≤ 512 → AW ids ad ca Γ (pc + 1) vs (.int z :: st) σ) : AW ids ad ca Γ pc vs (.int y :: .int x :: st) σ := a_ishl C hd (k _ (by
  obtain ⟨n, hn, e, e2⟩ := i32_nat hy.1
  have ex : x = 1 := Int32.toInt_inj.mp hx
  rw [ex, e]
  exact mz_tab9 n (by omega)))
def byt (σ : HS) (x : Int32) : Int32 := if x.toInt < (σ.1 236 4).toInt then (σ.1 238 x.toInt.toNat) &&& 255 else 0
theorem bF_236_18 {σ : HS} (h : GIm σ) : 0 ≤ (σ.1 236 18).toInt ∧ (σ.1 236 18).toInt ≤ 1 := h.1 (236, 18, 0, 1) (by decide)
theorem bA_245 {σ : HS} (h : GIm σ) (j : Nat) : 0 ≤ (σ.1 245 j).toInt ∧ (σ.1 245 j).toInt ≤ 7 := h.2 (245, 0, 7) (by decide) j
theorem bA_249 {σ : HS} (h : GIm σ) (j : Nat) : 0 ≤ (σ.1 249 j).toInt ∧ (σ.1 249 j).toInt ≤ 5 := h.2 (249, 0, 5) (by decide) j
theorem bF_236_4 {σ : HS} (h : GIm σ) : 0 ≤ (σ.1 236 4).toInt ∧ (σ.1 236 4).toInt ≤ 2000 := h.1 (236, 4, 0, 2000) (by decide)
theorem wF_236_60 {σ : HS} {v : Int32} (h : GIm σ) (h1 : 0 ≤ v.toInt) (h2 : v.toInt ≤ 20) : GIm (hI σ 236 60 v) := GIm.I h (hFm_of (L := [(236, 60, 0, 20)]) (by decide) (fun q hq => by simp only [List.mem_cons, List.not_mem_nil, or_false] at hq; subst hq; exact ⟨h1, h2⟩)) (hAm_of (L := []) (by decide) (fun _ h => absurd h List.not_mem_nil))
theorem bF_236_60 {σ : HS} (h : GIm σ) : 0 ≤ (σ.1 236 60).toInt ∧ (σ.1 236 60).toInt ≤ 20 := h.1 (236, 60, 0, 20) (by decide)
theorem bA_250 {σ : HS} (h : GIm σ) (j : Nat) : 0 ≤ (σ.1 250 j).toInt ∧ (σ.1 250 j).toInt ≤ 8 := h.2 (250, 0, 8) (by decide) j
theorem bA_251 {σ : HS} (h : GIm σ) (j : Nat) : 0 ≤ (σ.1 251 j).toInt ∧ (σ.1 251 j).toInt ≤ 9999 := h.2 (251, 0, 9999) (by decide) j
theorem nof_264 : ∀ q ∈ bdFm, ¬ q.1 = 264 := by decide
theorem wA_264 {σ : HS} {v : Int32} {j : Nat} (h : GIm σ) : GIm (hI σ 264 j v) := GIm.I h (fun q hq e1 _ => absurd e1 (nof_264 q hq)) (hAm_of (L := []) (by decide) (fun _ h => absurd h List.not_mem_nil))
theorem nof_265 : ∀ q ∈ bdFm, ¬ q.1 = 265 := by decide
theorem wA_265 {σ : HS} {v : Int32} {j : Nat} (h : GIm σ) : GIm (hI σ 265 j v) := GIm.I h (fun q hq e1 _ => absurd e1 (nof_265 q hq)) (hAm_of (L := []) (by decide) (fun _ h => absurd h List.not_mem_nil))
theorem wF_236_46 {σ : HS} {v : Int32} (h : GIm σ) : GIm (hI σ 236 46 v) := GIm.I h (hFm_of (L := []) (by decide) (fun _ h => absurd h List.not_mem_nil)) (hAm_of (L := []) (by decide) (fun _ h => absurd h List.not_mem_nil))
theorem nof_267 : ∀ q ∈ bdFm, ¬ q.1 = 267 := by decide
theorem wA_267 {σ : HS} {v : Int32} {j : Nat} (h : GIm σ) : GIm (hI σ 267 j v) := GIm.I h (fun q hq e1 _ => absurd e1 (nof_267 q hq)) (hAm_of (L := []) (by decide) (fun _ h => absurd h List.not_mem_nil))
theorem wF_236_52 {σ : HS} {v : Int32} (h : GIm σ) : GIm (hI σ 236 52 v) := GIm.I h (hFm_of (L := []) (by decide) (fun _ h => absurd h List.not_mem_nil)) (hAm_of (L := []) (by decide) (fun _ h => absurd h List.not_mem_nil))
theorem bF_236_51 {σ : HS} (h : GIm σ) : -2 ≤ (σ.1 236 51).toInt ∧ (σ.1 236 51).toInt ≤ 6 := h.1 (236, 51, -2, 6) (by decide)
theorem wF_236_53 {σ : HS} {v : Int32} (h : GIm σ) : GIm (hI σ 236 53 v) := GIm.I h (hFm_of (L := []) (by decide) (fun _ h => absurd h List.not_mem_nil)) (hAm_of (L := []) (by decide) (fun _ h => absurd h List.not_mem_nil))
theorem wF_236_51 {σ : HS} {v : Int32} (h : GIm σ) (h1 : -2 ≤ v.toInt) (h2 : v.toInt ≤ 6) : GIm (hI σ 236 51 v) := GIm.I h (hFm_of (L := [(236, 51, -2, 6)]) (by decide) (fun q hq => by simp only [List.mem_cons, List.not_mem_nil, or_false] at hq; subst hq; exact ⟨h1, h2⟩)) (hAm_of (L := []) (by decide) (fun _ h => absurd h List.not_mem_nil))
theorem wF_236_49 {σ : HS} {v : Int32} (h : GIm σ) : GIm (hI σ 236 49 v) := GIm.I h (hFm_of (L := []) (by decide) (fun _ h => absurd h List.not_mem_nil)) (hAm_of (L := []) (by decide) (fun _ h => absurd h List.not_mem_nil))
theorem wF_236_50 {σ : HS} {v : Int32} (h : GIm σ) : GIm (hI σ 236 50 v) := GIm.I h (hFm_of (L := []) (by decide) (fun _ h => absurd h List.not_mem_nil)) (hAm_of (L := []) (by decide) (fun _ h => absurd h List.not_mem_nil))
theorem nof_271 : ∀ q ∈ bdFm, ¬ q.1 = 271 := by decide
theorem wA_271 {σ : HS} {v : Int32} {j : Nat} (h : GIm σ) : GIm (hI σ 271 j v) := GIm.I h (fun q hq e1 _ => absurd e1 (nof_271 q hq)) (hAm_of (L := []) (by decide) (fun _ h => absurd h List.not_mem_nil))
theorem nof_269 : ∀ q ∈ bdFm, ¬ q.1 = 269 := by decide
theorem wA_269 {σ : HS} {v : Int32} {j : Nat} (h : GIm σ) (h1 : 0 ≤ v.toInt) (h2 : v.toInt ≤ 9999) : GIm (hI σ 269 j v) := GIm.I h (fun q hq e1 _ => absurd e1 (nof_269 q hq)) (hAm_of (L := [(269, 0, 9999)]) (by decide) (fun q hq => by simp only [List.mem_cons, List.not_mem_nil, or_false] at hq; subst hq; exact ⟨h1, h2⟩))
theorem wF_236_57 {σ : HS} {v : Int32} (h : GIm σ) (h1 : 0 ≤ v.toInt) (h2 : v.toInt ≤ 16) : GIm (hI σ 236 57 v) := GIm.I h (hFm_of (L := [(236, 57, 0, 16)]) (by decide) (fun q hq => by simp only [List.mem_cons, List.not_mem_nil, or_false] at hq; subst hq; exact ⟨h1, h2⟩)) (hAm_of (L := []) (by decide) (fun _ h => absurd h List.not_mem_nil))
theorem bF_236_57 {σ : HS} (h : GIm σ) : 0 ≤ (σ.1 236 57).toInt ∧ (σ.1 236 57).toInt ≤ 16 := h.1 (236, 57, 0, 16) (by decide)
theorem bA_269 {σ : HS} (h : GIm σ) (j : Nat) : 0 ≤ (σ.1 269 j).toInt ∧ (σ.1 269 j).toInt ≤ 9999 := h.2 (269, 0, 9999) (by decide) j
theorem nof_274 : ∀ q ∈ bdFm, ¬ q.1 = 274 := by decide
theorem wA_274 {σ : HS} {v : Int32} {j : Nat} (h : GIm σ) (h1 : -2 ≤ v.toInt) (h2 : v.toInt ≤ 6) : GIm (hI σ 274 j v) := GIm.I h (fun q hq e1 _ => absurd e1 (nof_274 q hq)) (hAm_of (L := [(274, -2, 6)]) (by decide) (fun q hq => by simp only [List.mem_cons, List.not_mem_nil, or_false] at hq; subst hq; exact ⟨h1, h2⟩))
theorem bA_272 {σ : HS} (h : GIm σ) (j : Nat) : 0 ≤ (σ.1 272 j).toInt ∧ (σ.1 272 j).toInt ≤ 40 := h.2 (272, 0, 40) (by decide) j
theorem bA_274 {σ : HS} (h : GIm σ) (j : Nat) : -2 ≤ (σ.1 274 j).toInt ∧ (σ.1 274 j).toInt ≤ 6 := h.2 (274, -2, 6) (by decide) j
theorem bF_236_2 {σ : HS} (h : GIm σ) : 0 ≤ (σ.1 236 2).toInt ∧ (σ.1 236 2).toInt ≤ 2000 := h.1 (236, 2, 0, 2000) (by decide)
theorem bF_236_54 {σ : HS} (h : GIm σ) : 0 ≤ (σ.1 236 54).toInt ∧ (σ.1 236 54).toInt ≤ 40 := h.1 (236, 54, 0, 40) (by decide)
theorem nof_272 : ∀ q ∈ bdFm, ¬ q.1 = 272 := by decide
theorem wA_272 {σ : HS} {v : Int32} {j : Nat} (h : GIm σ) (h1 : 0 ≤ v.toInt) (h2 : v.toInt ≤ 40) : GIm (hI σ 272 j v) := GIm.I h (fun q hq e1 _ => absurd e1 (nof_272 q hq)) (hAm_of (L := [(272, 0, 40)]) (by decide) (fun q hq => by simp only [List.mem_cons, List.not_mem_nil, or_false] at hq; subst hq; exact ⟨h1, h2⟩))
theorem nof_273 : ∀ q ∈ bdFm, ¬ q.1 = 273 := by decide
theorem wA_273 {σ : HS} {v : Int32} {j : Nat} (h : GIm σ) : GIm (hI σ 273 j v) := GIm.I h (fun q hq e1 _ => absurd e1 (nof_273 q hq)) (hAm_of (L := []) (by decide) (fun _ h => absurd h List.not_mem_nil))
theorem nof_266 : ∀ q ∈ bdFm, ¬ q.1 = 266 := by decide
theorem wA_266 {σ : HS} {v : Int32} {j : Nat} (h : GIm σ) : GIm (hI σ 266 j v) := GIm.I h (fun q hq e1 _ => absurd e1 (nof_266 q hq)) (hAm_of (L := []) (by decide) (fun _ h => absurd h List.not_mem_nil))
theorem wF_236_54 {σ : HS} {v : Int32} (h : GIm σ) (h1 : 0 ≤ v.toInt) (h2 : v.toInt ≤ 40) : GIm (hI σ 236 54 v) := GIm.I h (hFm_of (L := [(236, 54, 0, 40)]) (by decide) (fun q hq => by simp only [List.mem_cons, List.not_mem_nil, or_false] at hq; subst hq; exact ⟨h1, h2⟩)) (hAm_of (L := []) (by decide) (fun _ h => absurd h List.not_mem_nil))
theorem nof_275 : ∀ q ∈ bdFm, ¬ q.1 = 275 := by decide
theorem wA_275 {σ : HS} {v : Int32} {j : Nat} (h : GIm σ) : GIm (hI σ 275 j v) := GIm.I h (fun q hq e1 _ => absurd e1 (nof_275 q hq)) (hAm_of (L := []) (by decide) (fun _ h => absurd h List.not_mem_nil))
theorem nof_276 : ∀ q ∈ bdFm, ¬ q.1 = 276 := by decide
theorem wA_276 {σ : HS} {v : Int32} {j : Nat} (h : GIm σ) : GIm (hI σ 276 j v) := GIm.I h (fun q hq e1 _ => absurd e1 (nof_276 q hq)) (hAm_of (L := []) (by decide) (fun _ h => absurd h List.not_mem_nil))
theorem nof_268 : ∀ q ∈ bdFm, ¬ q.1 = 268 := by decide
theorem wA_268 {σ : HS} {v : Int32} {j : Nat} (h : GIm σ) : GIm (hI σ 268 j v) := GIm.I h (fun q hq e1 _ => absurd e1 (nof_268 q hq)) (hAm_of (L := []) (by decide) (fun _ h => absurd h List.not_mem_nil))
