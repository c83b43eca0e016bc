/-! the reference's invariant: bounds of fields and of arrays' elements -/
def bdFm : List (Nat × Nat × Int × Int) := [(236, 2, 0, 2000), (236, 4, 0, 2000), (236, 10, 0, 402), (236, 11, 0, 400), (236, 18, 0, 1), (236, 19, 0, 1), (236, 20, 0, 12), (236, 54, 0, 40), (236, 60, 0, 20)]
def bdAm : List (Nat × Int × Int) := [(245, 0, 7), (249, 0, 5), (250, 0, 8)]
def GIm (σ : HS) : Prop := (∀ q ∈ bdFm, q.2.2.1 ≤ (σ.1 q.1 q.2.1).toInt ∧ (σ.1 q.1 q.2.1).toInt ≤ q.2.2.2) ∧ (∀ q ∈ bdAm, ∀ j : Nat, q.2.1 ≤ (σ.1 q.1 j).toInt ∧ (σ.1 q.1 j).toInt ≤ q.2.2)
theorem hFm_of {i k : Nat} {v : Int32} {L : List (Nat × Nat × Int × Int)} (e : bdFm.filter (fun q => q.1 == i && q.2.1 == k) = L) (h : ∀ q ∈ L, q.2.2.1 ≤ v.toInt ∧ v.toInt ≤ q.2.2.2) : ∀ q ∈ bdFm, q.1 = i → q.2.1 = k → q.2.2.1 ≤ v.toInt ∧ v.toInt ≤ q.2.2.2 := fun q hq e1 e2 => h q (by rw [← e]; exact List.mem_filter.mpr ⟨hq, by simp [e1, e2]⟩)
theorem hAm_of {i : Nat} {v : Int32} {L : List (Nat × Int × Int)} (e : bdAm.filter (fun q => q.1 == i) = L) (h : ∀ q ∈ L, q.2.1 ≤ v.toInt ∧ v.toInt ≤ q.2.2) : ∀ q ∈ bdAm, q.1 = i → q.2.1 ≤ v.toInt ∧ v.toInt ≤ q.2.2 := fun q hq e1 => h q (by rw [← e]; exact List.mem_filter.mpr ⟨hq, by simp [e1]⟩)
theorem GIm.I {σ : HS} {i k : Nat} {v : Int32} (h : GIm σ) (hF : ∀ q ∈ bdFm, q.1 = i → q.2.1 = k → q.2.2.1 ≤ v.toInt ∧ v.toInt ≤ q.2.2.2) (hA : ∀ q ∈ bdAm, q.1 = i → q.2.1 ≤ v.toInt ∧ v.toInt ≤ q.2.2) : GIm (hI σ i k v) := by
  refine ⟨fun q hq => ?_, fun q hq j => ?_⟩
  · rcases hI_at (σ := σ) (i := i) (k := k) (v := v) q.1 q.2.1 with ⟨e1, e2, e3⟩ | e3
    · rw [e3]; exact hF q hq e1 e2
    · rw [e3]; exact h.1 q hq
  · rcases hI_at (σ := σ) (i := i) (k := k) (v := v) q.1 j with ⟨e1, e2, e3⟩ | e3
    · rw [e3]; exact hA q hq e1
    · rw [e3]; exact h.2 q hq j
theorem GIm.L {σ : HS} {i k : Nat} {v : Int64} (h : GIm σ) (_ : i ≠ 6) : GIm (hL σ i k v) := h
theorem bF_236_18 {σ : HS} (h : GIm σ) : 0 ≤ (σ.1 236 18).toInt ∧ (σ.1 236 18).toInt ≤ 1 := h.1 (236, 18, 0, 1) (by decide)
theorem bA_245 {σ : HS} (h : GIm σ) (j : Nat) : 0 ≤ (σ.1 245 j).toInt ∧ (σ.1 245 j).toInt ≤ 7 := h.2 (245, 0, 7) (by decide) j
theorem bA_249 {σ : HS} (h : GIm σ) (j : Nat) : 0 ≤ (σ.1 249 j).toInt ∧ (σ.1 249 j).toInt ≤ 5 := h.2 (249, 0, 5) (by decide) j
theorem bF_236_4 {σ : HS} (h : GIm σ) : 0 ≤ (σ.1 236 4).toInt ∧ (σ.1 236 4).toInt ≤ 2000 := h.1 (236, 4, 0, 2000) (by decide)
theorem bF_236_60 {σ : HS} (h : GIm σ) : 0 ≤ (σ.1 236 60).toInt ∧ (σ.1 236 60).toInt ≤ 20 := h.1 (236, 60, 0, 20) (by decide)
theorem wF_236_60 {σ : HS} {v : Int32} (h : GIm σ) (h1 : 0 ≤ v.toInt) (h2 : v.toInt ≤ 20) : GIm (hI σ 236 60 v) := GIm.I h (hFm_of (L := [(236, 60, 0, 20)]) (by decide) (fun q hq => by simp only [List.mem_cons, List.not_mem_nil, or_false] at hq; subst hq; exact ⟨h1, h2⟩)) (hAm_of (L := []) (by decide) (fun _ h => absurd h List.not_mem_nil))
theorem nof_272 : ∀ q ∈ bdFm, ¬ q.1 = 272 := by decide
theorem wA_272 {σ : HS} {v : Int32} {j : Nat} (h : GIm σ) : GIm (hI σ 272 j v) := GIm.I h (fun q hq e1 _ => absurd e1 (nof_272 q hq)) (hAm_of (L := []) (by decide) (fun _ h => absurd h List.not_mem_nil))
theorem nof_273 : ∀ q ∈ bdFm, ¬ q.1 = 273 := by decide
theorem wA_273 {σ : HS} {v : Int32} {j : Nat} (h : GIm σ) : GIm (hI σ 273 j v) := GIm.I h (fun q hq e1 _ => absurd e1 (nof_273 q hq)) (hAm_of (L := []) (by decide) (fun _ h => absurd h List.not_mem_nil))
theorem bF_236_11 {σ : HS} (h : GIm σ) : 0 ≤ (σ.1 236 11).toInt ∧ (σ.1 236 11).toInt ≤ 400 := h.1 (236, 11, 0, 400) (by decide)
theorem wF_236_13 {σ : HS} {v : Int32} (h : GIm σ) : GIm (hI σ 236 13 v) := GIm.I h (hFm_of (L := []) (by decide) (fun _ h => absurd h List.not_mem_nil)) (hAm_of (L := []) (by decide) (fun _ h => absurd h List.not_mem_nil))
theorem wF_236_14 {σ : HS} {v : Int32} (h : GIm σ) : GIm (hI σ 236 14 v) := GIm.I h (hFm_of (L := []) (by decide) (fun _ h => absurd h List.not_mem_nil)) (hAm_of (L := []) (by decide) (fun _ h => absurd h List.not_mem_nil))
theorem wF_236_11 {σ : HS} {v : Int32} (h : GIm σ) (h1 : 0 ≤ v.toInt) (h2 : v.toInt ≤ 400) : GIm (hI σ 236 11 v) := GIm.I h (hFm_of (L := [(236, 11, 0, 400)]) (by decide) (fun q hq => by simp only [List.mem_cons, List.not_mem_nil, or_false] at hq; subst hq; exact ⟨h1, h2⟩)) (hAm_of (L := []) (by decide) (fun _ h => absurd h List.not_mem_nil))
theorem wF_236_15 {σ : HS} {v : Int32} (h : GIm σ) : GIm (hI σ 236 15 v) := GIm.I h (hFm_of (L := []) (by decide) (fun _ h => absurd h List.not_mem_nil)) (hAm_of (L := []) (by decide) (fun _ h => absurd h List.not_mem_nil))
theorem wF_236_16 {σ : HS} {v : Int32} (h : GIm σ) : GIm (hI σ 236 16 v) := GIm.I h (hFm_of (L := []) (by decide) (fun _ h => absurd h List.not_mem_nil)) (hAm_of (L := []) (by decide) (fun _ h => absurd h List.not_mem_nil))
theorem bF_236_10 {σ : HS} (h : GIm σ) : 0 ≤ (σ.1 236 10).toInt ∧ (σ.1 236 10).toInt ≤ 402 := h.1 (236, 10, 0, 402) (by decide)
theorem nof_239 : ∀ q ∈ bdFm, ¬ q.1 = 239 := by decide
theorem wA_239 {σ : HS} {v : Int32} {j : Nat} (h : GIm σ) : GIm (hI σ 239 j v) := GIm.I h (fun q hq e1 _ => absurd e1 (nof_239 q hq)) (hAm_of (L := []) (by decide) (fun _ h => absurd h List.not_mem_nil))
theorem nof_240 : ∀ q ∈ bdFm, ¬ q.1 = 240 := by decide
theorem wA_240 {σ : HS} {v : Int32} {j : Nat} (h : GIm σ) : GIm (hI σ 240 j v) := GIm.I h (fun q hq e1 _ => absurd e1 (nof_240 q hq)) (hAm_of (L := []) (by decide) (fun _ h => absurd h List.not_mem_nil))
theorem nof_241 : ∀ q ∈ bdFm, ¬ q.1 = 241 := by decide
theorem wA_241 {σ : HS} {v : Int32} {j : Nat} (h : GIm σ) : GIm (hI σ 241 j v) := GIm.I h (fun q hq e1 _ => absurd e1 (nof_241 q hq)) (hAm_of (L := []) (by decide) (fun _ h => absurd h List.not_mem_nil))
theorem wF_236_10 {σ : HS} {v : Int32} (h : GIm σ) (h1 : 0 ≤ v.toInt) (h2 : v.toInt ≤ 402) : GIm (hI σ 236 10 v) := GIm.I h (hFm_of (L := [(236, 10, 0, 402)]) (by decide) (fun q hq => by simp only [List.mem_cons, List.not_mem_nil, or_false] at hq; subst hq; exact ⟨h1, h2⟩)) (hAm_of (L := []) (by decide) (fun _ h => absurd h List.not_mem_nil))
theorem nof_267 : ∀ q ∈ bdFm, ¬ q.1 = 267 := by decide
theorem wA_267 {σ : HS} {v : Int32} {j : Nat} (h : GIm σ) : GIm (hI σ 267 j v) := GIm.I h (fun q hq e1 _ => absurd e1 (nof_267 q hq)) (hAm_of (L := []) (by decide) (fun _ h => absurd h List.not_mem_nil))
theorem wF_236_49 {σ : HS} {v : Int32} (h : GIm σ) : GIm (hI σ 236 49 v) := GIm.I h (hFm_of (L := []) (by decide) (fun _ h => absurd h List.not_mem_nil)) (hAm_of (L := []) (by decide) (fun _ h => absurd h List.not_mem_nil))
theorem wF_236_50 {σ : HS} {v : Int32} (h : GIm σ) : GIm (hI σ 236 50 v) := GIm.I h (hFm_of (L := []) (by decide) (fun _ h => absurd h List.not_mem_nil)) (hAm_of (L := []) (by decide) (fun _ h => absurd h List.not_mem_nil))
