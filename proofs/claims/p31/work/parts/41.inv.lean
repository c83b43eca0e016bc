/-! the class's invariant: bounds of fields and of arrays' elements -/
def bdF : List (Nat × Nat × Int × Int) := [(1, 5, 0, 400), (1, 9, 0, 12), (2, 1, 0, 2000), (2, 5, 0, 2000), (9, 2, 0, 32), (12, 1, 0, 39), (12, 2, 0, 40), (14, 2, 0, 20), (17, 1, 0, 1024), (17, 5, 0, 12), (30, 0, 0, 7), (30, 4, 0, 5), (30, 8, 0, 408), (43, 0, 0, 7), (43, 4, 0, 5), (43, 8, 0, 408)]
def bdA : List (Nat × Int × Int) := [(15, 0, 40), (18, 0, 1023), (19, -1, 1023), (35, 0, 9999), (36, 0, 9999), (37, 0, 9999), (38, 0, 9999), (39, 0, 9999), (40, 0, 8), (48, 0, 9999), (49, 0, 9999), (50, 0, 9999), (51, 0, 9999), (52, 0, 9999), (53, 0, 8)]
def GIc (σ : HS) : Prop := (∀ q ∈ bdF, q.2.2.1 ≤ (σ.1 q.1 q.2.1).toInt ∧ (σ.1 q.1 q.2.1).toInt ≤ q.2.2.2) ∧ (∀ q ∈ bdA, ∀ j : Nat, q.2.1 ≤ (σ.1 q.1 j).toInt ∧ (σ.1 q.1 j).toInt ≤ q.2.2) ∧ (∀ a, a < 45 → 0 ≤ (σ.1 (56 + 4 * a) 0).toInt ∧ (σ.1 (56 + 4 * a) 0).toInt ≤ 7) ∧ (∀ j, j ≤ 400 → (σ.1 4 j).toInt = 21 → 0 ≤ (σ.2.1 6 j).toInt ∧ (σ.2.1 6 j).toInt ≤ 9999)
theorem hF_of {i k : Nat} {v : Int32} {L : List (Nat × Nat × Int × Int)} (e : bdF.filter (fun q => q.1 == i && q.2.1 == k) = L) (h : ∀ q ∈ L, q.2.2.1 ≤ v.toInt ∧ v.toInt ≤ q.2.2.2) : ∀ q ∈ bdF, q.1 = i → q.2.1 = k → q.2.2.1 ≤ v.toInt ∧ v.toInt ≤ q.2.2.2 := fun q hq e1 e2 => h q (by rw [← e]; exact List.mem_filter.mpr ⟨hq, by simp [e1, e2]⟩)
theorem hA_of {i : Nat} {v : Int32} {L : List (Nat × Int × Int)} (e : bdA.filter (fun q => q.1 == i) = L) (h : ∀ q ∈ L, q.2.1 ≤ v.toInt ∧ v.toInt ≤ q.2.2) : ∀ q ∈ bdA, q.1 = i → q.2.1 ≤ v.toInt ∧ v.toInt ≤ q.2.2 := fun q hq e1 => h q (by rw [← e]; exact List.mem_filter.mpr ⟨hq, by simp [e1]⟩)
theorem hI_at {σ : HS} {i k : Nat} {v : Int32} (a b : Nat) : (a = i ∧ b = k ∧ (hI σ i k v).1 a b = v) ∨ (hI σ i k v).1 a b = σ.1 a b := by
  by_cases e : a = i
  · subst e
    by_cases e2 : b = k
    · subst e2; exact Or.inl ⟨rfl, rfl, hI_s⟩
    · exact Or.inr (hI_n e2)
  · exact Or.inr (congrFun (hI_o e) b)
theorem GIc.I {σ : HS} {i k : Nat} {v : Int32} (h : GIc σ) (hF : ∀ q ∈ bdF, q.1 = i → q.2.1 = k → q.2.2.1 ≤ v.toInt ∧ v.toInt ≤ q.2.2.2) (hA : ∀ q ∈ bdA, q.1 = i → q.2.1 ≤ v.toInt ∧ v.toInt ≤ q.2.2) (hR : ∀ a, a < 45 → 56 + 4 * a = i → k = 0 → 0 ≤ v.toInt ∧ v.toInt ≤ 7) (h4 : i ≠ 4) : GIc (hI σ i k v) := by
  refine ⟨fun q hq => ?_, fun q hq j => ?_, fun a ha => ?_, fun j hj h21 => ?_⟩
  · rcases hI_at (σ := σ) (i := i) (k := k) (v := v) q.1 q.2.1 with ⟨e1, e2, e3⟩ | e3
    · rw [e3]; exact hF q hq e1 e2
    · rw [e3]; exact h.1 q hq
  · rcases hI_at (σ := σ) (i := i) (k := k) (v := v) q.1 j with ⟨e1, e2, e3⟩ | e3
    · rw [e3]; exact hA q hq e1
    · rw [e3]; exact h.2.1 q hq j
  · rcases hI_at (σ := σ) (i := i) (k := k) (v := v) (56 + 4 * a) 0 with ⟨e1, e2, e3⟩ | e3
    · rw [e3]; exact hR a ha e1 e2.symm
    · rw [e3]; exact h.2.2.1 a ha
  · have e : (hI σ i k v).1 4 = σ.1 4 := hI_o (Ne.symm h4)
    rw [e] at h21
    exact h.2.2.2 j hj h21
theorem GIc.L {σ : HS} {i k : Nat} {v : Int64} (h : GIc σ) (h6 : i ≠ 6) : GIc (hL σ i k v) := by
  refine ⟨h.1, h.2.1, h.2.2.1, fun j hj h21 => ?_⟩
  have e : (hL σ i k v).2.1 6 = σ.2.1 6 := va_up_ne σ.2.1 _ (Ne.symm h6)
  rw [e]
  exact h.2.2.2 j hj h21
/-- the Reader: the kind that is ahead is that of the token ahead -/
def RK (σ : HS) : Prop := σ.1 1 6 = σ.1 4 (σ.1 1 5).toInt.toNat
theorem RK.I {σ : HS} {i k : Nat} {v : Int32} (h : RK σ) (h4 : i ≠ 4) (h1 : i = 1 → k ≠ 5 ∧ k ≠ 6) : RK (hI σ i k v) := by
  unfold RK at h ⊢
  have e4 : (hI σ i k v).1 4 = σ.1 4 := hI_o (Ne.symm h4)
  by_cases e : i = 1
  · subst e
    have e5 : (hI σ 1 k v).1 1 5 = σ.1 1 5 := hI_n (Ne.symm (h1 rfl).1)
    have e6 : (hI σ 1 k v).1 1 6 = σ.1 1 6 := hI_n (Ne.symm (h1 rfl).2)
    rw [e4, e5, e6]
    exact h
  · have e1 : (hI σ i k v).1 1 = σ.1 1 := hI_o (Ne.symm e)
    rw [e4, e1]
    exact h
theorem RK.ony {L : List Nat} {σ σ1 : HS} (h : RK σ) (ho : ony L σ σ1) (h1 : 1 ∉ L) (h4 : 4 ∉ L) : RK σ1 := by
  unfold RK at h ⊢
  rw [(ho.1 1 h1).1, (ho.1 4 h4).1]
  exact h
theorem GIc.C {σ : HS} {i k n : Nat} (h : GIc σ) (nf : ∀ q ∈ bdF, ¬ q.1 = k) (na : ∀ q ∈ bdA, ¬ q.1 = k) (hR : ∀ a, a < 45 → 56 + 4 * a ≠ k) (h4 : k ≠ 4) : GIc (hC σ i k n) := by
  have e : ∀ a, a ≠ k → (hC σ i k n).1 a = σ.1 a := fun a ha => hA_o ha
  refine ⟨fun q hq => ?_, fun q hq j => ?_, fun a ha => ?_, fun j hj h21 => ?_⟩
  · rw [e _ (nf q hq)]; exact h.1 q hq
  · rw [e _ (na q hq)]; exact h.2.1 q hq j
  · rw [e _ (hR a ha)]; exact h.2.2.1 a ha
  · rw [e _ (Ne.symm h4)] at h21; exact h.2.2.2 j hj h21
theorem GIc.A {σ : HS} {k : Nat} (h : GIc σ) (nf : ∀ q ∈ bdF, ¬ q.1 = k) (na : ∀ q ∈ bdA, ¬ q.1 = k) (hR : ∀ a, a < 45 → 56 + 4 * a ≠ k) (h4 : k ≠ 4) (f : Nat → Int32) : GIc (hA σ k f) := by
  have e : ∀ a, a ≠ k → (hA σ k f).1 a = σ.1 a := fun a ha => hA_o ha
  refine ⟨fun q hq => ?_, fun q hq j => ?_, fun a ha => ?_, fun j hj h21 => ?_⟩
  · rw [e _ (nf q hq)]; exact h.1 q hq
  · rw [e _ (na q hq)]; exact h.2.1 q hq j
  · rw [e _ (hR a ha)]; exact h.2.2.1 a ha
  · rw [e _ (Ne.symm h4)] at h21; exact h.2.2.2 j hj h21
theorem nar_z {z : Int32} (h : 0 ≤ z.toInt ∧ z.toInt ≤ 1) : narrow .boolean (.int z) = .int z ∧ fits .boolean (.int z) = true := by
  have : z = 0 ∨ z = 1 := by
    rcases (show z.toInt = 0 ∨ z.toInt = 1 by omega) with e | e
    · exact Or.inl (Int32.toInt_inj.mp e)
    · exact Or.inr (Int32.toInt_inj.mp e)
  rcases this with rfl | rfl <;> exact ⟨rfl, rfl⟩
theorem nar_v {z : Int32} (h : 0 ≤ z.toInt ∧ z.toInt ≤ 1) : vp_nar .boolean z = z := by
  have : z = 0 ∨ z = 1 := by
    rcases (show z.toInt = 0 ∨ z.toInt = 1 by omega) with e | e
    · exact Or.inl (Int32.toInt_inj.mp e)
    · exact Or.inr (Int32.toInt_inj.mp e)
  rcases this with rfl | rfl <;> rfl
/-- fewer locals -/
def lsubB : List (Option Value) → List (Option Value) → Prop
  | [], [] => True
  | none :: a, _ :: b => lsubB a b
  | some v :: a, some w :: b => v = w ∧ lsubB a b
  | _, _ => False
theorem lsub_of : ∀ {a b : List (Option Value)}, lsubB a b → ∀ (i : Nat) (v : Value), a[i]? = some (some v) → b[i]? = some (some v)
  | [], [], _, i, v, h => by simp at h
  | none :: a, y :: b, hs, 0, v, h => by simp at h
  | none :: a, y :: b, hs, i + 1, v, h => by
    have := lsub_of (a := a) (b := b) hs i v (by simpa using h)
    simpa using this
  | some x :: a, some y :: b, hs, 0, v, h => by
    have : x = v := by simpa using h
    rw [← this, hs.1]
    rfl
  | some x :: a, some y :: b, hs, i + 1, v, h => by
    have := lsub_of (a := a) (b := b) hs.2 i v (by simpa using h)
    simpa using this
theorem nof_57 : ∀ q ∈ bdF, ¬ q.1 = 57 := by decide
theorem wA_57 {σ : HS} {v : Int32} {j : Nat} (h : GIc σ) : GIc (hI σ 57 j v) := GIc.I h (fun q hq e1 _ => absurd e1 (nof_57 q hq)) (hA_of (L := []) (by decide) (fun _ h => absurd h List.not_mem_nil)) (fun a ha e hk => absurd e (by omega)) (by decide)
theorem nof_58 : ∀ q ∈ bdF, ¬ q.1 = 58 := by decide
theorem wA_58 {σ : HS} {v : Int32} {j : Nat} (h : GIc σ) : GIc (hI σ 58 j v) := GIc.I h (fun q hq e1 _ => absurd e1 (nof_58 q hq)) (hA_of (L := []) (by decide) (fun _ h => absurd h List.not_mem_nil)) (fun a ha e hk => absurd e (by omega)) (by decide)
theorem wF_56_9 {σ : HS} {v : Int32} (h : GIc σ) : GIc (hI σ 56 9 v) := GIc.I h (hF_of (L := []) (by decide) (fun _ h => absurd h List.not_mem_nil)) (hA_of (L := []) (by decide) (fun _ h => absurd h List.not_mem_nil)) (fun a ha e hk => absurd hk (by decide)) (by decide)
theorem wF_56_10 {σ : HS} {v : Int32} (h : GIc σ) : GIc (hI σ 56 10 v) := GIc.I h (hF_of (L := []) (by decide) (fun _ h => absurd h List.not_mem_nil)) (hA_of (L := []) (by decide) (fun _ h => absurd h List.not_mem_nil)) (fun a ha e hk => absurd hk (by decide)) (by decide)
theorem wF_56_6 {σ : HS} {v : Int32} (h : GIc σ) : GIc (hI σ 56 6 v) := GIc.I h (hF_of (L := []) (by decide) (fun _ h => absurd h List.not_mem_nil)) (hA_of (L := []) (by decide) (fun _ h => absurd h List.not_mem_nil)) (fun a ha e hk => absurd hk (by decide)) (by decide)
theorem bF_56_0 {σ : HS} (h : GIc σ) : 0 ≤ (σ.1 56 0).toInt ∧ (σ.1 56 0).toInt ≤ 7 := h.2.2.1 0 (by decide)
theorem nof_61 : ∀ q ∈ bdF, ¬ q.1 = 61 := by decide
theorem wA_61 {σ : HS} {v : Int32} {j : Nat} (h : GIc σ) : GIc (hI σ 61 j v) := GIc.I h (fun q hq e1 _ => absurd e1 (nof_61 q hq)) (hA_of (L := []) (by decide) (fun _ h => absurd h List.not_mem_nil)) (fun a ha e hk => absurd e (by omega)) (by decide)
theorem nof_62 : ∀ q ∈ bdF, ¬ q.1 = 62 := by decide
theorem wA_62 {σ : HS} {v : Int32} {j : Nat} (h : GIc σ) : GIc (hI σ 62 j v) := GIc.I h (fun q hq e1 _ => absurd e1 (nof_62 q hq)) (hA_of (L := []) (by decide) (fun _ h => absurd h List.not_mem_nil)) (fun a ha e hk => absurd e (by omega)) (by decide)
theorem wF_60_9 {σ : HS} {v : Int32} (h : GIc σ) : GIc (hI σ 60 9 v) := GIc.I h (hF_of (L := []) (by decide) (fun _ h => absurd h List.not_mem_nil)) (hA_of (L := []) (by decide) (fun _ h => absurd h List.not_mem_nil)) (fun a ha e hk => absurd hk (by decide)) (by decide)
theorem wF_60_10 {σ : HS} {v : Int32} (h : GIc σ) : GIc (hI σ 60 10 v) := GIc.I h (hF_of (L := []) (by decide) (fun _ h => absurd h List.not_mem_nil)) (hA_of (L := []) (by decide) (fun _ h => absurd h List.not_mem_nil)) (fun a ha e hk => absurd hk (by decide)) (by decide)
theorem wF_60_6 {σ : HS} {v : Int32} (h : GIc σ) : GIc (hI σ 60 6 v) := GIc.I h (hF_of (L := []) (by decide) (fun _ h => absurd h List.not_mem_nil)) (hA_of (L := []) (by decide) (fun _ h => absurd h List.not_mem_nil)) (fun a ha e hk => absurd hk (by decide)) (by decide)
theorem bF_60_0 {σ : HS} (h : GIc σ) : 0 ≤ (σ.1 60 0).toInt ∧ (σ.1 60 0).toInt ≤ 7 := h.2.2.1 1 (by decide)
theorem bF_30_0 {σ : HS} (h : GIc σ) : 0 ≤ (σ.1 30 0).toInt ∧ (σ.1 30 0).toInt ≤ 7 := h.1 (30, 0, 0, 7) (by decide)
theorem bF_30_4 {σ : HS} (h : GIc σ) : 0 ≤ (σ.1 30 4).toInt ∧ (σ.1 30 4).toInt ≤ 5 := h.1 (30, 4, 0, 5) (by decide)
theorem bF_30_8 {σ : HS} (h : GIc σ) : 0 ≤ (σ.1 30 8).toInt ∧ (σ.1 30 8).toInt ≤ 408 := h.1 (30, 8, 0, 408) (by decide)
theorem nof_41 : ∀ q ∈ bdF, ¬ q.1 = 41 := by decide
theorem wA_41 {σ : HS} {v : Int32} {j : Nat} (h : GIc σ) : GIc (hI σ 41 j v) := GIc.I h (fun q hq e1 _ => absurd e1 (nof_41 q hq)) (hA_of (L := []) (by decide) (fun _ h => absurd h List.not_mem_nil)) (fun a ha e hk => absurd e (by omega)) (by decide)
theorem wF_30_8 {σ : HS} {v : Int32} (h : GIc σ) (h1 : 0 ≤ v.toInt) (h2 : v.toInt ≤ 408) : GIc (hI σ 30 8 v) := GIc.I h (hF_of (L := [(30, 8, 0, 408)]) (by decide) (fun q hq => by simp only [List.mem_cons, List.not_mem_nil, or_false] at hq; subst hq; exact ⟨h1, h2⟩)) (hA_of (L := []) (by decide) (fun _ h => absurd h List.not_mem_nil)) (fun a ha e hk => absurd e (by omega)) (by decide)
theorem wF_30_0 {σ : HS} {v : Int32} (h : GIc σ) (h1 : 0 ≤ v.toInt) (h2 : v.toInt ≤ 7) : GIc (hI σ 30 0 v) := GIc.I h (hF_of (L := [(30, 0, 0, 7)]) (by decide) (fun q hq => by simp only [List.mem_cons, List.not_mem_nil, or_false] at hq; subst hq; exact ⟨h1, h2⟩)) (hA_of (L := []) (by decide) (fun _ h => absurd h List.not_mem_nil)) (fun a ha e hk => absurd e (by omega)) (by decide)
theorem wF_30_4 {σ : HS} {v : Int32} (h : GIc σ) (h1 : 0 ≤ v.toInt) (h2 : v.toInt ≤ 5) : GIc (hI σ 30 4 v) := GIc.I h (hF_of (L := [(30, 4, 0, 5)]) (by decide) (fun q hq => by simp only [List.mem_cons, List.not_mem_nil, or_false] at hq; subst hq; exact ⟨h1, h2⟩)) (hA_of (L := []) (by decide) (fun _ h => absurd h List.not_mem_nil)) (fun a ha e hk => absurd e (by omega)) (by decide)
theorem wF_30_10 {σ : HS} {v : Int32} (h : GIc σ) : GIc (hI σ 30 10 v) := GIc.I h (hF_of (L := []) (by decide) (fun _ h => absurd h List.not_mem_nil)) (hA_of (L := []) (by decide) (fun _ h => absurd h List.not_mem_nil)) (fun a ha e hk => absurd hk (by decide)) (by decide)
theorem wF_30_11 {σ : HS} {v : Int32} (h : GIc σ) : GIc (hI σ 30 11 v) := GIc.I h (hF_of (L := []) (by decide) (fun _ h => absurd h List.not_mem_nil)) (hA_of (L := []) (by decide) (fun _ h => absurd h List.not_mem_nil)) (fun a ha e hk => absurd hk (by decide)) (by decide)
theorem nof_42 : ∀ q ∈ bdF, ¬ q.1 = 42 := by decide
theorem wA_42 {σ : HS} {v : Int32} {j : Nat} (h : GIc σ) : GIc (hI σ 42 j v) := GIc.I h (fun q hq e1 _ => absurd e1 (nof_42 q hq)) (hA_of (L := []) (by decide) (fun _ h => absurd h List.not_mem_nil)) (fun a ha e hk => absurd e (by omega)) (by decide)
theorem kdH_34 : ∀ n, n < 5 → kd (34 + 1 + n) = 20 ∧ al (34 + 1 + n) = 8 ∧ 34 + 1 + n < 277 := by decide +kernel
theorem bH_34 {σ : HS} (h : GIc σ) {n : Nat} (hn : n < 5) (j : Nat) : 0 ≤ (σ.1 (34 + 1 + n) j).toInt ∧ (σ.1 (34 + 1 + n) j).toInt ≤ 9999 := h.2.1 (34 + 1 + n, 0, 9999) ((by decide : ∀ n, n < 5 → (34 + 1 + n, (0 : Int), (9999 : Int)) ∈ bdA) n hn) j
theorem bA_40 {σ : HS} (h : GIc σ) (j : Nat) : 0 ≤ (σ.1 40 j).toInt ∧ (σ.1 40 j).toInt ≤ 8 := h.2.1 (40, 0, 8) (by decide) j
theorem wF_56_0 {σ : HS} {v : Int32} (h : GIc σ) (h1 : 0 ≤ v.toInt) (h2 : v.toInt ≤ 7) : GIc (hI σ 56 0 v) := GIc.I h (hF_of (L := []) (by decide) (fun _ h => absurd h List.not_mem_nil)) (hA_of (L := []) (by decide) (fun _ h => absurd h List.not_mem_nil)) (fun _ _ _ _ => ⟨h1, h2⟩) (by decide)
theorem nof_59 : ∀ q ∈ bdF, ¬ q.1 = 59 := by decide
theorem wA_59 {σ : HS} {v : Int32} {j : Nat} (h : GIc σ) : GIc (hI σ 59 j v) := GIc.I h (fun q hq e1 _ => absurd e1 (nof_59 q hq)) (hA_of (L := []) (by decide) (fun _ h => absurd h List.not_mem_nil)) (fun a ha e hk => absurd e (by omega)) (by decide)
theorem wF_56_4 {σ : HS} {v : Int32} (h : GIc σ) : GIc (hI σ 56 4 v) := GIc.I h (hF_of (L := []) (by decide) (fun _ h => absurd h List.not_mem_nil)) (hA_of (L := []) (by decide) (fun _ h => absurd h List.not_mem_nil)) (fun a ha e hk => absurd hk (by decide)) (by decide)
theorem wF_56_5 {σ : HS} {v : Int32} (h : GIc σ) : GIc (hI σ 56 5 v) := GIc.I h (hF_of (L := []) (by decide) (fun _ h => absurd h List.not_mem_nil)) (hA_of (L := []) (by decide) (fun _ h => absurd h List.not_mem_nil)) (fun a ha e hk => absurd hk (by decide)) (by decide)
theorem wF_56_7 {σ : HS} {v : Int32} (h : GIc σ) : GIc (hI σ 56 7 v) := GIc.I h (hF_of (L := []) (by decide) (fun _ h => absurd h List.not_mem_nil)) (hA_of (L := []) (by decide) (fun _ h => absurd h List.not_mem_nil)) (fun a ha e hk => absurd hk (by decide)) (by decide)
theorem wF_56_8 {σ : HS} {v : Int32} (h : GIc σ) : GIc (hI σ 56 8 v) := GIc.I h (hF_of (L := []) (by decide) (fun _ h => absurd h List.not_mem_nil)) (hA_of (L := []) (by decide) (fun _ h => absurd h List.not_mem_nil)) (fun a ha e hk => absurd hk (by decide)) (by decide)
theorem wF_56_11 {σ : HS} {v : Int32} (h : GIc σ) : GIc (hI σ 56 11 v) := GIc.I h (hF_of (L := []) (by decide) (fun _ h => absurd h List.not_mem_nil)) (hA_of (L := []) (by decide) (fun _ h => absurd h List.not_mem_nil)) (fun a ha e hk => absurd hk (by decide)) (by decide)
theorem noa_58 : ∀ q ∈ bdA, ¬ q.1 = 58 := by decide
theorem wC_58 {σ : HS} {i n : Nat} (h : GIc σ) : GIc (hC σ i 58 n) := GIc.C h nof_58 noa_58 (fun a ha => by omega) (by decide)
theorem bF_43_0 {σ : HS} (h : GIc σ) : 0 ≤ (σ.1 43 0).toInt ∧ (σ.1 43 0).toInt ≤ 7 := h.1 (43, 0, 0, 7) (by decide)
theorem bF_43_4 {σ : HS} (h : GIc σ) : 0 ≤ (σ.1 43 4).toInt ∧ (σ.1 43 4).toInt ≤ 5 := h.1 (43, 4, 0, 5) (by decide)
theorem bF_43_8 {σ : HS} (h : GIc σ) : 0 ≤ (σ.1 43 8).toInt ∧ (σ.1 43 8).toInt ≤ 408 := h.1 (43, 8, 0, 408) (by decide)
theorem nof_54 : ∀ q ∈ bdF, ¬ q.1 = 54 := by decide
theorem wA_54 {σ : HS} {v : Int32} {j : Nat} (h : GIc σ) : GIc (hI σ 54 j v) := GIc.I h (fun q hq e1 _ => absurd e1 (nof_54 q hq)) (hA_of (L := []) (by decide) (fun _ h => absurd h List.not_mem_nil)) (fun a ha e hk => absurd e (by omega)) (by decide)
theorem wF_43_8 {σ : HS} {v : Int32} (h : GIc σ) (h1 : 0 ≤ v.toInt) (h2 : v.toInt ≤ 408) : GIc (hI σ 43 8 v) := GIc.I h (hF_of (L := [(43, 8, 0, 408)]) (by decide) (fun q hq => by simp only [List.mem_cons, List.not_mem_nil, or_false] at hq; subst hq; exact ⟨h1, h2⟩)) (hA_of (L := []) (by decide) (fun _ h => absurd h List.not_mem_nil)) (fun a ha e hk => absurd e (by omega)) (by decide)
theorem wF_43_0 {σ : HS} {v : Int32} (h : GIc σ) (h1 : 0 ≤ v.toInt) (h2 : v.toInt ≤ 7) : GIc (hI σ 43 0 v) := GIc.I h (hF_of (L := [(43, 0, 0, 7)]) (by decide) (fun q hq => by simp only [List.mem_cons, List.not_mem_nil, or_false] at hq; subst hq; exact ⟨h1, h2⟩)) (hA_of (L := []) (by decide) (fun _ h => absurd h List.not_mem_nil)) (fun a ha e hk => absurd e (by omega)) (by decide)
theorem wF_43_4 {σ : HS} {v : Int32} (h : GIc σ) (h1 : 0 ≤ v.toInt) (h2 : v.toInt ≤ 5) : GIc (hI σ 43 4 v) := GIc.I h (hF_of (L := [(43, 4, 0, 5)]) (by decide) (fun q hq => by simp only [List.mem_cons, List.not_mem_nil, or_false] at hq; subst hq; exact ⟨h1, h2⟩)) (hA_of (L := []) (by decide) (fun _ h => absurd h List.not_mem_nil)) (fun a ha e hk => absurd e (by omega)) (by decide)
theorem wF_43_10 {σ : HS} {v : Int32} (h : GIc σ) : GIc (hI σ 43 10 v) := GIc.I h (hF_of (L := []) (by decide) (fun _ h => absurd h List.not_mem_nil)) (hA_of (L := []) (by decide) (fun _ h => absurd h List.not_mem_nil)) (fun a ha e hk => absurd hk (by decide)) (by decide)
theorem wF_43_11 {σ : HS} {v : Int32} (h : GIc σ) : GIc (hI σ 43 11 v) := GIc.I h (hF_of (L := []) (by decide) (fun _ h => absurd h List.not_mem_nil)) (hA_of (L := []) (by decide) (fun _ h => absurd h List.not_mem_nil)) (fun a ha e hk => absurd hk (by decide)) (by decide)
theorem nof_55 : ∀ q ∈ bdF, ¬ q.1 = 55 := by decide
theorem wA_55 {σ : HS} {v : Int32} {j : Nat} (h : GIc σ) : GIc (hI σ 55 j v) := GIc.I h (fun q hq e1 _ => absurd e1 (nof_55 q hq)) (hA_of (L := []) (by decide) (fun _ h => absurd h List.not_mem_nil)) (fun a ha e hk => absurd e (by omega)) (by decide)
theorem kdH_47 : ∀ n, n < 5 → kd (47 + 1 + n) = 20 ∧ al (47 + 1 + n) = 8 ∧ 47 + 1 + n < 277 := by decide +kernel
theorem bH_47 {σ : HS} (h : GIc σ) {n : Nat} (hn : n < 5) (j : Nat) : 0 ≤ (σ.1 (47 + 1 + n) j).toInt ∧ (σ.1 (47 + 1 + n) j).toInt ≤ 9999 := h.2.1 (47 + 1 + n, 0, 9999) ((by decide : ∀ n, n < 5 → (47 + 1 + n, (0 : Int), (9999 : Int)) ∈ bdA) n hn) j
theorem bA_53 {σ : HS} (h : GIc σ) (j : Nat) : 0 ≤ (σ.1 53 j).toInt ∧ (σ.1 53 j).toInt ≤ 8 := h.2.1 (53, 0, 8) (by decide) j
theorem bF_9_2 {σ : HS} (h : GIc σ) : 0 ≤ (σ.1 9 2).toInt ∧ (σ.1 9 2).toInt ≤ 32 := h.1 (9, 2, 0, 32) (by decide)
theorem wF_9_3 {σ : HS} {v : Int32} (h : GIc σ) : GIc (hI σ 9 3 v) := GIc.I h (hF_of (L := []) (by decide) (fun _ h => absurd h List.not_mem_nil)) (hA_of (L := []) (by decide) (fun _ h => absurd h List.not_mem_nil)) (fun a ha e hk => absurd hk (by decide)) (by decide)
theorem nof_11 : ∀ q ∈ bdF, ¬ q.1 = 11 := by decide
theorem wA_11 {σ : HS} {v : Int32} {j : Nat} (h : GIc σ) : GIc (hI σ 11 j v) := GIc.I h (fun q hq e1 _ => absurd e1 (nof_11 q hq)) (hA_of (L := []) (by decide) (fun _ h => absurd h List.not_mem_nil)) (fun a ha e hk => absurd e (by omega)) (by decide)
theorem wF_9_2 {σ : HS} {v : Int32} (h : GIc σ) (h1 : 0 ≤ v.toInt) (h2 : v.toInt ≤ 32) : GIc (hI σ 9 2 v) := GIc.I h (hF_of (L := [(9, 2, 0, 32)]) (by decide) (fun q hq => by simp only [List.mem_cons, List.not_mem_nil, or_false] at hq; subst hq; exact ⟨h1, h2⟩)) (hA_of (L := []) (by decide) (fun _ h => absurd h List.not_mem_nil)) (fun a ha e hk => absurd e (by omega)) (by decide)
theorem bF_14_2 {σ : HS} (h : GIc σ) : 0 ≤ (σ.1 14 2).toInt ∧ (σ.1 14 2).toInt ≤ 20 := h.1 (14, 2, 0, 20) (by decide)
theorem nof_15 : ∀ q ∈ bdF, ¬ q.1 = 15 := by decide
theorem wA_15 {σ : HS} {v : Int32} {j : Nat} (h : GIc σ) (h1 : 0 ≤ v.toInt) (h2 : v.toInt ≤ 40) : GIc (hI σ 15 j v) := GIc.I h (fun q hq e1 _ => absurd e1 (nof_15 q hq)) (hA_of (L := [(15, 0, 40)]) (by decide) (fun q hq => by simp only [List.mem_cons, List.not_mem_nil, or_false] at hq; subst hq; exact ⟨h1, h2⟩)) (fun a ha e hk => absurd e (by omega)) (by decide)
theorem nof_16 : ∀ q ∈ bdF, ¬ q.1 = 16 := by decide
theorem wA_16 {σ : HS} {v : Int32} {j : Nat} (h : GIc σ) : GIc (hI σ 16 j v) := GIc.I h (fun q hq e1 _ => absurd e1 (nof_16 q hq)) (hA_of (L := []) (by decide) (fun _ h => absurd h List.not_mem_nil)) (fun a ha e hk => absurd e (by omega)) (by decide)
theorem wF_14_2 {σ : HS} {v : Int32} (h : GIc σ) (h1 : 0 ≤ v.toInt) (h2 : v.toInt ≤ 20) : GIc (hI σ 14 2 v) := GIc.I h (hF_of (L := [(14, 2, 0, 20)]) (by decide) (fun q hq => by simp only [List.mem_cons, List.not_mem_nil, or_false] at hq; subst hq; exact ⟨h1, h2⟩)) (hA_of (L := []) (by decide) (fun _ h => absurd h List.not_mem_nil)) (fun a ha e hk => absurd e (by omega)) (by decide)
theorem bA_15 {σ : HS} (h : GIc σ) (j : Nat) : 0 ≤ (σ.1 15 j).toInt ∧ (σ.1 15 j).toInt ≤ 40 := h.2.1 (15, 0, 40) (by decide) j
theorem wF_12_2 {σ : HS} {v : Int32} (h : GIc σ) (h1 : 0 ≤ v.toInt) (h2 : v.toInt ≤ 40) : GIc (hI σ 12 2 v) := GIc.I h (hF_of (L := [(12, 2, 0, 40)]) (by decide) (fun q hq => by simp only [List.mem_cons, List.not_mem_nil, or_false] at hq; subst hq; exact ⟨h1, h2⟩)) (hA_of (L := []) (by decide) (fun _ h => absurd h List.not_mem_nil)) (fun a ha e hk => absurd e (by omega)) (by decide)
theorem bF_12_1 {σ : HS} (h : GIc σ) : 0 ≤ (σ.1 12 1).toInt ∧ (σ.1 12 1).toInt ≤ 39 := h.1 (12, 1, 0, 39) (by decide)
theorem wF_12_1 {σ : HS} {v : Int32} (h : GIc σ) (h1 : 0 ≤ v.toInt) (h2 : v.toInt ≤ 39) : GIc (hI σ 12 1 v) := GIc.I h (hF_of (L := [(12, 1, 0, 39)]) (by decide) (fun q hq => by simp only [List.mem_cons, List.not_mem_nil, or_false] at hq; subst hq; exact ⟨h1, h2⟩)) (hA_of (L := []) (by decide) (fun _ h => absurd h List.not_mem_nil)) (fun a ha e hk => absurd e (by omega)) (by decide)
theorem bF_12_2 {σ : HS} (h : GIc σ) : 0 ≤ (σ.1 12 2).toInt ∧ (σ.1 12 2).toInt ≤ 40 := h.1 (12, 2, 0, 40) (by decide)
theorem wF_1_2 {σ : HS} {v : Int32} (h : GIc σ) : GIc (hI σ 1 2 v) := GIc.I h (hF_of (L := []) (by decide) (fun _ h => absurd h List.not_mem_nil)) (hA_of (L := []) (by decide) (fun _ h => absurd h List.not_mem_nil)) (fun a ha e hk => absurd hk (by decide)) (by decide)
theorem bF_1_5 {σ : HS} (h : GIc σ) : 0 ≤ (σ.1 1 5).toInt ∧ (σ.1 1 5).toInt ≤ 400 := h.1 (1, 5, 0, 400) (by decide)
theorem wF_1_1 {σ : HS} {v : Int32} (h : GIc σ) : GIc (hI σ 1 1 v) := GIc.I h (hF_of (L := []) (by decide) (fun _ h => absurd h List.not_mem_nil)) (hA_of (L := []) (by decide) (fun _ h => absurd h List.not_mem_nil)) (fun a ha e hk => absurd hk (by decide)) (by decide)
theorem wF_1_3 {σ : HS} {v : Int32} (h : GIc σ) : GIc (hI σ 1 3 v) := GIc.I h (hF_of (L := []) (by decide) (fun _ h => absurd h List.not_mem_nil)) (hA_of (L := []) (by decide) (fun _ h => absurd h List.not_mem_nil)) (fun a ha e hk => absurd hk (by decide)) (by decide)
theorem wF_1_4 {σ : HS} {v : Int32} (h : GIc σ) : GIc (hI σ 1 4 v) := GIc.I h (hF_of (L := []) (by decide) (fun _ h => absurd h List.not_mem_nil)) (hA_of (L := []) (by decide) (fun _ h => absurd h List.not_mem_nil)) (fun a ha e hk => absurd hk (by decide)) (by decide)
theorem wF_1_7 {σ : HS} {v : Int32} (h : GIc σ) : GIc (hI σ 1 7 v) := GIc.I h (hF_of (L := []) (by decide) (fun _ h => absurd h List.not_mem_nil)) (hA_of (L := []) (by decide) (fun _ h => absurd h List.not_mem_nil)) (fun a ha e hk => absurd hk (by decide)) (by decide)
theorem wF_1_5 {σ : HS} {v : Int32} (h : GIc σ) (h1 : 0 ≤ v.toInt) (h2 : v.toInt ≤ 400) : GIc (hI σ 1 5 v) := GIc.I h (hF_of (L := [(1, 5, 0, 400)]) (by decide) (fun q hq => by simp only [List.mem_cons, List.not_mem_nil, or_false] at hq; subst hq; exact ⟨h1, h2⟩)) (hA_of (L := []) (by decide) (fun _ h => absurd h List.not_mem_nil)) (fun a ha e hk => absurd e (by omega)) (by decide)
theorem wF_1_6 {σ : HS} {v : Int32} (h : GIc σ) : GIc (hI σ 1 6 v) := GIc.I h (hF_of (L := []) (by decide) (fun _ h => absurd h List.not_mem_nil)) (hA_of (L := []) (by decide) (fun _ h => absurd h List.not_mem_nil)) (fun a ha e hk => absurd hk (by decide)) (by decide)
theorem bF_1_9 {σ : HS} (h : GIc σ) : 0 ≤ (σ.1 1 9).toInt ∧ (σ.1 1 9).toInt ≤ 12 := h.1 (1, 9, 0, 12) (by decide)
theorem wF_1_9 {σ : HS} {v : Int32} (h : GIc σ) (h1 : 0 ≤ v.toInt) (h2 : v.toInt ≤ 12) : GIc (hI σ 1 9 v) := GIc.I h (hF_of (L := [(1, 9, 0, 12)]) (by decide) (fun q hq => by simp only [List.mem_cons, List.not_mem_nil, or_false] at hq; subst hq; exact ⟨h1, h2⟩)) (hA_of (L := []) (by decide) (fun _ h => absurd h List.not_mem_nil)) (fun a ha e hk => absurd e (by omega)) (by decide)
theorem nof_31 : ∀ q ∈ bdF, ¬ q.1 = 31 := by decide
theorem wA_31 {σ : HS} {v : Int32} {j : Nat} (h : GIc σ) : GIc (hI σ 31 j v) := GIc.I h (fun q hq e1 _ => absurd e1 (nof_31 q hq)) (hA_of (L := []) (by decide) (fun _ h => absurd h List.not_mem_nil)) (fun a ha e hk => absurd e (by omega)) (by decide)
theorem nof_32 : ∀ q ∈ bdF, ¬ q.1 = 32 := by decide
theorem wA_32 {σ : HS} {v : Int32} {j : Nat} (h : GIc σ) : GIc (hI σ 32 j v) := GIc.I h (fun q hq e1 _ => absurd e1 (nof_32 q hq)) (hA_of (L := []) (by decide) (fun _ h => absurd h List.not_mem_nil)) (fun a ha e hk => absurd e (by omega)) (by decide)
theorem nof_33 : ∀ q ∈ bdF, ¬ q.1 = 33 := by decide
theorem wA_33 {σ : HS} {v : Int32} {j : Nat} (h : GIc σ) : GIc (hI σ 33 j v) := GIc.I h (fun q hq e1 _ => absurd e1 (nof_33 q hq)) (hA_of (L := []) (by decide) (fun _ h => absurd h List.not_mem_nil)) (fun a ha e hk => absurd e (by omega)) (by decide)
theorem nof_35 : ∀ q ∈ bdF, ¬ q.1 = 35 := by decide
theorem wA_35 {σ : HS} {v : Int32} {j : Nat} (h : GIc σ) (h1 : 0 ≤ v.toInt) (h2 : v.toInt ≤ 9999) : GIc (hI σ 35 j v) := GIc.I h (fun q hq e1 _ => absurd e1 (nof_35 q hq)) (hA_of (L := [(35, 0, 9999)]) (by decide) (fun q hq => by simp only [List.mem_cons, List.not_mem_nil, or_false] at hq; subst hq; exact ⟨h1, h2⟩)) (fun a ha e hk => absurd e (by omega)) (by decide)
theorem nof_36 : ∀ q ∈ bdF, ¬ q.1 = 36 := by decide
theorem wA_36 {σ : HS} {v : Int32} {j : Nat} (h : GIc σ) (h1 : 0 ≤ v.toInt) (h2 : v.toInt ≤ 9999) : GIc (hI σ 36 j v) := GIc.I h (fun q hq e1 _ => absurd e1 (nof_36 q hq)) (hA_of (L := [(36, 0, 9999)]) (by decide) (fun q hq => by simp only [List.mem_cons, List.not_mem_nil, or_false] at hq; subst hq; exact ⟨h1, h2⟩)) (fun a ha e hk => absurd e (by omega)) (by decide)
theorem nof_37 : ∀ q ∈ bdF, ¬ q.1 = 37 := by decide
theorem wA_37 {σ : HS} {v : Int32} {j : Nat} (h : GIc σ) (h1 : 0 ≤ v.toInt) (h2 : v.toInt ≤ 9999) : GIc (hI σ 37 j v) := GIc.I h (fun q hq e1 _ => absurd e1 (nof_37 q hq)) (hA_of (L := [(37, 0, 9999)]) (by decide) (fun q hq => by simp only [List.mem_cons, List.not_mem_nil, or_false] at hq; subst hq; exact ⟨h1, h2⟩)) (fun a ha e hk => absurd e (by omega)) (by decide)
theorem nof_38 : ∀ q ∈ bdF, ¬ q.1 = 38 := by decide
theorem wA_38 {σ : HS} {v : Int32} {j : Nat} (h : GIc σ) (h1 : 0 ≤ v.toInt) (h2 : v.toInt ≤ 9999) : GIc (hI σ 38 j v) := GIc.I h (fun q hq e1 _ => absurd e1 (nof_38 q hq)) (hA_of (L := [(38, 0, 9999)]) (by decide) (fun q hq => by simp only [List.mem_cons, List.not_mem_nil, or_false] at hq; subst hq; exact ⟨h1, h2⟩)) (fun a ha e hk => absurd e (by omega)) (by decide)
theorem nof_39 : ∀ q ∈ bdF, ¬ q.1 = 39 := by decide
theorem wA_39 {σ : HS} {v : Int32} {j : Nat} (h : GIc σ) (h1 : 0 ≤ v.toInt) (h2 : v.toInt ≤ 9999) : GIc (hI σ 39 j v) := GIc.I h (fun q hq e1 _ => absurd e1 (nof_39 q hq)) (hA_of (L := [(39, 0, 9999)]) (by decide) (fun q hq => by simp only [List.mem_cons, List.not_mem_nil, or_false] at hq; subst hq; exact ⟨h1, h2⟩)) (fun a ha e hk => absurd e (by omega)) (by decide)
theorem wH_34 {σ : HS} {n j : Nat} {v : Int32} (h : GIc σ) (hn : n < 5) (h1 : 0 ≤ v.toInt) (h2 : v.toInt ≤ 9999) : GIc (hI σ (34 + 1 + n) j v) ∧ ony [35, 36, 37, 38, 39] σ (hI σ (34 + 1 + n) j v) := by
  rcases (show n = 0 ∨ n = 1 ∨ n = 2 ∨ n = 3 ∨ n = 4 by omega) with rfl | rfl | rfl | rfl | rfl
  · exact ⟨wA_35 h h1 h2, ony.I ony.rf (by decide)⟩
  · exact ⟨wA_36 h h1 h2, ony.I ony.rf (by decide)⟩
  · exact ⟨wA_37 h h1 h2, ony.I ony.rf (by decide)⟩
  · exact ⟨wA_38 h h1 h2, ony.I ony.rf (by decide)⟩
  · exact ⟨wA_39 h h1 h2, ony.I ony.rf (by decide)⟩
theorem nof_40 : ∀ q ∈ bdF, ¬ q.1 = 40 := by decide
theorem wA_40 {σ : HS} {v : Int32} {j : Nat} (h : GIc σ) (h1 : 0 ≤ v.toInt) (h2 : v.toInt ≤ 8) : GIc (hI σ 40 j v) := GIc.I h (fun q hq e1 _ => absurd e1 (nof_40 q hq)) (hA_of (L := [(40, 0, 8)]) (by decide) (fun q hq => by simp only [List.mem_cons, List.not_mem_nil, or_false] at hq; subst hq; exact ⟨h1, h2⟩)) (fun a ha e hk => absurd e (by omega)) (by decide)
theorem nof_44 : ∀ q ∈ bdF, ¬ q.1 = 44 := by decide
theorem wA_44 {σ : HS} {v : Int32} {j : Nat} (h : GIc σ) : GIc (hI σ 44 j v) := GIc.I h (fun q hq e1 _ => absurd e1 (nof_44 q hq)) (hA_of (L := []) (by decide) (fun _ h => absurd h List.not_mem_nil)) (fun a ha e hk => absurd e (by omega)) (by decide)
theorem nof_45 : ∀ q ∈ bdF, ¬ q.1 = 45 := by decide
theorem wA_45 {σ : HS} {v : Int32} {j : Nat} (h : GIc σ) : GIc (hI σ 45 j v) := GIc.I h (fun q hq e1 _ => absurd e1 (nof_45 q hq)) (hA_of (L := []) (by decide) (fun _ h => absurd h List.not_mem_nil)) (fun a ha e hk => absurd e (by omega)) (by decide)
theorem nof_46 : ∀ q ∈ bdF, ¬ q.1 = 46 := by decide
theorem wA_46 {σ : HS} {v : Int32} {j : Nat} (h : GIc σ) : GIc (hI σ 46 j v) := GIc.I h (fun q hq e1 _ => absurd e1 (nof_46 q hq)) (hA_of (L := []) (by decide) (fun _ h => absurd h List.not_mem_nil)) (fun a ha e hk => absurd e (by omega)) (by decide)
theorem nof_48 : ∀ q ∈ bdF, ¬ q.1 = 48 := by decide
theorem wA_48 {σ : HS} {v : Int32} {j : Nat} (h : GIc σ) (h1 : 0 ≤ v.toInt) (h2 : v.toInt ≤ 9999) : GIc (hI σ 48 j v) := GIc.I h (fun q hq e1 _ => absurd e1 (nof_48 q hq)) (hA_of (L := [(48, 0, 9999)]) (by decide) (fun q hq => by simp only [List.mem_cons, List.not_mem_nil, or_false] at hq; subst hq; exact ⟨h1, h2⟩)) (fun a ha e hk => absurd e (by omega)) (by decide)
theorem nof_49 : ∀ q ∈ bdF, ¬ q.1 = 49 := by decide
theorem wA_49 {σ : HS} {v : Int32} {j : Nat} (h : GIc σ) (h1 : 0 ≤ v.toInt) (h2 : v.toInt ≤ 9999) : GIc (hI σ 49 j v) := GIc.I h (fun q hq e1 _ => absurd e1 (nof_49 q hq)) (hA_of (L := [(49, 0, 9999)]) (by decide) (fun q hq => by simp only [List.mem_cons, List.not_mem_nil, or_false] at hq; subst hq; exact ⟨h1, h2⟩)) (fun a ha e hk => absurd e (by omega)) (by decide)
theorem nof_50 : ∀ q ∈ bdF, ¬ q.1 = 50 := by decide
theorem wA_50 {σ : HS} {v : Int32} {j : Nat} (h : GIc σ) (h1 : 0 ≤ v.toInt) (h2 : v.toInt ≤ 9999) : GIc (hI σ 50 j v) := GIc.I h (fun q hq e1 _ => absurd e1 (nof_50 q hq)) (hA_of (L := [(50, 0, 9999)]) (by decide) (fun q hq => by simp only [List.mem_cons, List.not_mem_nil, or_false] at hq; subst hq; exact ⟨h1, h2⟩)) (fun a ha e hk => absurd e (by omega)) (by decide)
theorem nof_51 : ∀ q ∈ bdF, ¬ q.1 = 51 := by decide
theorem wA_51 {σ : HS} {v : Int32} {j : Nat} (h : GIc σ) (h1 : 0 ≤ v.toInt) (h2 : v.toInt ≤ 9999) : GIc (hI σ 51 j v) := GIc.I h (fun q hq e1 _ => absurd e1 (nof_51 q hq)) (hA_of (L := [(51, 0, 9999)]) (by decide) (fun q hq => by simp only [List.mem_cons, List.not_mem_nil, or_false] at hq; subst hq; exact ⟨h1, h2⟩)) (fun a ha e hk => absurd e (by omega)) (by decide)
theorem nof_52 : ∀ q ∈ bdF, ¬ q.1 = 52 := by decide
theorem wA_52 {σ : HS} {v : Int32} {j : Nat} (h : GIc σ) (h1 : 0 ≤ v.toInt) (h2 : v.toInt ≤ 9999) : GIc (hI σ 52 j v) := GIc.I h (fun q hq e1 _ => absurd e1 (nof_52 q hq)) (hA_of (L := [(52, 0, 9999)]) (by decide) (fun q hq => by simp only [List.mem_cons, List.not_mem_nil, or_false] at hq; subst hq; exact ⟨h1, h2⟩)) (fun a ha e hk => absurd e (by omega)) (by decide)
theorem wH_47 {σ : HS} {n j : Nat} {v : Int32} (h : GIc σ) (hn : n < 5) (h1 : 0 ≤ v.toInt) (h2 : v.toInt ≤ 9999) : GIc (hI σ (47 + 1 + n) j v) ∧ ony [48, 49, 50, 51, 52] σ (hI σ (47 + 1 + n) j v) := by
  rcases (show n = 0 ∨ n = 1 ∨ n = 2 ∨ n = 3 ∨ n = 4 by omega) with rfl | rfl | rfl | rfl | rfl
  · exact ⟨wA_48 h h1 h2, ony.I ony.rf (by decide)⟩
  · exact ⟨wA_49 h h1 h2, ony.I ony.rf (by decide)⟩
  · exact ⟨wA_50 h h1 h2, ony.I ony.rf (by decide)⟩
  · exact ⟨wA_51 h h1 h2, ony.I ony.rf (by decide)⟩
  · exact ⟨wA_52 h h1 h2, ony.I ony.rf (by decide)⟩
theorem nof_53 : ∀ q ∈ bdF, ¬ q.1 = 53 := by decide
theorem wA_53 {σ : HS} {v : Int32} {j : Nat} (h : GIc σ) (h1 : 0 ≤ v.toInt) (h2 : v.toInt ≤ 8) : GIc (hI σ 53 j v) := GIc.I h (fun q hq e1 _ => absurd e1 (nof_53 q hq)) (hA_of (L := [(53, 0, 8)]) (by decide) (fun q hq => by simp only [List.mem_cons, List.not_mem_nil, or_false] at hq; subst hq; exact ⟨h1, h2⟩)) (fun a ha e hk => absurd e (by omega)) (by decide)
theorem nof_10 : ∀ q ∈ bdF, ¬ q.1 = 10 := by decide
theorem wA_10 {σ : HS} {v : Int32} {j : Nat} (h : GIc σ) : GIc (hI σ 10 j v) := GIc.I h (fun q hq e1 _ => absurd e1 (nof_10 q hq)) (hA_of (L := []) (by decide) (fun _ h => absurd h List.not_mem_nil)) (fun a ha e hk => absurd e (by omega)) (by decide)
theorem wF_60_8 {σ : HS} {v : Int32} (h : GIc σ) : GIc (hI σ 60 8 v) := GIc.I h (hF_of (L := []) (by decide) (fun _ h => absurd h List.not_mem_nil)) (hA_of (L := []) (by decide) (fun _ h => absurd h List.not_mem_nil)) (fun a ha e hk => absurd hk (by decide)) (by decide)
theorem wF_60_5 {σ : HS} {v : Int32} (h : GIc σ) : GIc (hI σ 60 5 v) := GIc.I h (hF_of (L := []) (by decide) (fun _ h => absurd h List.not_mem_nil)) (hA_of (L := []) (by decide) (fun _ h => absurd h List.not_mem_nil)) (fun a ha e hk => absurd hk (by decide)) (by decide)
theorem wF_60_7 {σ : HS} {v : Int32} (h : GIc σ) : GIc (hI σ 60 7 v) := GIc.I h (hF_of (L := []) (by decide) (fun _ h => absurd h List.not_mem_nil)) (hA_of (L := []) (by decide) (fun _ h => absurd h List.not_mem_nil)) (fun a ha e hk => absurd hk (by decide)) (by decide)
theorem nof_63 : ∀ q ∈ bdF, ¬ q.1 = 63 := by decide
theorem wA_63 {σ : HS} {v : Int32} {j : Nat} (h : GIc σ) : GIc (hI σ 63 j v) := GIc.I h (fun q hq e1 _ => absurd e1 (nof_63 q hq)) (hA_of (L := []) (by decide) (fun _ h => absurd h List.not_mem_nil)) (fun a ha e hk => absurd e (by omega)) (by decide)
theorem wF_60_4 {σ : HS} {v : Int32} (h : GIc σ) : GIc (hI σ 60 4 v) := GIc.I h (hF_of (L := []) (by decide) (fun _ h => absurd h List.not_mem_nil)) (hA_of (L := []) (by decide) (fun _ h => absurd h List.not_mem_nil)) (fun a ha e hk => absurd hk (by decide)) (by decide)
theorem wF_60_11 {σ : HS} {v : Int32} (h : GIc σ) : GIc (hI σ 60 11 v) := GIc.I h (hF_of (L := []) (by decide) (fun _ h => absurd h List.not_mem_nil)) (hA_of (L := []) (by decide) (fun _ h => absurd h List.not_mem_nil)) (fun a ha e hk => absurd hk (by decide)) (by decide)
theorem nof_26 : ∀ q ∈ bdF, ¬ q.1 = 26 := by decide
theorem wA_26 {σ : HS} {v : Int32} {j : Nat} (h : GIc σ) : GIc (hI σ 26 j v) := GIc.I h (fun q hq e1 _ => absurd e1 (nof_26 q hq)) (hA_of (L := []) (by decide) (fun _ h => absurd h List.not_mem_nil)) (fun a ha e hk => absurd e (by omega)) (by decide)
theorem bF_2_1 {σ : HS} (h : GIc σ) : 0 ≤ (σ.1 2 1).toInt ∧ (σ.1 2 1).toInt ≤ 2000 := h.1 (2, 1, 0, 2000) (by decide)
theorem nof_29 : ∀ q ∈ bdF, ¬ q.1 = 29 := by decide
theorem noa_29 : ∀ q ∈ bdA, ¬ q.1 = 29 := by decide
theorem nof_27 : ∀ q ∈ bdF, ¬ q.1 = 27 := by decide
theorem wA_27 {σ : HS} {v : Int32} {j : Nat} (h : GIc σ) : GIc (hI σ 27 j v) := GIc.I h (fun q hq e1 _ => absurd e1 (nof_27 q hq)) (hA_of (L := []) (by decide) (fun _ h => absurd h List.not_mem_nil)) (fun a ha e hk => absurd e (by omega)) (by decide)
theorem nof_28 : ∀ q ∈ bdF, ¬ q.1 = 28 := by decide
theorem wA_28 {σ : HS} {v : Int32} {j : Nat} (h : GIc σ) : GIc (hI σ 28 j v) := GIc.I h (fun q hq e1 _ => absurd e1 (nof_28 q hq)) (hA_of (L := []) (by decide) (fun _ h => absurd h List.not_mem_nil)) (fun a ha e hk => absurd e (by omega)) (by decide)
theorem nof_3 : ∀ q ∈ bdF, ¬ q.1 = 3 := by decide
theorem wA_3 {σ : HS} {v : Int32} {j : Nat} (h : GIc σ) : GIc (hI σ 3 j v) := GIc.I h (fun q hq e1 _ => absurd e1 (nof_3 q hq)) (hA_of (L := []) (by decide) (fun _ h => absurd h List.not_mem_nil)) (fun a ha e hk => absurd e (by omega)) (by decide)
theorem wF_2_1 {σ : HS} {v : Int32} (h : GIc σ) (h1 : 0 ≤ v.toInt) (h2 : v.toInt ≤ 2000) : GIc (hI σ 2 1 v) := GIc.I h (hF_of (L := [(2, 1, 0, 2000)]) (by decide) (fun q hq => by simp only [List.mem_cons, List.not_mem_nil, or_false] at hq; subst hq; exact ⟨h1, h2⟩)) (hA_of (L := []) (by decide) (fun _ h => absurd h List.not_mem_nil)) (fun a ha e hk => absurd e (by omega)) (by decide)
