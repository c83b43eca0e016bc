/-! the class's invariant: bounds of fields and of arrays' elements -/
def bdF : List (Nat × Nat × Int × Int) := [(1, 5, 0, 400), (1, 9, 0, 12), (2, 1, 0, 2000), (2, 5, 0, 2000), (9, 2, 0, 32), (12, 1, 0, 39), (12, 2, 0, 40), (14, 2, 0, 20), (17, 1, 0, 1024), (17, 5, 0, 12), (30, 0, 0, 7), (30, 4, 0, 5), (30, 8, 0, 408), (43, 0, 0, 7), (43, 4, 0, 5), (43, 8, 0, 408)]
def bdA : List (Nat × Int × Int) := [(15, 0, 40), (18, 0, 1023), (19, -1, 1023), (35, 0, 9999), (36, 0, 9999), (37, 0, 9999), (38, 0, 9999), (39, 0, 9999), (40, 0, 8), (48, 0, 9999), (49, 0, 9999), (50, 0, 9999), (51, 0, 9999), (52, 0, 9999), (53, 0, 8)]
def GIc (σ : HS) : Prop := (∀ q ∈ bdF, q.2.2.1 ≤ (σ.1 q.1 q.2.1).toInt ∧ (σ.1 q.1 q.2.1).toInt ≤ q.2.2.2) ∧ (∀ q ∈ bdA, ∀ j : Nat, q.2.1 ≤ (σ.1 q.1 j).toInt ∧ (σ.1 q.1 j).toInt ≤ q.2.2) ∧ (∀ a, a < 45 → 0 ≤ (σ.1 (56 + 4 * a) 0).toInt ∧ (σ.1 (56 + 4 * a) 0).toInt ≤ 7) ∧ (∀ j, j ≤ 400 → (σ.1 4 j).toInt = 21 → 0 ≤ (σ.2.1 6 j).toInt ∧ (σ.2.1 6 j).toInt ≤ 9999)
theorem hI_at {σ : HS} {i k : Nat} {v : Int32} (a b : Nat) : (a = i ∧ b = k ∧ (hI σ i k v).1 a b = v) ∨ (hI σ i k v).1 a b = σ.1 a b := by
  by_cases e : a = i
  · subst e
    by_cases e2 : b = k
    · subst e2; exact Or.inl ⟨rfl, rfl, hI_s⟩
    · exact Or.inr (hI_n e2)
  · exact Or.inr (congrFun (hI_o e) b)
theorem GIc.I {σ : HS} {i k : Nat} {v : Int32} (h : GIc σ) (hF : ∀ q ∈ bdF, q.1 = i → q.2.1 = k → q.2.2.1 ≤ v.toInt ∧ v.toInt ≤ q.2.2.2) (hA : ∀ q ∈ bdA, q.1 = i → q.2.1 ≤ v.toInt ∧ v.toInt ≤ q.2.2) (hR : ∀ a, a < 45 → 56 + 4 * a = i → k = 0 → 0 ≤ v.toInt ∧ v.toInt ≤ 7) (h4 : i ≠ 4) : GIc (hI σ i k v) := by
  refine ⟨fun q hq => ?_, fun q hq j => ?_, fun a ha => ?_, fun j hj h21 => ?_⟩
  · rcases hI_at (σ := σ) (i := i) (k := k) (v := v) q.1 q.2.1 with ⟨e1, e2, e3⟩ | e3
    · rw [e3]; exact hF q hq e1 e2
    · rw [e3]; exact h.1 q hq
  · rcases hI_at (σ := σ) (i := i) (k := k) (v := v) q.1 j with ⟨e1, e2, e3⟩ | e3
    · rw [e3]; exact hA q hq e1
    · rw [e3]; exact h.2.1 q hq j
  · rcases hI_at (σ := σ) (i := i) (k := k) (v := v) (56 + 4 * a) 0 with ⟨e1, e2, e3⟩ | e3
    · rw [e3]; exact hR a ha e1 e2.symm
    · rw [e3]; exact h.2.2.1 a ha
  · have e : (hI σ i k v).1 4 = σ.1 4 := hI_o (Ne.symm h4)
    rw [e] at h21
    exact h.2.2.2 j hj h21
theorem GIc.L {σ : HS} {i k : Nat} {v : Int64} (h : GIc σ) (h6 : i ≠ 6) : GIc (hL σ i k v) := by
  refine ⟨h.1, h.2.1, h.2.2.1, fun j hj h21 => ?_⟩
  have e : (hL σ i k v).2.1 6 = σ.2.1 6 := va_up_ne σ.2.1 _ (Ne.symm h6)
  rw [e]
  exact h.2.2.2 j hj h21
/-- the Reader: the kind that is ahead is that of the token ahead -/
def RK (σ : HS) : Prop := σ.1 1 6 = σ.1 4 (σ.1 1 5).toInt.toNat
theorem RK.I {σ : HS} {i k : Nat} {v : Int32} (h : RK σ) (h4 : i ≠ 4) (h1 : i = 1 → k ≠ 5 ∧ k ≠ 6) : RK (hI σ i k v) := by
  unfold RK at h ⊢
  have e4 : (hI σ i k v).1 4 = σ.1 4 := hI_o (Ne.symm h4)
  by_cases e : i = 1
  · subst e
    have e5 : (hI σ 1 k v).1 1 5 = σ.1 1 5 := hI_n (Ne.symm (h1 rfl).1)
    have e6 : (hI σ 1 k v).1 1 6 = σ.1 1 6 := hI_n (Ne.symm (h1 rfl).2)
    rw [e4, e5, e6]
    exact h
  · have e1 : (hI σ i k v).1 1 = σ.1 1 := hI_o (Ne.symm e)
    rw [e4, e1]
    exact h
theorem GIc.A {σ : HS} {k : Nat} (h : GIc σ) (nf : ∀ q ∈ bdF, ¬ q.1 = k) (na : ∀ q ∈ bdA, ¬ q.1 = k) (hR : ∀ a, a < 45 → 56 + 4 * a ≠ k) (h4 : k ≠ 4) (f : Nat → Int32) : GIc (hA σ k f) := by
  have e : ∀ a, a ≠ k → (hA σ k f).1 a = σ.1 a := fun a ha => hA_o ha
  refine ⟨fun q hq => ?_, fun q hq j => ?_, fun a ha => ?_, fun j hj h21 => ?_⟩
  · rw [e _ (nf q hq)]; exact h.1 q hq
  · rw [e _ (na q hq)]; exact h.2.1 q hq j
  · rw [e _ (hR a ha)]; exact h.2.2.1 a ha
  · rw [e _ (Ne.symm h4)] at h21; exact h.2.2.2 j hj h21
theorem nar_z {z : Int32} (h : 0 ≤ z.toInt ∧ z.toInt ≤ 1) : narrow .boolean (.int z) = .int z ∧ fits .boolean (.int z) = true := by
  have : z = 0 ∨ z = 1 := by
    rcases (show z.toInt = 0 ∨ z.toInt = 1 by omega) with e | e
    · exact Or.inl (Int32.toInt_inj.mp e)
    · exact Or.inr (Int32.toInt_inj.mp e)
  rcases this with rfl | rfl <;> exact ⟨rfl, rfl⟩
theorem nar_v {z : Int32} (h : 0 ≤ z.toInt ∧ z.toInt ≤ 1) : vp_nar .boolean z = z := by
  have : z = 0 ∨ z = 1 := by
    rcases (show z.toInt = 0 ∨ z.toInt = 1 by omega) with e | e
    · exact Or.inl (Int32.toInt_inj.mp e)
    · exact Or.inr (Int32.toInt_inj.mp e)
  rcases this with rfl | rfl <;> rfl
/-- fewer locals -/
def lsubB : List (Option Value) → List (Option Value) → Prop
  | [], [] => True
  | none :: a, _ :: b => lsubB a b
  | some v :: a, some w :: b => v = w ∧ lsubB a b
  | _, _ => False
theorem lsub_of : ∀ {a b : List (Option Value)}, lsubB a b → ∀ (i : Nat) (v : Value), a[i]? = some (some v) → b[i]? = some (some v)
  | [], [], _, i, v, h => by simp at h
  | none :: a, y :: b, hs, 0, v, h => by simp at h
  | none :: a, y :: b, hs, i + 1, v, h => by
    have := lsub_of (a := a) (b := b) hs i v (by simpa using h)
    simpa using this
  | some x :: a, some y :: b, hs, 0, v, h => by
    have : x = v := by simpa using h
    rw [← this, hs.1]
    rfl
  | some x :: a, some y :: b, hs, i + 1, v, h => by
    have := lsub_of (a := a) (b := b) hs.2 i v (by simpa using h)
    simpa using this
