/-! feed and back, exactly -/
theorem dX12_feed_13 : decode cX12_feed 13 = .ok (.iconst (-1), 1) := by decide +kernel
theorem dX12_feed_14 : decode cX12_feed 14 = .ok (.ireturn, 1) := by decide +kernel
def FD (a b r : Int32) : Prop := (a.toInt + 20 ≤ 2000 → b.toInt = a.toInt + 20 ∧ r = b) ∧ (2000 < a.toInt + 20 → b = a ∧ r = -1)
def BD (n a b r : Int32) : Prop := (0 ≤ n.toInt ∧ n.toInt ≤ a.toInt → b.toInt = a.toInt - n.toInt ∧ r = b) ∧ (¬ (0 ≤ n.toInt ∧ n.toInt ≤ a.toInt) → b = a ∧ r = -1)
theorem FD.same {a b r b1 r1 : Int32} (h : FD a b r) (h1 : FD a b1 r1) : b = b1 ∧ r = r1 := by
  by_cases c : a.toInt + 20 ≤ 2000
  · obtain ⟨e1, e2⟩ := h.1 c
    obtain ⟨e3, e4⟩ := h1.1 c
    have e : b = b1 := Int32.toInt_inj.mp (by omega)
    exact ⟨e, by rw [e2, e4, e]⟩
  · obtain ⟨e1, e2⟩ := h.2 (by omega)
    obtain ⟨e3, e4⟩ := h1.2 (by omega)
    exact ⟨by rw [e1, e3], by rw [e2, e4]⟩
theorem BD.same {n a b r b1 r1 : Int32} (h : BD n a b r) (h1 : BD n a b1 r1) : b = b1 ∧ r = r1 := by
  by_cases c : 0 ≤ n.toInt ∧ n.toInt ≤ a.toInt
  · obtain ⟨e1, e2⟩ := h.1 c
    obtain ⟨e3, e4⟩ := h1.1 c
    have e : b = b1 := Int32.toInt_inj.mp (by omega)
    exact ⟨e, by rw [e2, e4, e]⟩
  · obtain ⟨e1, e2⟩ := h.2 c
    obtain ⟨e3, e4⟩ := h1.2 c
    exact ⟨by rw [e1, e3], by rw [e2, e4]⟩
/-- of the reference only the tape changes, and how much is on it -/
def MT (σ σ1 : HS) : Prop := ony [236, 237] σ σ1 ∧ ∀ k, k ≠ 2 → σ1.1 236 k = σ.1 236 k
theorem MT.rf {σ : HS} : MT σ σ := ⟨ony.rf, fun _ _ => rfl⟩
theorem MT.tr {σ σ1 σ2 : HS} (h : MT σ σ1) (h2 : MT σ1 σ2) : MT σ σ2 := ⟨h.1.tr h2.1, fun k hk => (h2.2 k hk).trans (h.2 k hk)⟩
theorem MT.n {σ σ1 : HS} {v : Int32} (h : MT σ σ1) : MT σ (hI σ1 236 2 v) := ⟨h.1.I (by decide), fun k hk => (hI_n hk).trans (h.2 k hk)⟩
theorem MT.b {σ σ1 : HS} {j : Nat} {v : Int32} (h : MT σ σ1) : MT σ (hI σ1 237 j v) := ⟨h.1.I (by decide), fun k hk => by rw [hI_o (show (236 : Nat) ≠ 237 by decide)]; exact h.2 k hk⟩
