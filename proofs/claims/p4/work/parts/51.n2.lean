/-! farOf -/
def FJ (f : Nat → Int32) (n : Int) : Prop := ∀ s : Int32, 0 ≤ s.toInt → s.toInt < 1024 → (f s.toInt.toNat).toInt ≠ 99 → 0 ≤ (f s.toInt.toNat).toInt ∧ (f s.toInt.toNat).toInt ≤ n ∧ (1 ≤ (f s.toInt.toNat).toInt → ∃ h : Int32, 0 ≤ h.toInt ∧ h.toInt ≤ 9 ∧ 0 ≤ (nxt s h).toInt ∧ (f (nxt s h).toInt.toNat).toInt = (f s.toInt.toNat).toInt - 1)
theorem FJ.of {f : Nat → Int32} {k n : Int} (h : ∀ q : Nat, (q : Int) < k → (f q).toInt = 0 ∨ (f q).toInt = 99) (hk : 1024 ≤ k) (hn : 0 ≤ n) : FJ f n := by
  intro s h0 h1 hne
  rcases h s.toInt.toNat (by omega) with e | e
  · exact ⟨by omega, by omega, fun h9 => absurd h9 (by omega)⟩
  · exact absurd e hne
theorem FJ.mono {f : Nat → Int32} {n m : Int} (h : FJ f n) (hm : n ≤ m) : FJ f m := fun s h0 h1 hne => ⟨(h s h0 h1 hne).1, by have := (h s h0 h1 hne).2.1; omega, (h s h0 h1 hne).2.2⟩
def FO (f : Nat → Int32) (s y : Int32) : Prop := ∃ h : Int32, y.toInt ≤ h.toInt ∧ h.toInt ≤ 9 ∧ 0 ≤ (nxt s h).toInt ∧ (f (nxt s h).toInt.toNat).toInt = (f s.toInt.toNat).toInt - 1
theorem FO.step {f : Nat → Int32} {s y y1 : Int32} (h : FO f s y) (h1 : y1.toInt = y.toInt + 1) (ne : 0 ≤ (nxt s y).toInt → (f (nxt s y).toInt.toNat).toInt ≠ (f s.toInt.toNat).toInt - 1) : FO f s y1 := by
  obtain ⟨h9, a1, a2, a3, a4⟩ := h
  refine ⟨h9, ?_, a2, a3, a4⟩
  by_cases e : y.toInt = h9.toInt
  · have := Int32.toInt_inj.mp e
    subst this
    exact absurd a4 (ne a3)
  · omega
theorem FO.le {f : Nat → Int32} {s y : Int32} (h : FO f s y) : y.toInt ≤ 9 := by
  obtain ⟨h9, a1, a2, _⟩ := h
  omega
theorem FO.of {f : Nat → Int32} {s y : Int32} (h : FJ f 12) (h0 : 0 ≤ s.toInt) (h1 : s.toInt < 1024) (h2 : 1 ≤ (f s.toInt.toNat).toInt) (h3 : (f s.toInt.toNat).toInt ≠ 99) (hy : y.toInt = 0) : FO f s y := by
  obtain ⟨h9, a1, a2, a3, a4⟩ := (h s h0 h1 h3).2.2 h2
  exact ⟨h9, by omega, a2, a3, a4⟩
section NL
variable {ids : List Nat} {ad : Nat → Nat} {ca : Nat → ClassId} {Γ : GT} {cc : ByteArray} {own : String} {l0 : Launch} {D0 : va_G} {fr lo nL0 : Nat} {pc : Nat} {vs : List (Option Value)} {st : List Value} {σ : HS}
end NL
