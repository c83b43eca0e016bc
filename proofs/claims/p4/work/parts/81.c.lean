/-! both sides' read -/
section BRD
variable {σ s : HS}
def wRc (u a k : Nat) : Bool := wP u a k || wCut a k || (a == 2 && k == 1)
def wlRc (a : Nat) : Bool := wlP a || wlCut a
/-- what the class's read leaves -/
def CRD (t u : Nat) (σ0 : HS) (x : Except FA PST) (r : Int32) (s : HS) : Prop := s.1 2 1 = 0 ∧ r.toInt = (resS x).1 ∧ (s.1 1 1).toInt = (resS x).2 ∧ (∀ a, wlRc a = false → s.2.1 a = σ0.2.1 a) ∧ (∀ a k, (wRc u a k || wBA a k) = false → s.1 a k = σ0.1 a k) ∧ (r.toInt ≠ 0 → frm (wRc u) wlRc σ0 s) ∧ (r.toInt = 0 → TXr u t s ∧ ACc u s ∧ ∃ S : PST, x = .ok S ∧ S.2.2.1.1 = 0 ∧ DTc u s S.2.2.2.1.1 ∧ DPc u s S.2.2.2.1.2 ∧ DRc u s S.2.2.2.2.1 ∧ ∃ p, p ≤ 408 ∧ DLc u s p S.2.2.2.2.2)
theorem w_read {t u : Nat} (ht : txk t) (hu : txk u) (hT : TXr t u σ) (hC : CC σ) : Ok (f_X11_read σ) (CRD t u σ (readS (kdT (bC σ) (nC σ)) (vlT (bC σ) (nC σ)) (plI (bC σ) (nC σ)) (nmT (bC σ) (nC σ)))) := by
  have lo := hu.lo
  have hi : u + 12 < 56 := by rcases hu with rfl | rfl <;> decide
  generalize hx : readS (kdT (bC σ) (nC σ)) (vlT (bC σ) (nC σ)) (plI (bC σ) (nC σ)) (nmT (bC σ) (nC σ)) = x
  have w0 := w_readInto hu hC
  rw [hx] at w0
  unfold f_X11_read
  rw [hT.2]
  refine Ok.t hu (Ok.cl w0 (fun r s2 h2 => ?_))
  obtain ⟨f2, r1, r2, r3⟩ := h2
  refine Ok.bd ?_
  generalize hs4 : hI s2 2 1 0 = s4
  have o4 : ∀ a k, a ≠ 2 → s4.1 a k = s2.1 a k := fun a k ha => by rw [← hs4, rI_i ha]
  have e4 : s4.1 2 1 = 0 := by rw [← hs4, rI_s]
  have F4 : frm (wRc u) wlRc σ s4 := by
    rw [← hs4]
    refine (f2.mono (fun a k e => ?_) (fun a e => e)).I (by unfold wRc; simp)
    unfold wRc at e
    simp only [Bool.or_eq_false_iff] at e ⊢
    exact e.1
  by_cases c : r.toInt = 0
  · have hT4 : TXr t u s4 := by
      unfold TXr
      rw [F4.2.2]; exact hT
    refine Ok.t c (Ok.cv (w_beginAnew ht hu hT4) (fun s5 h5 => Ok.ret ?_))
    obtain ⟨b1, b2, b3, b4, b5⟩ := h5
    obtain ⟨S, e1, e2, e3, e4', e5, p, e6, e7⟩ := r3 c
    have wt : ∀ a k, u ≤ a → a ≤ u + 12 → wBA a k = false := fun a k h1 h2 => by unfold wBA wAir; simp; omega
    have tx5 : ∀ a k, u ≤ a → a ≤ u + 12 → s5.1 a k = s2.1 a k := fun a k h1 h2 => by rw [b4 a k (wt a k h1 h2), o4 a k (by omega)]
    refine ⟨?_, r1, ?_, fun a e => ?_, fun a k e => ?_, fun h => absurd c h, fun _ => ⟨b1, b5, S, e1, e2, ⟨?_, e3.2.1, fun e he => ?_⟩, ⟨?_, e4'.2.1, fun p hp => ⟨?_, (e4'.2.2 p hp).2.1, fun i hi => ?_⟩⟩, ⟨?_, ?_⟩, p, e6, fun k hk => ?_⟩⟩
    · rw [b4 2 1 rfl]; exact e4
    · rw [b4 1 1 rfl, o4 _ _ (by decide)]; exact r2
    · rw [b3]; exact F4.2.1 a e
    · simp only [Bool.or_eq_false_iff] at e
      rw [b4 a k e.2]; exact F4.1 a k e.1
    · rw [tx5 u 0 (by omega) (by omega)]; exact e3.1
    · rw [tx5 _ _ (by omega) (by omega), tx5 _ _ (by omega) (by omega), tx5 _ _ (by omega) (by omega)]; exact e3.2.2 e he
    · rw [tx5 u 4 (by omega) (by omega)]; exact e4'.1
    · rw [tx5 _ _ (by omega) (by omega)]; exact (e4'.2.2 p hp).1
    · rw [tx5 _ _ (by omega) (by have := e4'.2.1; omega)]; exact (e4'.2.2 p hp).2.2 i hi
    · rw [tx5 _ _ (by omega) (by omega)]; exact e5.1
    · rw [tx5 _ _ (by omega) (by omega)]; exact e5.2
    · obtain ⟨q, q1, q2, q3⟩ := e7 k hk
      exact ⟨q, by rw [tx5 _ _ (by omega) (by omega)]; exact q1, q2, q3.same (fun z _ _ => tx5 _ _ (by omega) (by omega))⟩
  · refine Ok.f c (Ok.ret ⟨e4, r1, ?_, F4.2.1, fun a k e => ?_, fun _ => F4, fun h => absurd h c⟩)
    · rw [o4 _ _ (by decide)]; exact r2
    · simp only [Bool.or_eq_false_iff] at e
      exact F4.1 a k e.1
theorem wRM_lo {sd a k : Nat} (h : a < 236) : wRM sd a k = false := by
  unfold wRM wRd1 wPm wr LC
  rw [if_neg (by omega), if_neg (by omega)]
  simp
  omega
theorem wRc_hi {u a k : Nat} (hu : txk u) (h : 236 ≤ a) : (wRc u a k || wBA a k) = false := by
  have hi : u + 12 < 56 := by rcases hu with rfl | rfl <;> decide
  unfold wRc wP wCut wBA wAir
  simp
  omega
end BRD
