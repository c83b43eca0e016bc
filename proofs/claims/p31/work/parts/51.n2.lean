/-! farOf -/
theorem ff_step {σ : HS} {n : Nat} {v k k1 : Int32} (h : ∀ q : Nat, (q : Int) < k.toInt → (σ.1 270 q).toInt = 0 ∨ (σ.1 270 q).toInt = 99) (hn : (n : Int) = k.toInt) (hk : k1.toInt = k.toInt + 1) (hv : v.toInt = 0 ∨ v.toInt = 99) : ∀ q : Nat, (q : Int) < k1.toInt → ((hI σ 270 n v).1 270 q).toInt = 0 ∨ ((hI σ 270 n v).1 270 q).toInt = 99 := by
  intro q hq
  by_cases e : q = n
  · subst e; rw [hI_s]; exact hv
  · rw [hI_n e]; exact h q (by omega)
def FJ (f : Nat → Int32) (n : Int) : Prop := ∀ s : Int32, 0 ≤ s.toInt → s.toInt < 1024 → (f s.toInt.toNat).toInt ≠ 99 → 0 ≤ (f s.toInt.toNat).toInt ∧ (f s.toInt.toNat).toInt ≤ n ∧ (1 ≤ (f s.toInt.toNat).toInt → ∃ h : Int32, 0 ≤ h.toInt ∧ h.toInt ≤ 9 ∧ 0 ≤ (nxt s h).toInt ∧ (f (nxt s h).toInt.toNat).toInt = (f s.toInt.toNat).toInt - 1)
theorem FJ.of {f : Nat → Int32} {k n : Int} (h : ∀ q : Nat, (q : Int) < k → (f q).toInt = 0 ∨ (f q).toInt = 99) (hk : 1024 ≤ k) (hn : 0 ≤ n) : FJ f n := by
  intro s h0 h1 hne
  rcases h s.toInt.toNat (by omega) with e | e
  · exact ⟨by omega, by omega, fun h9 => absurd h9 (by omega)⟩
  · exact absurd e hne
theorem FJ.mono {f : Nat → Int32} {n m : Int} (h : FJ f n) (hm : n ≤ m) : FJ f m := fun s h0 h1 hne => ⟨(h s h0 h1 hne).1, by have := (h s h0 h1 hne).2.1; omega, (h s h0 h1 hne).2.2⟩
theorem fj_step {σ : HS} {n : Nat} {v s h : Int32} (hJ : FJ (σ.1 270) v.toInt) (hn : (n : Int) = s.toInt) (hv : 1 ≤ v.toInt ∧ v.toInt ≤ 12) (hs0 : 0 ≤ s.toInt) (hs1 : s.toInt < 1024) (h99 : (σ.1 270 s.toInt.toNat).toInt = 99) (hh : 0 ≤ h.toInt ∧ h.toInt ≤ 9) (h0 : 0 ≤ (nxt s h).toInt) (ht : (σ.1 270 (nxt s h).toInt.toNat).toInt = v.toInt - 1) (_ : True := True.intro) : FJ ((hI σ 270 n v).1 270) v.toInt := by
  have en : n = s.toInt.toNat := by omega
  have g : ∀ q : Nat, (σ.1 270 q).toInt ≠ 99 → (hI σ 270 n v).1 270 q = σ.1 270 q := fun q hq => hI_n (fun e => hq (by rw [e, en]; exact h99))
  intro q q0 q1 hne
  by_cases e : q.toInt.toNat = n
  · have eq : q = s := Int32.toInt_inj.mp (by omega)
    subst eq
    rw [e, hI_s]
    refine ⟨by omega, Int.le_refl _, fun _ => ⟨h, hh.1, hh.2, h0, ?_⟩⟩
    rw [g _ (by omega)]
    exact ht
  · rw [hI_n e] at hne ⊢
    obtain ⟨a, b, c⟩ := hJ q q0 q1 hne
    refine ⟨a, b, fun h1 => ?_⟩
    obtain ⟨h9, a1, a2, a3, a4⟩ := c h1
    exact ⟨h9, a1, a2, a3, by rw [g _ (by omega)]; exact a4⟩
def FO (f : Nat → Int32) (s y : Int32) : Prop := ∃ h : Int32, y.toInt ≤ h.toInt ∧ h.toInt ≤ 9 ∧ 0 ≤ (nxt s h).toInt ∧ (f (nxt s h).toInt.toNat).toInt = (f s.toInt.toNat).toInt - 1
theorem FO.step {f : Nat → Int32} {s y y1 : Int32} (h : FO f s y) (h1 : y1.toInt = y.toInt + 1) (ne : 0 ≤ (nxt s y).toInt → (f (nxt s y).toInt.toNat).toInt ≠ (f s.toInt.toNat).toInt - 1) : FO f s y1 := by
  obtain ⟨h9, a1, a2, a3, a4⟩ := h
  refine ⟨h9, ?_, a2, a3, a4⟩
  by_cases e : y.toInt = h9.toInt
  · have := Int32.toInt_inj.mp e
    subst this
    exact absurd a4 (ne a3)
  · omega
theorem FO.le {f : Nat → Int32} {s y : Int32} (h : FO f s y) : y.toInt ≤ 9 := by
  obtain ⟨h9, a1, a2, _⟩ := h
  omega
theorem FO.of {f : Nat → Int32} {s y : Int32} (h : FJ f 12) (h0 : 0 ≤ s.toInt) (h1 : s.toInt < 1024) (h2 : 1 ≤ (f s.toInt.toNat).toInt) (h3 : (f s.toInt.toNat).toInt ≠ 99) (hy : y.toInt = 0) : FO f s y := by
  obtain ⟨h9, a1, a2, a3, a4⟩ := (h s h0 h1 h3).2.2 h2
  exact ⟨h9, by omega, a2, a3, a4⟩
theorem orb_sl : ∀ n, n < 32 → ((nI n &&& 31).toBitVec.smod 32).toNat = n := by decide +kernel
theorem orb {s a o1 o2 : Int32} (hs : 0 ≤ s.toInt ∧ s.toInt ≤ 65535) (ha : 0 ≤ a.toInt ∧ a.toInt ≤ 15) (h1 : o1.toInt = 1) (h2 : o2.toInt = 1) (h : ((s >>> (a &&& 31)) &&& o1).toInt = 0) : s.toInt < (s ||| (o2 <<< (a &&& 31))).toInt ∧ (s ||| (o2 <<< (a &&& 31))).toInt ≤ 65535 := by
  obtain ⟨k, hk, e1, e2⟩ := i32_nat hs.1
  obtain ⟨j, hj, f1, f2⟩ := i32_nat ha.1
  have q1 : o1 = 1 := Int32.toInt_inj.mp h1
  have q2 : o2 = nI 1 := Int32.toInt_inj.mp h2
  have j15 : j ≤ 15 := by omega
  have k16 : k < 2 ^ 16 := by omega
  have p16 : 2 ^ j ≤ 2 ^ 15 := Nat.pow_le_pow_right (by decide) j15
  have pd : k / 2 ^ j ≤ k := Nat.div_le_self _ _
  rw [q1, e1, f1, pk_shrN hk _ j (orb_sl j (by omega)), pk_andN (by omega) 1 (by decide), nI_toInt (by omega)] at h
  have hb : k.testBit j = false := by
    rw [Nat.testBit_eq_decide_div_mod_eq]
    simp
    omega
  have e : s ||| (o2 <<< (a &&& 31)) = nI (k ||| 2 ^ j) := by
    rw [q2, e1, f1, pk_shlN _ j (orb_sl j (by omega)) (by omega), Nat.one_mul]
    apply Int32.toBitVec_inj.mp
    apply BitVec.eq_of_toNat_eq
    have h3 : k ||| 2 ^ j < 2 ^ 16 := Nat.or_lt_two_pow k16 (by omega)
    rw [Int32.toBitVec_or, BitVec.toNat_or, pk_tn (by omega), pk_tn (by omega), pk_tn (by omega)]
  have h3 : k ||| 2 ^ j < 2 ^ 16 := Nat.or_lt_two_pow k16 (by omega)
  have h4 : k ≤ k ||| 2 ^ j := Nat.left_le_or
  have h5 : k ≠ k ||| 2 ^ j := by
    intro he
    have := congrArg (fun x => Nat.testBit x j) he
    simp only [Nat.testBit_or, Nat.testBit_two_pow_self, hb, Bool.or_true] at this
    exact absurd this (by decide)
  rw [e, e2, nI_toInt (by omega)]
  omega
section NL
variable {ids : List Nat} {ad : Nat → Nat} {ca : Nat → ClassId} {Γ : GT} {cc : ByteArray} {own : String} {l0 : Launch} {D0 : va_G} {fr lo nL0 : Nat} {pc : Nat} {vs : List (Option Value)} {st : List Value} {σ : HS}
theorem s_imulB (C : CT ids ad ca Γ cc own l0 D0 fr lo nL0) {x y : Int32} (hd : decode cc pc = .ok (.imul, 1)) (A B : Int) (hx : 0 ≤ x.toInt ∧ x.toInt ≤ A) (hy : 0 ≤ y.toInt ∧ y.toInt ≤ B) (hAB : A * B ≤ 2147483647) (k : ∀ z : Int32, 0 ≤ z.toInt ∧ z.toInt ≤ B * x.toInt → AW ids ad ca Γ (pc + 1) vs (.int z :: st) σ) : AW ids ad ca Γ pc vs (.int y :: .int x :: st) σ := by
  have h0 : 0 ≤ x.toInt * y.toInt := Int.mul_nonneg hx.1 hy.1
  have h1 : x.toInt * y.toInt ≤ x.toInt * B := Int.mul_le_mul_of_nonneg_left hy.2 hx.1
  have h2 : x.toInt * B ≤ A * B := Int.mul_le_mul_of_nonneg_right hx.2 (Int.le_trans hy.1 hy.2)
  refine s_imul C hd ⟨by omega, by omega⟩ (fun z hz => k z ⟨by omega, ?_⟩)
  rw [hz, Int.mul_comm B]
  exact h1
theorem s_idivB (C : CT ids ad ca Γ cc own l0 D0 fr lo nL0) {x y : Int32} (hd : decode cc pc = .ok (.idiv, 1)) (hx : 0 ≤ x.toInt) (hy : 0 < y.toInt) (k : ∀ z : Int32, 0 ≤ z.toInt ∧ z.toInt ≤ x.toInt → AW ids ad ca Γ (pc + 1) vs (.int z :: st) σ) : AW ids ad ca Γ pc vs (.int y :: .int x :: st) σ := by
  refine a_idiv C hd (i32_ne0 (by omega)) (k _ ?_)
  rw [i32_div hx hy]
  exact ⟨Int.ediv_nonneg hx (Int.le_of_lt hy), Int.ediv_le_self _ hx⟩
end NL
