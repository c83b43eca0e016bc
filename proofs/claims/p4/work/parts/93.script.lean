/-! the law's own script, and its end -/
def SX (Γ : GT) (b L : Nat) (xs : Nat → Int32) : Prop := match Γ with
  | (p, l, e, R, s, m, args, below, meth, c, kc, ks, Q, D, A, H0, nL) => va_X b L xs s H0 ∧ b < H0.size ∧ ¬ A b
def LE (Γ : GT) : Prop := match Γ with
  | (p, l, e, R, s, m, args, below, meth, c, kc, ks, Q, D, A, H0, nL) => ∀ (H : Heap) (locs : List Loc) (ls : Array Slot) (pc : Nat), va_S A H0 H locs → decode code pc = .ok (.ireturn, 1) → W p l e R s m args below meth c H locs kc ks Q (F0 m pc ls [.int 1])
section SCR
variable {ids : List Nat} {ad : Nat → Nat} {ca : Nat → ClassId} {Γ : GT} {cc : ByteArray} {own : String} {l0 : Launch} {D0 : va_G} {fr lo nL0 : Nat} {pc : Nat} {vs : List (Option Value)} {st : List Value} {σ : HS} {b L : Nat} {xs : Nat → Int32}
theorem a_sld (C : CT ids ad ca Γ cc own l0 D0 fr lo nL0) (X : SX Γ b L xs) {j : Int32} (jn : Nat) (hj : j.toNatClampNeg = jn) (h0 : ¬ j < 0) (hn : jn < L) (hd : decode cc pc = .ok (.iaload, 1)) (k : AW ids ad ca Γ (pc + 1) vs (.int (xs jn) :: st) σ) : AW ids ad ca Γ pc vs (.int j :: .ref b :: st) σ := by
  obtain ⟨p, l, e, R, s, m, args, below, meth, c, kc, ks, Q, D, A, H0, nL⟩ := Γ
  obtain ⟨⟨hx, hb, hml, hown, hts⟩, hK, hE, hD, hA0, rfl, rfl, hfr, hlo, hkc, hks, rfl⟩ := C
  intro H locs ls hP hS hl
  subst hj
  exact va_sld hx hb X.1 X.2.1 X.2.2 hS (fun h => h.elim h0 (fun h => absurd h (by omega))) hd (k H locs ls hP hS hl)
theorem a_slenL (C : CT ids ad ca Γ cc own l0 D0 fr lo nL0) (X : SX Γ b L xs) (hd : decode cc pc = .ok (.arraylength, 1)) (k : AW ids ad ca Γ (pc + 1) vs (.int (Int32.ofNat L) :: st) σ) : AW ids ad ca Γ pc vs (.ref b :: st) σ := by
  obtain ⟨p, l, e, R, s, m, args, below, meth, c, kc, ks, Q, D, A, H0, nL⟩ := Γ
  obtain ⟨⟨hx, hb, hml, hown, hts⟩, hK, hE, hD, hA0, rfl, rfl, hfr, hlo, hkc, hks, rfl⟩ := C
  intro H locs ls hP hS hl
  exact va_slen hx hb X.1 X.2.1 X.2.2 hS hd (k H locs ls hP hS hl)
theorem a_lend (E : LE Γ) (hd : decode code pc = .ok (.ireturn, 1)) : AW ids ad ca Γ pc vs [.int 1] σ := by
  obtain ⟨p, l, e, R, s, m, args, below, meth, c, kc, ks, Q, D, A, H0, nL⟩ := Γ
  intro H locs ls hP hS hl
  exact E H locs ls pc hS hd
theorem s_sld (C : CT ids ad ca Γ cc own l0 D0 fr lo nL0) (X : SX Γ b L xs) {j : Int32} (h0 : 0 ≤ j.toInt) (h1 : j.toInt < (L : Int)) (hd : decode cc pc = .ok (.iaload, 1)) (k : ∀ m : Nat, (m : Int) = j.toInt → AW ids ad ca Γ (pc + 1) vs (.int (xs m) :: st) σ) : AW ids ad ca Γ pc vs (.int j :: .ref b :: st) σ := by
  obtain ⟨n, h2, h3, h4⟩ := s_ix h0
  exact a_sld C X n h3 h2 (by omega) hd (k n h4)
theorem s_slen (C : CT ids ad ca Γ cc own l0 D0 fr lo nL0) (X : SX Γ b L xs) (hL : L ≤ 3072) (hd : decode cc pc = .ok (.arraylength, 1)) (k : ∀ z : Int32, z.toInt = (L : Int) → AW ids ad ca Γ (pc + 1) vs (.int z :: st) σ) : AW ids ad ca Γ pc vs (.ref b :: st) σ := a_slenL C X hd (k _ (nI_toInt (by omega)))
end SCR
theorem g_astore_n {Γ : GQ} {cc : ByteArray} {own : String} {l0 : Launch} {D0 : va_G} {fr lo mc ms nL0 : Nat} {pc : Nat} {vs : List (Option Value)} {st : List Value} {ws : va_W} {ts : List (ClassId × FieldType)} {kc ks : Nat} (C : CG Γ cc own l0 D0 fr lo mc ms nL0) {q : Fin 4} {i : Nat} {x : Nat} (hd : decode cc pc = .ok (.astore_n q, 1)) (hi : (q : Nat) = i) (hn : i < nL0) (hc : catOk vs i = true) {vs1 : List (Option Value)} (hvs : vs.set i (some (.ref x)) = vs1) (k : GW Γ (pc + 1) vs1 st ws ts kc ks) : GW Γ pc vs (.ref x :: st) ws ts kc ks := by
  obtain ⟨p, l, e, R, s, m, args, below, meth, c, Q, D, A, H0, nL⟩ := Γ
  obtain ⟨⟨hx, hb, hml, hown, hts⟩, hE, hA0, rfl, rfl, hfr, hlo, hmc, hms, rfl⟩ := C
  intro H locs ls hK hP hD hS hl
  subst hvs
  exact lv_astore_n hx hb hd hi hl.has hn rfl (fun ls1 h1 => k H locs ls1 hK hP hD hS (LV.store1 hc h1))
