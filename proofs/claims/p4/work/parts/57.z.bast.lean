theorem a_bastN {ids : List Nat} {ad : Nat → Nat} {ca : Nat → ClassId} {Γ : GT} {cc : ByteArray} {own : String} {l0 : Launch} {D0 : va_G} {fr lo nL0 : Nat} {pc : Nat} {vs : List (Option Value)} {st : List Value} {σ : HS} (C : CT ids ad ca Γ cc own l0 D0 fr lo nL0) {i : Nat} {j : Int32} {x : Int32} (jn : Nat) (hk : kd i = 22) (hi : i ∈ ids) (h0 : ¬ j < 0) (hj : j.toNatClampNeg = jn) (hn : jn < al i) (hd : decode cc pc = .ok (.bastore, 1)) (k : AW ids ad ca Γ (pc + 1) vs st (hI σ i jn (vp_nar .byte x))) : AW ids ad ca Γ pc vs (.int x :: .int j :: .ref (ad i) :: st) σ := by
  obtain ⟨p, l, e, R, s, m, args, below, meth, c, kc, ks, Q, D, A, H0, nL⟩ := Γ
  obtain ⟨⟨hx, hb, hml, hown, hts⟩, hK, hE, hD, hA0, rfl, rfl, hfr, hlo, hkc, hks, rfl⟩ := C
  intro H locs ls hP hS hl
  obtain ⟨t, ht⟩ := tys_get (ca := ca) hi (by omega)
  obtain ⟨ip, hip, hg⟩ := mw_get (ad := ad) (ca := ca) hi
  have hg := hg σ
  rw [hk] at ht hg
  subst hj
  refine va_bast hx hb hK hP (hD σ) hS ip t hg ht (fun h => h.elim h0 (fun h => absurd h (by omega))) hd (fun H1 locs1 hP1 hD1 hS1 => ?_)
  rw [mw_setI (hD σ) hip (by rw [hk]; rfl)] at hP1
  exact k H1 locs1 ls hP1 hS1 hl
