theorem kdA : ∀ j, j < 45 → (kd (56 + 4 * j) = 0 ∧ 56 + 4 * j < 277) ∧ (kd (56 + 4 * j + 1) = 20 ∧ al (56 + 4 * j + 1) = 7 ∧ 56 + 4 * j + 1 < 277) ∧ (kd (56 + 4 * j + 2) = 20 ∧ al (56 + 4 * j + 2) = 7 ∧ 56 + 4 * j + 2 < 277) ∧ (kd (56 + 4 * j + 3) = 20 ∧ al (56 + 4 * j + 3) = 7 ∧ 56 + 4 * j + 3 < 277) := by decide +kernel
theorem bd56 : (∀ q ∈ bdF, q.1 < 56) ∧ (∀ q ∈ bdA, q.1 < 56) := by decide
theorem GIc.air {σ : HS} {b k : Nat} {v : Int32} (h : GIc σ) (hb : 56 ≤ b) (hv : k = 0 → 0 ≤ v.toInt ∧ v.toInt ≤ 7) : GIc (hI σ b k v) := GIc.I h (fun q hq e _ => absurd (bd56.1 q hq) (by omega)) (fun q hq e => absurd (bd56.2 q hq) (by omega)) (fun _ _ _ hk => hv hk) (by omega)
theorem s_aaldR {ids : List Nat} {ad : Nat → Nat} {ca : Nat → ClassId} {Γ : GT} {cc : ByteArray} {own : String} {l0 : Launch} {D0 : va_G} {fr lo nL0 : Nat} {pc : Nat} {vs : List (Option Value)} {st : List Value} {σ : HS} (C : CT ids ad ca Γ cc own l0 D0 fr lo nL0) {j : Int32} (hi : 13 ∈ ids) (h0 : 0 ≤ j.toInt) (h1 : j.toInt < 40) (hd : decode cc pc = .ok (.aaload, 1)) (k : ∀ n : Nat, (n : Int) = j.toInt → n < 40 → AW ids ad ca Γ (pc + 1) vs (.ref (ad (76 + 4 * n)) :: st) σ) : AW ids ad ca Γ pc vs (.int j :: .ref (ad 13) :: st) σ := by
  obtain ⟨n, a, b, c⟩ := s_ix h0
  have hn : n < 40 := by omega
  exact a_aald C n (Or.inl kd_13) hi a b (by rw [al_13]; exact hn) (by rw [kd_13]; exact if_pos hn) hd (k n c hn)
