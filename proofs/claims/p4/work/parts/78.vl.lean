theorem iv_rg {b : Nat → Int32} {i : Nat} : ∀ (m : Nat), m ≤ 4 → (∀ q, q < m → isDg (b (i + q)) = true) → 0 ≤ iv b i m ∧ iv b i m < 10 ^ m := by
  intro m
  induction m with
  | zero => intro _ _; exact ⟨Int.le_refl _, (by decide : (0 : Int) < 10 ^ 0)⟩
  | succ m ih =>
    intro h4 h
    obtain ⟨a1, a2⟩ := ih (by omega) (fun q hq => h q (by omega))
    have h2 := isDg_iff.mp (h m (by omega))
    show 0 ≤ 10 * iv b i m + ((b (i + m)).toInt - 48) ∧ 10 * iv b i m + ((b (i + m)).toInt - 48) < 10 ^ (m + 1)
    rw [Int.pow_succ]
    omega
/-- an INT is told as 0 .. 9999 -/
theorem vl_rg {b : Nat → Int32} {n t : Nat} (h : kdT b n t = 2) : 0 ≤ vlT b n t ∧ vlT b n t ≤ 9999 := by
  unfold kdT at h
  unfold vlT
  generalize hi : plT b n t = i at h ⊢
  generalize he : rn isDg b n i = e at h ⊢
  have h4 : e ≤ i + 4 := by
    unfold tkK at h
    rw [he] at h
    have := sgn_rg (b i).toInt
    split at h
    · omega
    · split at h
      · split at h
        · omega
        · split at h <;> omega
      · split at h
        · split at h <;> omega
        · omega
  have g := iv_rg (b := b) (i := i) (e - i) (by omega) (fun q hq => (rn_go (p := isDg) (b := b) (n := n) (i := i + q) (by rw [run_c he q (by omega)]; omega)).2.1)
  have p4 : (10 : Int) ^ (e - i) ≤ 10000 := by
    rcases (show e - i = 0 ∨ e - i = 1 ∨ e - i = 2 ∨ e - i = 3 ∨ e - i = 4 by omega) with h | h | h | h | h <;> rw [h] <;> decide
  omega

