/-! the frames of what is asked -/
section STANDS
variable {σ s : HS} {n t u sd k nx m : Nat} {ρ : Nat → Int32} {d : DAT} {b : Int} {H G : Nat → Nat → Int32} {tb : Nat → Nat} {x y z : Int32}
def telS (d : DAT) (ρ : Nat → Int32) (x y z : Int32) : Int32 := if (0 ≤ x.toInt ∧ x.toInt < d.1.1.1) ∧ (0 ≤ z.toInt ∧ z.toInt ≤ 3) ∧ (z.toInt < 2 → 0 ≤ y.toInt ∧ y.toInt ≤ 9) then lawV d z.toInt.toNat (varS d ρ x.toInt.toNat (upsS d.1.1.1 ρ) (if z.toInt < 2 then y else 0)) else -100
theorem frm_sub {w w1 : Nat → Nat → Bool} (hw : ∀ i k, w i k = true → w1 i k = true) {i k : Nat} (e : w1 i k = false) : w i k = false := by
  cases c : w i k with
  | false => rfl
  | true => rw [hw i k c] at e; exact nomatch e
theorem frm.sub {w w1 : Nat → Nat → Bool} (h : frm w wl0 σ s) (hw : ∀ i k, w i k = true → w1 i k = true) : frm w1 wl0 σ s := h.mono (fun i k e => frm_sub hw e) (fun _ e => e)
theorem bt_wQ (i k : Nat) (h : wBt 60 i k = true) : wQ i k = true := by
  unfold wBt wAi at h
  simp only [Bool.or_eq_true, beq_iff_eq] at h
  rcases h with (((((h | h) | h) | h) | h) | h) | h <;> subst h <;> rfl
theorem lk_wQ (i k : Nat) (h : (i == 10) = true) : wQ i k = true := by
  have : i = 10 := by simpa using h
  subst this; rfl
theorem go_wQ (i k : Nat) (h : wGoM i k = true) : wQ i k = true := by
  unfold wGoM wCp wBm at h
  simp only [Bool.or_eq_true, Bool.and_eq_true, beq_iff_eq] at h
  rcases h with (h | ⟨h, h2⟩) | ((h | h) | h) | ⟨h, h2⟩
  · subst h; rfl
  · subst h; rcases h2 with h2 | h2 <;> subst h2 <;> rfl
  · subst h; rfl
  · subst h; rfl
  · subst h; rfl
  · subst h; rcases h2 with ((h2 | h2) | h2) | h2 <;> subst h2 <;> rfl
theorem wQ_bt {i k : Nat} (h : wQ i k = false) : wBt 60 i k = false := frm_sub bt_wQ h
theorem wQ_an {i k : Nat} (h : wQ i k = false) : wAns i k = false := wBt_An (wQ_bt h)
theorem wQ_go {i k : Nat} (h : wQ i k = false) : wGoM i k = false := frm_sub go_wQ h
theorem e_isHeight : f_X11_isHeight y σ = some (if 0 ≤ y.toInt ∧ y.toInt ≤ 9 then 1 else 0, σ) := by
  unfold f_X11_isHeight
  by_cases c : y.toInt < 0
  · rw [if_pos c, if_neg (by omega)]
  · rw [if_neg c]
    by_cases c2 : 9 < y.toInt
    · rw [if_pos c2, if_neg (by omega)]
    · rw [if_neg c2, if_pos (by omega)]
end STANDS
