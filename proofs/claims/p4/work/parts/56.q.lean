/-! what waits, and what has come out -/
def opn (w : Nat → Int32) : Nat → Int
  | 0 => 0
  | n + 1 => opn w n + (if (w n).toInt = 6 then 1 else 0)
theorem opn_cong {w w1 : Nat → Int32} : ∀ n, (∀ j, j < n → w1 j = w j) → opn w1 n = opn w n := by
  intro n
  induction n with
  | zero => intro _; rfl
  | succ n ih =>
    intro h
    show opn w1 n + (if (w1 n).toInt = 6 then 1 else 0) = opn w n + (if (w n).toInt = 6 then 1 else 0)
    rw [ih (fun j hj => h j (by omega)), h n (by omega)]
def tcc (w : Nat → Int32) : Nat → Int
  | 0 => 0
  | n + 1 => if (w n).toInt = 6 then 0 else if (w n).toInt = 8 ∨ (w n).toInt = 9 then 1 else 2
theorem tcc_cong {w w1 : Nat → Int32} : ∀ n, (∀ j, j < n → w1 j = w j) → tcc w1 n = tcc w n := by
  intro n h
  cases n with
  | zero => rfl
  | succ n =>
    show (if (w1 n).toInt = 6 then (0 : Int) else if (w1 n).toInt = 8 ∨ (w1 n).toInt = 9 then 1 else 2) = (if (w n).toInt = 6 then 0 else if (w n).toInt = 8 ∨ (w n).toInt = 9 then 1 else 2)
    rw [h n (by omega)]
theorem tcc_rg {w : Nat → Int32} (n : Nat) : 0 ≤ tcc w n ∧ tcc w n ≤ 2 := by
  cases n with
  | zero => exact ⟨Int.le_refl _, by show (0 : Int) ≤ 2; omega⟩
  | succ n =>
    show 0 ≤ (if (w n).toInt = 6 then (0 : Int) else if (w n).toInt = 8 ∨ (w n).toInt = 9 then 1 else 2) ∧ (if (w n).toInt = 6 then (0 : Int) else if (w n).toInt = 8 ∨ (w n).toInt = 9 then 1 else 2) ≤ 2
    split
    · omega
    · split <;> omega
def WB (w : Nat → Int32) (n : Nat) : Prop := ∀ i, i ≤ n → (i : Int) ≤ 3 * opn w i + tcc w i
theorem WB.zero {w : Nat → Int32} : WB w 0 := fun i hi => by
  have e : i = 0 := by omega
  subst e
  show ((0 : Nat) : Int) ≤ 3 * 0 + 0
  omega
theorem WB.le {w : Nat → Int32} {n m : Nat} (h : WB w n) (hm : m ≤ n) : WB w m := fun i hi => h i (by omega)
theorem WB.push {w w1 : Nat → Int32} {n : Nat} (h : WB w n) (e : ∀ j, j < n → w1 j = w j) (hv : (w1 n).toInt = 6 ∨ (((w1 n).toInt = 8 ∨ (w1 n).toInt = 9) ∧ tcc w n = 0) ∨ ((w1 n).toInt ≠ 6 ∧ (w1 n).toInt ≠ 8 ∧ (w1 n).toInt ≠ 9 ∧ tcc w n ≤ 1)) : WB w1 (n + 1) := by
  intro i hi
  by_cases hn : i ≤ n
  · rw [opn_cong i (fun j hj => e j (by omega)), tcc_cong i (fun j hj => e j (by omega))]
    exact h i hn
  · have ei : i = n + 1 := by omega
    subst ei
    have hb := h n (Nat.le_refl _)
    have ht := tcc_rg (w := w) n
    show ((n + 1 : Nat) : Int) ≤ 3 * (opn w1 n + (if (w1 n).toInt = 6 then 1 else 0)) + (if (w1 n).toInt = 6 then (0 : Int) else if (w1 n).toInt = 8 ∨ (w1 n).toInt = 9 then 1 else 2)
    rw [opn_cong n (fun j hj => e j hj)]
    rcases hv with h6 | ⟨h8, h0⟩ | ⟨h6, h8, h9, h0⟩
    · rw [if_pos h6, if_pos h6]; omega
    · rw [if_neg (show ¬ (w1 n).toInt = 6 by omega), if_neg (show ¬ (w1 n).toInt = 6 by omega), if_pos h8]; omega
    · rw [if_neg h6, if_neg h6, if_neg (show ¬ ((w1 n).toInt = 8 ∨ (w1 n).toInt = 9) by omega)]; omega
/-- what is kept of waits: its kinds -/
def WK (w : Nat → Int32) (n : Nat) : Prop := ∀ i, i < n → (w i).toInt = 6 ∨ (w i).toInt = 8 ∨ (w i).toInt = 9 ∨ (w i).toInt = 10 ∨ (w i).toInt = 15
theorem WK.push {w w1 : Nat → Int32} {n : Nat} (h : WK w n) (e : ∀ j, j < n → w1 j = w j) (hv : (w1 n).toInt = 6 ∨ (w1 n).toInt = 8 ∨ (w1 n).toInt = 9 ∨ (w1 n).toInt = 10 ∨ (w1 n).toInt = 15) : WK w1 (n + 1) := fun i hi => by
  by_cases hn : i < n
  · rw [e i hn]; exact h i hn
  · have ei : i = n := by omega
    subst ei
    exact hv
/-- the code from u up to n is well formed -/
def PGm (cd ci : Nat → Int32) (u n : Nat) : Prop := ∀ c, u ≤ c → c < n → 0 ≤ (cd c).toInt ∧ (cd c).toInt ≤ 5 ∧ ((cd c).toInt = 1 → 0 ≤ (ci c).toInt ∧ (ci c).toInt ≤ 8) ∧ (2 ≤ (cd c).toInt → 2 ≤ dep cd u (c - u))
theorem PGm.zero {cd ci : Nat → Int32} {u : Nat} : PGm cd ci u u := fun c h1 h2 => absurd h1 (by omega)
theorem PGm.cong {cd ci cd1 ci1 : Nat → Int32} {u n : Nat} (h : PGm cd ci u n) (e : ∀ c, u ≤ c → c < n → cd1 c = cd c ∧ ci1 c = ci c) : PGm cd1 ci1 u n := fun c h1 h2 => by
  rw [(e c h1 h2).1, (e c h1 h2).2, dep_cong (cd := cd) (c - u) (fun j hj => (e _ (by omega) (by omega)).1)]
  exact h c h1 h2
theorem PGm.seg {cd ci : Nat → Int32} {x y : Int32} {u n : Nat} (h : PGm cd ci u n) (hx : x.toInt = u) (hy : y.toInt = n) (hu : u ≤ 840) (hn : n ≤ 840) (hl : n ≤ u + 400) : SGm cd ci x y := by
  refine ⟨⟨by omega, by omega⟩, by omega, by omega, fun c c1 c2 => ?_⟩
  rw [show x.toInt.toNat = u by omega]
  exact h c (by omega) (by omega)

