/-! the reference's row, read -/
section ROWM
variable {σ s : HS} {sd T : Nat}
/-- the half in force, and how many things it has -/
def LVm (sd T : Nat) (σ : HS) : Prop := σ.1 236 18 = nI sd ∧ sd ≤ 1 ∧ σ.1 245 sd = nI T ∧ T ≤ 7
def upR (ρ : Nat → Int32) (e : Nat) : Bool := decide ((ρ e).toInt = 0)
def lnR (ρ : Nat → Int32) (n : Int) (e : Nat) : Bool := decide ((ρ e).toInt = 0) && decide ((ρ (7 + e)).toInt = n)
theorem n7_add {k : Nat} : (7 : Int32) + nI k = nI (7 + k) := nI_add 7 k
theorem n14_add {k : Nat} : (14 : Int32) + nI k = nI (14 + k) := nI_add 14 k
theorem LVm.sd0 (h : LVm sd T σ) : 0 ≤ (σ.1 236 18).toInt ∧ (σ.1 236 18).toInt < 2 := by
  rw [h.1, nIt (by have := h.2.1; omega)]
  have := h.2.1
  omega
theorem LVm.at (h : LVm sd T σ) : (σ.1 236 18).toInt.toNat = sd := by rw [h.1, nItn (by have := h.2.1; omega)]
theorem LVm.tt (h : LVm sd T σ) : (σ.1 245 (σ.1 236 18).toInt.toNat).toInt = T := by rw [h.at, h.2.2.1, nIt (by have := h.2.2.2; omega)]
theorem e_thingsSo {x : Int32} (h : LVm sd T σ) : f_X12_thingsSo x σ = some (bset (fun e => decide ((σ.1 267 e).toInt = x.toInt)) T, σ) := by
  have hT := h.2.2.2
  have loop : ∀ (d k N : Nat), k + d = T → d < N → f_X12_thingsSo_4 N x (bset (fun e => decide ((σ.1 267 e).toInt = x.toInt)) k) (nI k) σ = some (bset (fun e => decide ((σ.1 267 e).toInt = x.toInt)) T, σ) := by
    intro d
    induction d with
    | zero =>
      intro k N hk hN
      obtain ⟨N, rfl⟩ : ∃ q, N = q + 1 := ⟨N - 1, by omega⟩
      show b_X12_thingsSo_4 (f_X12_thingsSo_4 N) x _ (nI k) σ = _
      unfold b_X12_thingsSo_4
      rw [if_pos h.sd0, h.tt, nIt (n := k) (by omega), if_neg (by omega)]
      obtain rfl : k = T := by omega
      rfl
    | succ d ih =>
      intro k N hk hN
      obtain ⟨N, rfl⟩ : ∃ q, N = q + 1 := ⟨N - 1, by omega⟩
      have ih1 := ih (k + 1) N (by omega) (by omega)
      show b_X12_thingsSo_4 (f_X12_thingsSo_4 N) x _ (nI k) σ = _
      unfold b_X12_thingsSo_4 f_X12_thingsSo_33
      rw [if_pos h.sd0, h.tt, nIt (n := k) (by omega), if_pos (by omega), if_pos (by omega), Int.toNat_natCast]
      simp only [Bd]
      rw [nI_1]
      refine Eq.trans ?_ ih1
      show _ = f_X12_thingsSo_4 N x (if decide ((σ.1 267 k).toInt = x.toInt) = true then _ else _) _ σ
      by_cases c : (σ.1 267 k).toInt = x.toInt
      · rw [if_pos c, if_pos (decide_eq_true c)]; rfl
      · rw [if_neg c, if_neg (by rw [decide_eq_false c]; decide)]
  have := loop T 0 5000 (by omega) (by omega)
  rw [nI_0] at this
  exact this
theorem e_doesLand {k : Nat} {x : Int32} (hk : k < 7) : f_X12_doesLand (nI k) x σ = some (if lnR (σ.1 267) x.toInt k = true then 1 else 0, σ) := by
  unfold f_X12_doesLand lnR
  rw [n7_add, nIt (n := k) (by omega), nIt (n := 7 + k) (by omega), if_pos (by omega), Int.toNat_natCast, Int.toNat_natCast]
  by_cases c : (σ.1 267 k).toInt = 0
  · rw [if_pos c, if_pos (by omega)]
    by_cases c2 : (σ.1 267 (7 + k)).toInt = x.toInt
    · rw [if_pos c2, if_pos (by simp [c, c2])]
    · rw [if_neg c2, if_neg (by simp [c2])]
  · rw [if_neg c, if_neg (by simp [c])]
theorem e_landsAt {x : Int32} (h : LVm sd T σ) : f_X12_landsAt x σ = some (nI (cntB (lnR (σ.1 267) x.toInt) T), σ) := by
  have hT := h.2.2.2
  have loop : ∀ (d k N : Nat), k + d = T → d < N → f_X12_landsAt_4 N x (nI (cntB (lnR (σ.1 267) x.toInt) k)) (nI k) σ = some (nI (cntB (lnR (σ.1 267) x.toInt) T), σ) := by
    intro d
    induction d with
    | zero =>
      intro k N hk hN
      obtain ⟨N, rfl⟩ : ∃ q, N = q + 1 := ⟨N - 1, by omega⟩
      show b_X12_landsAt_4 (f_X12_landsAt_4 N) x _ (nI k) σ = _
      unfold b_X12_landsAt_4
      rw [if_pos h.sd0, h.tt, nIt (n := k) (by omega), if_neg (by omega)]
      obtain rfl : k = T := by omega
      rfl
    | succ d ih =>
      intro k N hk hN
      obtain ⟨N, rfl⟩ : ∃ q, N = q + 1 := ⟨N - 1, by omega⟩
      have ih1 := ih (k + 1) N (by omega) (by omega)
      show b_X12_landsAt_4 (f_X12_landsAt_4 N) x _ (nI k) σ = _
      unfold b_X12_landsAt_4 f_X12_landsAt_29
      rw [if_pos h.sd0, h.tt, nIt (n := k) (by omega), if_pos (by omega), e_doesLand (by omega)]
      simp only [Cl, Bd]
      rw [nI_1, nI_1]
      refine Eq.trans ?_ ih1
      show _ = f_X12_landsAt_4 N x (nI (if lnR (σ.1 267) x.toInt k = true then cntB (lnR (σ.1 267) x.toInt) k + 1 else cntB (lnR (σ.1 267) x.toInt) k)) (nI (k + 1)) σ
      by_cases c : lnR (σ.1 267) x.toInt k = true
      · rw [if_pos c, if_pos c, if_neg i1_ne]
      · rw [if_neg c, if_neg c, if_pos i0_eq]
  have := loop T 0 5000 (by omega) (by omega)
  rw [nI_0] at this
  exact this
theorem e_catchesNow (h : LVm sd T σ) : f_X12_catchesNow σ = some (firI (lnR (σ.1 267) 0) T (-2), σ) := by
  have hT := h.2.2.2
  have loop : ∀ (d k N : Nat), k + d = T → d < N → f_X12_catchesNow_2 N (nI k) σ = some (if ffB (lnR (σ.1 267) 0) d k < T then nI (ffB (lnR (σ.1 267) 0) d k) else -2, σ) := by
    intro d
    induction d with
    | zero =>
      intro k N hk hN
      obtain ⟨N, rfl⟩ : ∃ q, N = q + 1 := ⟨N - 1, by omega⟩
      show b_X12_catchesNow_2 (f_X12_catchesNow_2 N) (nI k) σ = _
      unfold b_X12_catchesNow_2
      rw [if_pos h.sd0, h.tt, nIt (n := k) (by omega), if_neg (by omega), if_neg (show ¬ ffB (lnR (σ.1 267) 0) 0 k < T from (by show ¬ k < T; omega))]
    | succ d ih =>
      intro k N hk hN
      obtain ⟨N, rfl⟩ : ∃ q, N = q + 1 := ⟨N - 1, by omega⟩
      have ih1 := ih (k + 1) N (by omega) (by omega)
      show b_X12_catchesNow_2 (f_X12_catchesNow_2 N) (nI k) σ = _
      unfold b_X12_catchesNow_2
      rw [if_pos h.sd0, h.tt, nIt (n := k) (by omega), if_pos (by omega), e_doesLand (by omega), i0_eq]
      simp only [Cl, Bd]
      rw [nI_1]
      show _ = some (if (if lnR (σ.1 267) 0 k = true then k else ffB (lnR (σ.1 267) 0) d (k + 1)) < T then nI (if lnR (σ.1 267) 0 k = true then k else ffB (lnR (σ.1 267) 0) d (k + 1)) else -2, σ)
      by_cases c : lnR (σ.1 267) 0 k = true
      · rw [if_pos c, if_pos c, if_neg i1_ne, if_pos (by omega)]
      · rw [if_neg c, if_neg c, if_pos i0_eq, ih1]
  show f_X12_catchesNow_2 5000 0 σ = _
  rw [nI0]
  exact loop T 0 5000 (by omega) (by omega)
theorem e_in {x y z : Int32} : f_X12_in x y z σ = some (if y.toInt ≤ x.toInt ∧ x.toInt ≤ z.toInt then 1 else 0, σ) := by
  unfold f_X12_in
  by_cases c : x.toInt < y.toInt
  · rw [if_pos c, if_neg (by omega)]
  · rw [if_neg c]
    by_cases c2 : z.toInt < x.toInt
    · rw [if_pos c2, if_neg (by omega)]
    · rw [if_neg c2, if_pos (by omega)]
def hldI (x y z : Int32) : Int32 := if x.toInt < y.toInt then y else if z.toInt < x.toInt then z else x
theorem e_held {x y z : Int32} : f_X12_held x y z σ = some (hldI x y z, σ) := by
  unfold f_X12_held hldI
  by_cases c : x.toInt < y.toInt
  · rw [if_pos c, if_pos c]
  · rw [if_neg c, if_neg c]
    by_cases c2 : z.toInt < x.toInt
    · rw [if_pos c2, if_pos c2]
    · rw [if_neg c2, if_neg c2]
theorem e_isThing {x : Int32} (h : LVm sd T σ) : f_X12_isThing x σ = some (if 0 ≤ x.toInt ∧ x.toInt < T then 1 else 0, σ) := by
  have hT := h.2.2.2
  have e1 : (nI T - 1).toInt = (T : Int) - 1 := by rw [i32_sub (by rw [nIt (by omega)]; show _ ≤ (T : Int) - 1 ∧ (T : Int) - 1 ≤ _; omega), nIt (by omega)]; rfl
  unfold f_X12_isThing
  rw [if_pos h.sd0, h.at, h.2.2.1, e_in]
  simp only [Cl]
  rw [e1, i0_eq]
  by_cases c : 0 ≤ x.toInt ∧ x.toInt < T
  · rw [if_pos c, show (if 0 ≤ x.toInt ∧ x.toInt ≤ (T : Int) - 1 then (1 : Int32) else 0) = 1 from if_pos (by omega)]; rfl
  · rw [if_neg c, show (if 0 ≤ x.toInt ∧ x.toInt ≤ (T : Int) - 1 then (1 : Int32) else 0) = 0 from if_neg (by omega)]; rfl
theorem e_isPattern {x : Int32} {P : Nat} (h : LVm sd T σ) (hP : σ.1 249 sd = nI P) (hp : P ≤ 5) : f_X12_isPattern x σ = some (if 0 ≤ x.toInt ∧ x.toInt < P then 1 else 0, σ) := by
  have e1 : (nI P - 1).toInt = (P : Int) - 1 := by rw [i32_sub (by rw [nIt (by omega)]; show _ ≤ (P : Int) - 1 ∧ (P : Int) - 1 ≤ _; omega), nIt (by omega)]; rfl
  unfold f_X12_isPattern
  rw [if_pos h.sd0, h.at, hP, e_in]
  simp only [Cl]
  rw [e1, i0_eq]
  by_cases c : 0 ≤ x.toInt ∧ x.toInt < P
  · rw [if_pos c, show (if 0 ≤ x.toInt ∧ x.toInt ≤ (P : Int) - 1 then (1 : Int32) else 0) = 1 from if_pos (by omega)]; rfl
  · rw [if_neg c, show (if 0 ≤ x.toInt ∧ x.toInt ≤ (P : Int) - 1 then (1 : Int32) else 0) = 0 from if_neg (by omega)]; rfl
end ROWM
