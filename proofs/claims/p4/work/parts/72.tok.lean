def bI (b : Bool) : Int32 := if b then 1 else 0
theorem e_X12_byteAt {x : Int32} {σ : HS} (h0 : 0 ≤ x.toInt) (h1 : (σ.1 236 4).toInt ≤ 2000) : f_X12_byteAt x σ = some (byt σ x, σ) := by
  unfold f_X12_byteAt byt
  by_cases c : x.toInt < (σ.1 236 4).toInt
  · rw [if_pos c, if_pos c, if_pos ⟨h0, by omega⟩]
  · rw [if_neg c, if_neg c]
theorem e_X12_isDigit {x : Int32} {σ : HS} : f_X12_isDigit x σ = some (bI (isDg x), σ) := by
  unfold f_X12_isDigit isDg bI
  by_cases c : x.toInt < 48
  · rw [if_pos c]; simp; omega
  · by_cases c2 : 57 < x.toInt
    · rw [if_neg c, if_pos c2]; simp; omega
    · rw [if_neg c, if_neg c2]; simp; omega
theorem e_X12_isLetter {x : Int32} {σ : HS} : f_X12_isLetter x σ = some (bI (isLt x), σ) := by
  unfold f_X12_isLetter isLt bI
  by_cases c : x.toInt < 97
  · rw [if_pos c]; simp; omega
  · by_cases c2 : 122 < x.toInt
    · rw [if_neg c, if_pos c2]; simp; omega
    · rw [if_neg c, if_neg c2]; simp; omega
def tokS (x1 x2 x3 : Int32) (x4 : Int64) (σ : HS) : HS := hI (hL (hI (hI (hI σ 239 (σ.1 236 10).toInt.toNat x1) 240 (σ.1 236 10).toInt.toNat x2) 241 (σ.1 236 10).toInt.toNat x3) 242 (σ.1 236 10).toInt.toNat x4) 236 10 ((σ.1 236 10) + 1)
theorem e_X12_token {x1 x2 x3 : Int32} {x4 : Int64} {σ : HS} (h : 0 ≤ (σ.1 236 10).toInt ∧ (σ.1 236 10).toInt < 403) : f_X12_token x1 x2 x3 x4 σ = some (tokS x1 x2 x3 x4 σ) := by
  unfold f_X12_token Bd
  simp only [rI_i (show (236 : Nat) ≠ 239 by decide), rI_i (show (236 : Nat) ≠ 240 by decide), rI_i (show (236 : Nat) ≠ 241 by decide), rL_1, if_pos h]
  rfl
def sg32 (c : Int32) : Int32 := if c.toInt = 60 then 13 else if c.toInt = 47 then 15 else if c.toInt = 42 then 10 else if c.toInt = 45 then 9 else if c.toInt = 43 then 8 else if c.toInt = 59 then 4 else if c.toInt = 61 then 5 else if c.toInt = 40 then 6 else if c.toInt = 41 then 7 else 3
theorem e_X12_sign {x1 x2 x3 : Int32} {σ : HS} (h : 0 ≤ (σ.1 236 10).toInt ∧ (σ.1 236 10).toInt < 403) : ∃ v : Int32, v.toInt = sgn x2.toInt ∧ f_X12_sign x1 x2 x3 σ = some (1, tokS v x1 0 0 σ) := by
  unfold f_X12_sign
  simp only [f_X12_sign_43, f_X12_sign_55, f_X12_sign_65, f_X12_sign_75, f_X12_sign_85, f_X12_sign_95, e_X12_token h, Cv]
  refine ⟨sg32 x2, ?_, ?_⟩
  · unfold sg32 sgn
    repeat' split
    all_goals first | rfl | omega
  · unfold sg32
    by_cases c60 : x2.toInt = 60
    · simp [c60]
    by_cases c47 : x2.toInt = 47
    · simp [c47]
    by_cases c42 : x2.toInt = 42
    · simp [c42]
    by_cases c45 : x2.toInt = 45
    · simp [c45]
    by_cases c43 : x2.toInt = 43
    · simp [c43]
    by_cases c59 : x2.toInt = 59
    · simp [c59]
    by_cases c61 : x2.toInt = 61
    · simp [c61]
    by_cases c40 : x2.toInt = 40
    · simp [c40]
    by_cases c41 : x2.toInt = 41
    · simp [c41]
    simp [c60, c47, c42, c45, c43, c59, c61, c40, c41]

