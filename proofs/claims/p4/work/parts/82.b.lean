/-! the class's Air, read -/
section AIRC
variable {σ s : HS} {a T : Nat}
def upA (σ : HS) (a e : Nat) : Bool := decide ((σ.1 (a + 1) e).toInt = 0)
def lnA (σ : HS) (a e : Nat) : Bool := decide ((σ.1 (a + 1) e).toInt = 0) && decide ((σ.1 (a + 2) e).toInt = 0)
theorem e_isUp {k : Nat} (hk : k < 7) : f_X0_isUp a (nI k) σ = some (if upA σ a k = true then 1 else 0, σ) := by
  unfold f_X0_isUp upA
  rw [nIt (by omega), if_pos (by omega), Int.toNat_natCast]
  by_cases c : (σ.1 (a + 1) k).toInt = 0
  · rw [if_pos c, if_pos (by rw [decide_eq_true c])]
  · rw [if_neg c, if_neg (by rw [decide_eq_false c]; decide)]
theorem e_landsNow {k : Nat} (hk : k < 7) : f_X0_landsNow a (nI k) σ = some (if lnA σ a k = true then 1 else 0, σ) := by
  unfold f_X0_landsNow lnA
  rw [nIt (by omega), if_pos (by omega), Int.toNat_natCast]
  by_cases c : (σ.1 (a + 1) k).toInt = 0
  · rw [if_pos c, if_pos (by omega)]
    by_cases c2 : (σ.1 (a + 2) k).toInt = 0
    · rw [if_pos c2, if_pos (by simp [c, c2])]
    · rw [if_neg c2, if_neg (by simp [c2])]
  · rw [if_neg c, if_neg (by simp [c])]
theorem i1_ne : ¬ (1 : Int32).toInt = 0 := by decide
theorem i0_eq : (0 : Int32).toInt = 0 := rfl
theorem e_bitsOf {x : Int32} (h0 : σ.1 a 0 = nI T) (hT : T ≤ 7) : f_X0_bitsOf a x σ = some (bset (fun e => decide ((σ.1 (a + 1) e).toInt = x.toInt)) T, σ) := by
  have loop : ∀ (d k N : Nat), k + d = T → d < N → f_X0_bitsOf_4 a N x (bset (fun e => decide ((σ.1 (a + 1) e).toInt = x.toInt)) k) (nI k) σ = some (bset (fun e => decide ((σ.1 (a + 1) e).toInt = x.toInt)) T, σ) := by
    intro d
    induction d with
    | zero =>
      intro k N hk hN
      obtain ⟨N, rfl⟩ : ∃ q, N = q + 1 := ⟨N - 1, by omega⟩
      obtain rfl : k = T := by omega
      show b_X0_bitsOf_4 a (f_X0_bitsOf_4 a N) x _ (nI k) σ = _
      unfold b_X0_bitsOf_4
      rw [h0, if_neg (by omega)]
    | succ d ih =>
      intro k N hk hN
      obtain ⟨N, rfl⟩ : ∃ q, N = q + 1 := ⟨N - 1, by omega⟩
      have ih1 := ih (k + 1) N (by omega) (by omega)
      show b_X0_bitsOf_4 a (f_X0_bitsOf_4 a N) x _ (nI k) σ = _
      unfold b_X0_bitsOf_4 f_X0_bitsOf_28
      rw [h0, nIt (n := k) (by omega), nIt (n := T) (by omega), if_pos (by omega), if_pos (by omega), Int.toNat_natCast]
      simp only [Bd]
      rw [nI_1]
      by_cases c : (σ.1 (a + 1) k).toInt = x.toInt
      · rw [if_pos c]
        refine Eq.trans ?_ ih1
        show f_X0_bitsOf_4 a N x _ _ σ = f_X0_bitsOf_4 a N x (if decide ((σ.1 (a + 1) k).toInt = x.toInt) = true then _ else _) _ σ
        rw [if_pos (decide_eq_true c)]; rfl
      · rw [if_neg c]
        refine Eq.trans ?_ ih1
        show f_X0_bitsOf_4 a N x _ _ σ = f_X0_bitsOf_4 a N x (if decide ((σ.1 (a + 1) k).toInt = x.toInt) = true then _ else _) _ σ
        rw [if_neg (by rw [decide_eq_false c]; decide)]
  have := loop T 0 5000 (by omega) (by omega)
  rw [nI_0] at this
  exact this
theorem e_howManyUp (h0 : σ.1 a 0 = nI T) (hT : T ≤ 7) : f_X0_howManyUp a σ = some (nI (cntB (upA σ a) T), σ) := by
  unfold f_X0_howManyUp
  rw [e_bitsOf h0 hT]
  simp only [Cl]
  rw [e_bitCount, pcI_cnt (by omega)]; rfl
theorem e_howManyLand (h0 : σ.1 a 0 = nI T) (hT : T ≤ 7) : f_X0_howManyLand a σ = some (nI (cntB (lnA σ a) T), σ) := by
  have loop : ∀ (d k N : Nat), k + d = T → d < N → f_X0_howManyLand_4 a N (nI (cntB (lnA σ a) k)) (nI k) σ = some (nI (cntB (lnA σ a) T), σ) := by
    intro d
    induction d with
    | zero =>
      intro k N hk hN
      obtain ⟨N, rfl⟩ : ∃ q, N = q + 1 := ⟨N - 1, by omega⟩
      obtain rfl : k = T := by omega
      show b_X0_howManyLand_4 a (f_X0_howManyLand_4 a N) _ (nI k) σ = _
      unfold b_X0_howManyLand_4
      rw [h0, if_neg (by omega)]
    | succ d ih =>
      intro k N hk hN
      obtain ⟨N, rfl⟩ : ∃ q, N = q + 1 := ⟨N - 1, by omega⟩
      have ih1 := ih (k + 1) N (by omega) (by omega)
      show b_X0_howManyLand_4 a (f_X0_howManyLand_4 a N) _ (nI k) σ = _
      unfold b_X0_howManyLand_4 f_X0_howManyLand_23
      rw [h0, nIt (n := k) (by omega), nIt (n := T) (by omega), if_pos (by omega), e_landsNow (by omega)]
      simp only [Cl, Bd]
      rw [nI_1, nI_1]
      refine Eq.trans ?_ ih1
      show _ = f_X0_howManyLand_4 a N (nI (if lnA σ a k = true then cntB (lnA σ a) k + 1 else cntB (lnA σ a) k)) (nI (k + 1)) σ
      by_cases c : lnA σ a k = true
      · rw [if_pos c, if_pos c, if_neg i1_ne]
      · rw [if_neg c, if_neg c, if_pos i0_eq]
  have := loop T 0 5000 (by omega) (by omega)
  rw [nI_0] at this
  exact this
def firI (p : Nat → Bool) (T : Nat) (no : Int32) : Int32 := if ffB p T 0 < T then nI (ffB p T 0) else no
theorem e_firstLanding (h0 : σ.1 a 0 = nI T) (hT : T ≤ 7) : f_X0_firstLanding a σ = some (firI (lnA σ a) T (-1), σ) := by
  have loop : ∀ (d k N : Nat), k + d = T → d < N → f_X0_firstLanding_2 a N (nI k) σ = some (if ffB (lnA σ a) d k < T then nI (ffB (lnA σ a) d k) else -1, σ) := by
    intro d
    induction d with
    | zero =>
      intro k N hk hN
      obtain ⟨N, rfl⟩ : ∃ q, N = q + 1 := ⟨N - 1, by omega⟩
      obtain rfl : k = T := by omega
      show b_X0_firstLanding_2 a (f_X0_firstLanding_2 a N) (nI k) σ = _
      unfold b_X0_firstLanding_2
      rw [h0, if_neg (by omega), if_neg (show ¬ ffB (lnA σ a) 0 k < k from Nat.lt_irrefl k)]
    | succ d ih =>
      intro k N hk hN
      obtain ⟨N, rfl⟩ : ∃ q, N = q + 1 := ⟨N - 1, by omega⟩
      have ih1 := ih (k + 1) N (by omega) (by omega)
      show b_X0_firstLanding_2 a (f_X0_firstLanding_2 a N) (nI k) σ = _
      unfold b_X0_firstLanding_2
      rw [h0, nIt (n := k) (by omega), nIt (n := T) (by omega), if_pos (by omega), e_landsNow (by omega)]
      simp only [Cl, Bd]
      rw [nI_1]
      show _ = some (if (if lnA σ a k = true then k else ffB (lnA σ a) d (k + 1)) < T then nI (if lnA σ a k = true then k else ffB (lnA σ a) d (k + 1)) else -1, σ)
      by_cases c : lnA σ a k = true
      · rw [if_pos c, if_pos c, if_neg i1_ne, if_pos (by omega)]
      · rw [if_neg c, if_neg c, if_pos i0_eq, ih1]
  show f_X0_firstLanding_2 a 5000 0 σ = _
  rw [nI0]
  exact loop T 0 5000 (by omega) (by omega)
/-- bits of the beats in which something lands -/
def lbA (f : Nat → Int32) (p : Nat → Bool) : Nat → Int32
  | 0 => 0
  | n + 1 => if p n = true then lbA f p n ||| ((1 : Int32) <<< (f n &&& 31)) else lbA f p n
theorem e_landingBits (h0 : σ.1 a 0 = nI T) (hT : T ≤ 7) : f_X0_landingBits a σ = some (lbA (σ.1 (a + 2)) (upA σ a) T, σ) := by
  have loop : ∀ (d k N : Nat), k + d = T → d < N → f_X0_landingBits_4 a N (lbA (σ.1 (a + 2)) (upA σ a) k) (nI k) σ = some (lbA (σ.1 (a + 2)) (upA σ a) T, σ) := by
    intro d
    induction d with
    | zero =>
      intro k N hk hN
      obtain ⟨N, rfl⟩ : ∃ q, N = q + 1 := ⟨N - 1, by omega⟩
      obtain rfl : k = T := by omega
      show b_X0_landingBits_4 a (f_X0_landingBits_4 a N) _ (nI k) σ = _
      unfold b_X0_landingBits_4
      rw [h0, if_neg (by omega)]
    | succ d ih =>
      intro k N hk hN
      obtain ⟨N, rfl⟩ : ∃ q, N = q + 1 := ⟨N - 1, by omega⟩
      have ih1 := ih (k + 1) N (by omega) (by omega)
      show b_X0_landingBits_4 a (f_X0_landingBits_4 a N) _ (nI k) σ = _
      unfold b_X0_landingBits_4 f_X0_landingBits_31
      rw [h0, nIt (n := k) (by omega), nIt (n := T) (by omega), if_pos (by omega), e_isUp (by omega)]
      simp only [Cl, Bd]
      rw [nI_1]
      refine Eq.trans ?_ ih1
      show _ = f_X0_landingBits_4 a N (if upA σ a k = true then lbA (σ.1 (a + 2)) (upA σ a) k ||| ((1 : Int32) <<< ((σ.1 (a + 2) k) &&& 31)) else lbA (σ.1 (a + 2)) (upA σ a) k) (nI (k + 1)) σ
      by_cases c : upA σ a k = true
      · rw [if_pos c, if_pos c, if_neg i1_ne, if_pos (by omega), Int.toNat_natCast]
      · rw [if_neg c, if_neg c, if_pos i0_eq]
  have := loop T 0 5000 (by omega) (by omega)
  rw [nI_0] at this
  exact this
theorem e_drop {k : Nat} (hk : k < 7) : f_X0_drop a (nI k) σ = some (hI (hI σ (a + 1) k 2) a 6 (σ.1 a 6 + 1)) := by
  unfold f_X0_drop
  rw [nIt (by omega), if_pos (by omega), Int.toNat_natCast]
  simp only [Bd]
  rw [rI_i (by omega)]
theorem e_putUp {k : Nat} {x : Int32} (hk : k < 7) : f_X0_putUp a (nI k) x σ = some (hI (hI σ (a + 1) k 0) (a + 2) k x) := by
  unfold f_X0_putUp
  rw [nIt (by omega), if_pos (by omega), Int.toNat_natCast]
  simp only [Bd]
  rw [if_pos (by omega)]
theorem e_takeUp {x : Int32} : f_X0_takeUp a x σ = some (hI (hI σ a 9 x) a 10 (σ.1 a 4)) := by
  unfold f_X0_takeUp
  simp only [Bd]
  rw [rI_k (by decide)]
end AIRC
