/-! sets of things, counted, found -/
def bitI (n : Nat) : Int32 := (1 : Int32) <<< (nI n &&& 31)
def bset (p : Nat → Bool) : Nat → Int32
  | 0 => 0
  | n + 1 => if p n = true then bset p n ||| bitI n else bset p n
def bsN (p : Nat → Bool) : Nat → Nat
  | 0 => 0
  | n + 1 => if p n = true then bsN p n + 2 ^ n else bsN p n
def cntB (p : Nat → Bool) : Nat → Nat
  | 0 => 0
  | n + 1 => if p n = true then cntB p n + 1 else cntB p n
/-- the first from e on, in d steps -/
def ffB (p : Nat → Bool) : Nat → Nat → Nat
  | 0, e => e
  | d + 1, e => if p e = true then e else ffB p d (e + 1)
theorem bset_cg {p q : Nat → Bool} : ∀ {n : Nat}, (∀ e, e < n → p e = q e) → bset p n = bset q n := by
  intro n
  induction n with
  | zero => intro _; rfl
  | succ n ih =>
    intro h
    show (if p n = true then bset p n ||| bitI n else bset p n) = (if q n = true then bset q n ||| bitI n else bset q n)
    rw [h n (by omega), ih (fun e he => h e (by omega))]
theorem cntB_cg {p q : Nat → Bool} : ∀ {n : Nat}, (∀ e, e < n → p e = q e) → cntB p n = cntB q n := by
  intro n
  induction n with
  | zero => intro _; rfl
  | succ n ih =>
    intro h
    show (if p n = true then cntB p n + 1 else cntB p n) = (if q n = true then cntB q n + 1 else cntB q n)
    rw [h n (by omega), ih (fun e he => h e (by omega))]
theorem ffB_cg {p q : Nat → Bool} : ∀ {d e : Nat}, (∀ i, e ≤ i → i < e + d → p i = q i) → ffB p d e = ffB q d e := by
  intro d
  induction d with
  | zero => intro _ _; rfl
  | succ d ih =>
    intro e h
    show (if p e = true then e else ffB p d (e + 1)) = (if q e = true then e else ffB q d (e + 1))
    rw [h e (by omega) (by omega), ih (fun i h1 h2 => h i (by omega) (by omega))]
theorem ffB_rg {p : Nat → Bool} : ∀ {d e : Nat}, e ≤ ffB p d e ∧ ffB p d e ≤ e + d := by
  intro d
  induction d with
  | zero => intro e; exact ⟨Nat.le_refl _, Nat.le_refl _⟩
  | succ d ih =>
    intro e
    show e ≤ (if p e = true then e else ffB p d (e + 1)) ∧ (if p e = true then e else ffB p d (e + 1)) ≤ e + (d + 1)
    have := ih (e := e + 1)
    split <;> omega
theorem ffB_at {p : Nat → Bool} : ∀ {d e : Nat}, ffB p d e < e + d → p (ffB p d e) = true := by
  intro d
  induction d with
  | zero => intro e h; exact absurd h (by show ¬ e < e + 0; omega)
  | succ d ih =>
    intro e h
    show p (if p e = true then e else ffB p d (e + 1)) = true
    by_cases c : p e = true
    · rw [if_pos c]; exact c
    · rw [if_neg c]
      refine ih ?_
      have h2 : (if p e = true then e else ffB p d (e + 1)) < e + (d + 1) := h
      rw [if_neg c] at h2
      omega
theorem ffB_no {p : Nat → Bool} : ∀ {d e i : Nat}, e ≤ i → i < ffB p d e → p i = false := by
  intro d
  induction d with
  | zero => intro e i h1 h2; exact absurd h2 (by show ¬ i < e; omega)
  | succ d ih =>
    intro e i h1 h2
    have h3 : i < (if p e = true then e else ffB p d (e + 1)) := h2
    by_cases c : p e = true
    · rw [if_pos c] at h3; omega
    · rw [if_neg c] at h3
      by_cases c2 : i = e
      · subst c2; exact Bool.eq_false_iff.mpr c
      · exact ih (by omega) h3
theorem cntB_le {p : Nat → Bool} : ∀ {n : Nat}, cntB p n ≤ n := by
  intro n
  induction n with
  | zero => exact Nat.le_refl _
  | succ n ih =>
    show (if p n = true then cntB p n + 1 else cntB p n) ≤ n + 1
    split <;> omega
theorem bsN_lt {p : Nat → Bool} : ∀ {n : Nat}, bsN p n < 2 ^ n := by
  intro n
  induction n with
  | zero => exact Nat.one_pos
  | succ n ih =>
    show (if p n = true then bsN p n + 2 ^ n else bsN p n) < 2 ^ (n + 1)
    rw [Nat.pow_succ]
    split <;> omega
theorem bit_or : ∀ n, n < 10 → ∀ x, x < 2 ^ n → nI x ||| bitI n = nI (x + 2 ^ n) := by decide +kernel
theorem bset_N {p : Nat → Bool} : ∀ {n : Nat}, n ≤ 10 → bset p n = nI (bsN p n) := by
  intro n
  induction n with
  | zero => intro _; exact nI_0.symm
  | succ n ih =>
    intro h
    show (if p n = true then bset p n ||| bitI n else bset p n) = nI (if p n = true then bsN p n + 2 ^ n else bsN p n)
    by_cases c : p n = true
    · rw [if_pos c, if_pos c, ih (by omega), bit_or n (by omega) _ bsN_lt]
    · rw [if_neg c, if_neg c, ih (by omega)]
/-- the JDK's bitCount -/
def pcI (x : Int32) : Int32 :=
  let z1 := x - (((x.toUInt32 >>> ((1 : Int32).toUInt32 &&& Int32.toUInt32 31)).toInt32) &&& (1431655765 : Int32))
  let z2 := (z1 &&& (858993459 : Int32)) + (((z1.toUInt32 >>> ((2 : Int32).toUInt32 &&& Int32.toUInt32 31)).toInt32) &&& (858993459 : Int32))
  let z3 := (z2 + ((z2.toUInt32 >>> ((4 : Int32).toUInt32 &&& Int32.toUInt32 31)).toInt32)) &&& (252645135 : Int32)
  let z4 := z3 + ((z3.toUInt32 >>> ((8 : Int32).toUInt32 &&& Int32.toUInt32 31)).toInt32)
  let z5 := z4 + ((z4.toUInt32 >>> ((16 : Int32).toUInt32 &&& Int32.toUInt32 31)).toInt32)
  z5 &&& (63 : Int32)
theorem e_bitCount {x : Int32} {σ : HS} : f_J6_bitCount_0f7a4 x σ = some (pcI x, σ) := rfl
/-- the reference's count of ten bits -/
def accB (y : Int32) : Nat → Nat → Int32 → Int32
  | 0, _, c => c
  | d + 1, k, c => accB y d (k + 1) (c + ((y >>> (nI k &&& 31)) &&& (1 : Int32)))
def pcM (x : Int32) : Int32 := accB x 10 0 0
theorem e_bits {x : Int32} {σ : HS} : f_X12_bits x σ = some (pcM x, σ) := by
  have loop : ∀ (d k N : Nat) (c : Int32), k + d = 10 → d < N → f_X12_bits_4 N x c (nI k) σ = some (accB x d k c, σ) := by
    intro d
    induction d with
    | zero =>
      intro k N c hk hN
      obtain ⟨N, rfl⟩ : ∃ q, N = q + 1 := ⟨N - 1, by omega⟩
      show b_X12_bits_4 (f_X12_bits_4 N) x c (nI k) σ = _
      unfold b_X12_bits_4
      rw [nIt (by omega), if_neg (by omega)]; rfl
    | succ d ih =>
      intro k N c hk hN
      obtain ⟨N, rfl⟩ : ∃ q, N = q + 1 := ⟨N - 1, by omega⟩
      show b_X12_bits_4 (f_X12_bits_4 N) x c (nI k) σ = _
      unfold b_X12_bits_4
      rw [nIt (by omega), if_pos (by omega)]
      simp only [Bd]
      rw [nI_1, ih (k + 1) N _ (by omega) (by omega)]; rfl
  show f_X12_bits_4 5000 x 0 0 σ = _
  rw [show f_X12_bits_4 5000 x 0 0 σ = f_X12_bits_4 5000 x 0 (nI 0) σ by rw [nI_0]]
  exact loop 10 0 5000 0 (by omega) (by omega)
theorem pcI_bit : ∀ n, n < 10 → ∀ x, x < 2 ^ n → pcI (nI (x + 2 ^ n)) = pcI (nI x) + 1 := by decide +kernel
theorem pcM_bit : ∀ n, n < 10 → ∀ x, x < 2 ^ n → pcM (nI (x + 2 ^ n)) = pcM (nI x) + 1 := by decide +kernel
theorem pcI_cnt {p : Nat → Bool} : ∀ {n : Nat}, n ≤ 10 → pcI (bset p n) = nI (cntB p n) := by
  intro n h
  rw [bset_N h]
  induction n with
  | zero => show pcI (nI 0) = nI 0; decide +kernel
  | succ n ih =>
    show pcI (nI (if p n = true then bsN p n + 2 ^ n else bsN p n)) = nI (if p n = true then cntB p n + 1 else cntB p n)
    by_cases c : p n = true
    · rw [if_pos c, if_pos c, pcI_bit n (by omega) _ bsN_lt, ih (by omega), nI_1]
    · rw [if_neg c, if_neg c, ih (by omega)]
theorem pcM_cnt {p : Nat → Bool} : ∀ {n : Nat}, n ≤ 10 → pcM (bset p n) = nI (cntB p n) := by
  intro n h
  rw [bset_N h]
  induction n with
  | zero => show pcM (nI 0) = nI 0; decide +kernel
  | succ n ih =>
    show pcM (nI (if p n = true then bsN p n + 2 ^ n else bsN p n)) = nI (if p n = true then cntB p n + 1 else cntB p n)
    by_cases c : p n = true
    · rw [if_pos c, if_pos c, pcM_bit n (by omega) _ bsN_lt, ih (by omega), nI_1]
    · rw [if_neg c, if_neg c, ih (by omega)]

