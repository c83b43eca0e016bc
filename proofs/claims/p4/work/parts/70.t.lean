/-! a text's bytes as tokens -/
def isBl (c : Int32) : Bool := c.toInt == 9 || c.toInt == 10 || c.toInt == 13 || c.toInt == 32
def isLt (c : Int32) : Bool := decide (97 ≤ c.toInt) && decide (c.toInt ≤ 122)
def isDg (c : Int32) : Bool := decide (48 ≤ c.toInt) && decide (c.toInt ≤ 57)
/-- the end of the run of p's from i on -/
def rnF (p : Int32 → Bool) (b : Nat → Int32) : Nat → Nat → Nat
  | 0, i => i
  | f + 1, i => if p (b i) = true then rnF p b f (i + 1) else i
def rn (p : Int32 → Bool) (b : Nat → Int32) (n i : Nat) : Nat := rnF p b (n - i) i
theorem rn_in {p : Int32 → Bool} {b : Nat → Int32} {n i : Nat} (h : i < n) (hp : p (b i) = true) : rn p b n i = rn p b n (i + 1) := by
  unfold rn
  rw [show n - i = (n - (i + 1)) + 1 by omega]
  show (if p (b i) = true then rnF p b (n - (i + 1)) (i + 1) else i) = _
  rw [if_pos hp]
theorem rn_out {p : Int32 → Bool} {b : Nat → Int32} {n i : Nat} (h : n ≤ i ∨ ¬ p (b i) = true) : rn p b n i = i := by
  unfold rn
  by_cases hn : n ≤ i
  · rw [show n - i = 0 by omega]; rfl
  · rw [show n - i = (n - (i + 1)) + 1 by omega]
    show (if p (b i) = true then rnF p b (n - (i + 1)) (i + 1) else i) = i
    rw [if_neg (by rcases h with h | h; exact absurd h hn; exact h)]
theorem rnF_le {p : Int32 → Bool} {b : Nat → Int32} : ∀ f i, i ≤ rnF p b f i ∧ rnF p b f i ≤ i + f := by
  intro f
  induction f with
  | zero => intro i; exact ⟨Nat.le_refl _, Nat.le_refl _⟩
  | succ f ih =>
    intro i
    show i ≤ (if p (b i) = true then rnF p b f (i + 1) else i) ∧ (if p (b i) = true then rnF p b f (i + 1) else i) ≤ i + (f + 1)
    have := ih (i + 1)
    split <;> omega
theorem rn_le {p : Int32 → Bool} {b : Nat → Int32} {n i : Nat} : i ≤ rn p b n i ∧ (i ≤ n → rn p b n i ≤ n) := by
  have := rnF_le (p := p) (b := b) (n - i) i
  unfold rn
  omega
/-- base 27 of the bytes i .. j - 1; base 10 -/
def wv (b : Nat → Int32) (i : Nat) : Nat → Int64
  | 0 => 0
  | m + 1 => 27 * wv b i m + ((b (i + m) - 97) + 1).toInt64
def iv (b : Nat → Int32) (i : Nat) : Nat → Int
  | 0 => 0
  | m + 1 => 10 * iv b i m + ((b (i + m)).toInt - 48)
def keyL : List Int64 := [10793230, 6224103356, 10819243, 2491444, 3497099, 316351, 9678763, 377761, 249, 399641, 107681, 332864552, 101525, 117630947, 43058, 10819228, 583, 12387257, 43996844, 158575]
/-- which word has this value (0 .. 19), or 20 -/
def kwF : List Int64 → Int64 → Nat
  | [], _ => 0
  | k :: ks, v => if k = v then 0 else kwF ks v + 1
def sgn (c : Int) : Int := if c = 59 then 4 else if c = 61 then 5 else if c = 40 then 6 else if c = 41 then 7 else if c = 43 then 8 else if c = 45 then 9 else if c = 42 then 10 else if c = 47 then 15 else if c = 60 then 13 else 3
/-- the token that begins at i: its kind, its end -/
def tkK (b : Nat → Int32) (n i : Nat) : Int := if n ≤ i then 0 else if isLt (b i) = true then (if i + 8 < rn isLt b n i then 3 else if kwF keyL (wv b i (rn isLt b n i - i)) < 20 then 20 + (kwF keyL (wv b i (rn isLt b n i - i)) : Int) else 1) else if isDg (b i) = true then (if i + 4 < rn isDg b n i then 3 else 2) else sgn (b i).toInt
def tkE (b : Nat → Int32) (n i : Nat) : Nat := if n ≤ i then i else if isLt (b i) = true then rn isLt b n i else if isDg (b i) = true then rn isDg b n i else i + 1
/-- where the j-th token begins -/
def plT (b : Nat → Int32) (n : Nat) : Nat → Nat
  | 0 => rn isBl b n 0
  | j + 1 => rn isBl b n (tkE b n (plT b n j))
def kdT (b : Nat → Int32) (n j : Nat) : Int := tkK b n (plT b n j)
def vlT (b : Nat → Int32) (n j : Nat) : Int := iv b (plT b n j) (rn isDg b n (plT b n j) - plT b n j)
def nmT (b : Nat → Int32) (n j : Nat) : Int64 := wv b (plT b n j) (rn isLt b n (plT b n j) - plT b n j)

