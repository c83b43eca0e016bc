/-! a text's bytes as tokens -/
def isBl (c : Int32) : Bool := c.toInt == 9 || c.toInt == 10 || c.toInt == 13 || c.toInt == 32
def isLt (c : Int32) : Bool := decide (97 ≤ c.toInt) && decide (c.toInt ≤ 122)
def isDg (c : Int32) : Bool := decide (48 ≤ c.toInt) && decide (c.toInt ≤ 57)
/-- the end of the run of p's from i on -/
def rnF (p : Int32 → Bool) (b : Nat → Int32) : Nat → Nat → Nat
  | 0, i => i
  | f + 1, i => if p (b i) = true then rnF p b f (i + 1) else i
def rn (p : Int32 → Bool) (b : Nat → Int32) (n i : Nat) : Nat := rnF p b (n - i) i
theorem rn_in {p : Int32 → Bool} {b : Nat → Int32} {n i : Nat} (h : i < n) (hp : p (b i) = true) : rn p b n i = rn p b n (i + 1) := by
  unfold rn
  rw [show n - i = (n - (i + 1)) + 1 by omega]
  show (if p (b i) = true then rnF p b (n - (i + 1)) (i + 1) else i) = _
  rw [if_pos hp]
theorem rn_out {p : Int32 → Bool} {b : Nat → Int32} {n i : Nat} (h : n ≤ i ∨ ¬ p (b i) = true) : rn p b n i = i := by
  unfold rn
  by_cases hn : n ≤ i
  · rw [show n - i = 0 by omega]; rfl
  · rw [show n - i = (n - (i + 1)) + 1 by omega]
    show (if p (b i) = true then rnF p b (n - (i + 1)) (i + 1) else i) = i
    rw [if_neg (by rcases h with h | h; exact absurd h hn; exact h)]
theorem rnF_le {p : Int32 → Bool} {b : Nat → Int32} : ∀ f i, i ≤ rnF p b f i ∧ rnF p b f i ≤ i + f := by
  intro f
  induction f with
  | zero => intro i; exact ⟨Nat.le_refl _, Nat.le_refl _⟩
  | succ f ih =>
    intro i
    show i ≤ (if p (b i) = true then rnF p b f (i + 1) else i) ∧ (if p (b i) = true then rnF p b f (i + 1) else i) ≤ i + (f + 1)
    have := ih (i + 1)
    split <;> omega
theorem rn_le {p : Int32 → Bool} {b : Nat → Int32} {n i : Nat} : i ≤ rn p b n i ∧ (i ≤ n → rn p b n i ≤ n) := by
  have := rnF_le (p := p) (b := b) (n - i) i
  unfold rn
  omega
/-- base 27 of the bytes i .. j - 1; base 10 -/
def wv (b : Nat → Int32) (i : Nat) : Nat → Int64
  | 0 => 0
  | m + 1 => 27 * wv b i m + ((b (i + m) - 97) + 1).toInt64
def iv (b : Nat → Int32) (i : Nat) : Nat → Int
  | 0 => 0
  | m + 1 => 10 * iv b i m + ((b (i + m)).toInt - 48)
def keyL : List Int64 := [10793230, 6224103356, 10819243, 2491444, 3497099, 316351, 9678763, 377761, 249, 399641, 107681, 332864552, 101525, 117630947, 43058, 10819228, 583, 12387257, 43996844, 158575]
/-- which word has this value (0 .. 19), or 20 -/
def kwF : List Int64 → Int64 → Nat
  | [], _ => 0
  | k :: ks, v => if k = v then 0 else kwF ks v + 1
def sgn (c : Int) : Int := if c = 59 then 4 else if c = 61 then 5 else if c = 40 then 6 else if c = 41 then 7 else if c = 43 then 8 else if c = 45 then 9 else if c = 42 then 10 else if c = 47 then 15 else if c = 60 then 13 else 3
/-- the token that begins at i: its kind, its end -/
def tkK (b : Nat → Int32) (n i : Nat) : Int := if n ≤ i then 0 else if isLt (b i) = true then (if i + 8 < rn isLt b n i then 3 else if kwF keyL (wv b i (rn isLt b n i - i)) < 20 then 20 + (kwF keyL (wv b i (rn isLt b n i - i)) : Int) else 1) else if isDg (b i) = true then (if i + 4 < rn isDg b n i then 3 else 2) else sgn (b i).toInt
def tkE (b : Nat → Int32) (n i : Nat) : Nat := if n ≤ i then i else if isLt (b i) = true then rn isLt b n i else if isDg (b i) = true then rn isDg b n i else i + 1
/-- where the j-th token begins -/
def plT (b : Nat → Int32) (n : Nat) : Nat → Nat
  | 0 => rn isBl b n 0
  | j + 1 => rn isBl b n (tkE b n (plT b n j))
def kdT (b : Nat → Int32) (n j : Nat) : Int := tkK b n (plT b n j)
def vlT (b : Nat → Int32) (n j : Nat) : Int := iv b (plT b n j) (rn isDg b n (plT b n j) - plT b n j)
def nmT (b : Nat → Int32) (n j : Nat) : Int64 := wv b (plT b n j) (rn isLt b n (plT b n j) - plT b n j)

/-! what a function of the state answers, goal first -/
def Ok {α : Type} (x : Option (α × HS)) (Q : α → HS → Prop) : Prop := ∃ r s, x = some (r, s) ∧ Q r s
def Okv (x : Option HS) (Q : HS → Prop) : Prop := ∃ s, x = some s ∧ Q s
theorem Ok.ret {α : Type} {r : α} {s : HS} {Q : α → HS → Prop} (h : Q r s) : Ok (some (r, s)) Q := ⟨r, s, rfl, h⟩
theorem Okv.ret {s : HS} {Q : HS → Prop} (h : Q s) : Okv (some s) Q := ⟨s, rfl, h⟩
theorem Ok.bd {α β : Type} {x : α} {f : α → Option (β × HS)} {Q : β → HS → Prop} (h : Ok (f x) Q) : Ok (Bd x f) Q := h
theorem Okv.bd {α : Type} {x : α} {f : α → Option HS} {Q : HS → Prop} (h : Okv (f x) Q) : Okv (Bd x f) Q := h
theorem Ok.cl {α β : Type} {x : Option (α × HS)} {f : α → HS → Option (β × HS)} {P : α → HS → Prop} {Q : β → HS → Prop} (h : Ok x P) (k : ∀ r s, P r s → Ok (f r s) Q) : Ok (Cl x f) Q := by
  obtain ⟨r, s, rfl, h⟩ := h
  exact k r s h
theorem Okv.cl {α : Type} {x : Option (α × HS)} {f : α → HS → Option HS} {P : α → HS → Prop} {Q : HS → Prop} (h : Ok x P) (k : ∀ r s, P r s → Okv (f r s) Q) : Okv (Cl x f) Q := by
  obtain ⟨r, s, rfl, h⟩ := h
  exact k r s h
theorem Ok.cv {β : Type} {x : Option HS} {f : HS → Option (β × HS)} {P : HS → Prop} {Q : β → HS → Prop} (h : Okv x P) (k : ∀ s, P s → Ok (f s) Q) : Ok (Cv x f) Q := by
  obtain ⟨s, rfl, h⟩ := h
  exact k s h
theorem Okv.cv {x : Option HS} {f : HS → Option HS} {P : HS → Prop} {Q : HS → Prop} (h : Okv x P) (k : ∀ s, P s → Okv (f s) Q) : Okv (Cv x f) Q := by
  obtain ⟨s, rfl, h⟩ := h
  exact k s h
/-- a call of which the answer is known exactly -/
theorem Ok.cle {α β : Type} {x : Option (α × HS)} {f : α → HS → Option (β × HS)} {r : α} {s : HS} {Q : β → HS → Prop} (e : x = some (r, s)) (k : Ok (f r s) Q) : Ok (Cl x f) Q := by subst e; exact k
theorem Okv.cle {α : Type} {x : Option (α × HS)} {f : α → HS → Option HS} {r : α} {s : HS} {Q : HS → Prop} (e : x = some (r, s)) (k : Okv (f r s) Q) : Okv (Cl x f) Q := by subst e; exact k
theorem Ok.cve {β : Type} {x : Option HS} {f : HS → Option (β × HS)} {s : HS} {Q : β → HS → Prop} (e : x = some s) (k : Ok (f s) Q) : Ok (Cv x f) Q := by subst e; exact k
theorem Okv.cve {x : Option HS} {f : HS → Option HS} {s : HS} {Q : HS → Prop} (e : x = some s) (k : Okv (f s) Q) : Okv (Cv x f) Q := by subst e; exact k
theorem Ok.t {α : Type} {P : Prop} {dP : Decidable P} {A B : Option (α × HS)} {Q : α → HS → Prop} (c : P) (k : Ok A Q) : Ok (if P then A else B) Q := by rw [if_pos c]; exact k
theorem Ok.f {α : Type} {P : Prop} {dP : Decidable P} {A B : Option (α × HS)} {Q : α → HS → Prop} (c : ¬ P) (k : Ok B Q) : Ok (if P then A else B) Q := by rw [if_neg c]; exact k
theorem Okv.t {P : Prop} {dP : Decidable P} {A B : Option HS} {Q : HS → Prop} (c : P) (k : Okv A Q) : Okv (if P then A else B) Q := by rw [if_pos c]; exact k
theorem Okv.f {P : Prop} {dP : Decidable P} {A B : Option HS} {Q : HS → Prop} (c : ¬ P) (k : Okv B Q) : Okv (if P then A else B) Q := by rw [if_neg c]; exact k
theorem Ok.i {α : Type} {P : Prop} {dP : Decidable P} {A B : Option (α × HS)} {Q : α → HS → Prop} (k1 : P → Ok A Q) (k2 : ¬ P → Ok B Q) : Ok (if P then A else B) Q := by
  by_cases c : P
  · rw [if_pos c]; exact k1 c
  · rw [if_neg c]; exact k2 c
theorem Okv.i {P : Prop} {dP : Decidable P} {A B : Option HS} {Q : HS → Prop} (k1 : P → Okv A Q) (k2 : ¬ P → Okv B Q) : Okv (if P then A else B) Q := by
  by_cases c : P
  · rw [if_pos c]; exact k1 c
  · rw [if_neg c]; exact k2 c
theorem Ok.mono {α : Type} {x : Option (α × HS)} {P Q : α → HS → Prop} (h : Ok x P) (k : ∀ r s, P r s → Q r s) : Ok x Q := by
  obtain ⟨r, s, e, h⟩ := h
  exact ⟨r, s, e, k r s h⟩
theorem Okv.mono {x : Option HS} {P Q : HS → Prop} (h : Okv x P) (k : ∀ s, P s → Q s) : Okv x Q := by
  obtain ⟨s, e, h⟩ := h
  exact ⟨s, e, k s h⟩
/-! reads behind stores -/
theorem rI_s {σ : HS} {i k : Nat} {v : Int32} : (hI σ i k v).1 i k = v := hI_s
theorem rI_k {σ : HS} {i k j : Nat} {v : Int32} (h : j ≠ k) : (hI σ i k v).1 i j = σ.1 i j := hI_n h
theorem rI_i {σ : HS} {i k a j : Nat} {v : Int32} (h : a ≠ i) : (hI σ i k v).1 a j = σ.1 a j := congrFun (hI_o h) j
theorem rL_1 {σ : HS} {i k : Nat} {v : Int64} : (hL σ i k v).1 = σ.1 := rfl
theorem rL_i {σ : HS} {i k a : Nat} {v : Int64} (h : a ≠ i) : (hL σ i k v).2.1 a = σ.2.1 a := va_up_ne _ _ h
theorem rL_s {σ : HS} {i k : Nat} {v : Int64} : (hL σ i k v).2.1 i k = v := by
  show va_up σ.2.1 i (vp_updL (σ.2.1 i) k v) i k = v
  rw [va_up_self]
  exact if_pos rfl
theorem rL_k {σ : HS} {i k j : Nat} {v : Int64} (h : j ≠ k) : (hL σ i k v).2.1 i j = σ.2.1 i j := by
  show va_up σ.2.1 i (vp_updL (σ.2.1 i) k v) i j = _
  rw [va_up_self]
  exact if_neg h
theorem rA_s {σ : HS} {i j : Nat} {f : Nat → Int32} : (hA σ i f).1 i j = f j := congrFun hA_s j
theorem rA_i {σ : HS} {i a j : Nat} {f : Nat → Int32} (h : a ≠ i) : (hA σ i f).1 a j = σ.1 a j := congrFun (hA_o h) j
theorem rR_s {σ : HS} {k v : Nat} : (hR σ k v).2.2 k = v := va_up_self _ _ _
theorem rR_k {σ : HS} {k j v : Nat} (h : j ≠ k) : (hR σ k v).2.2 j = σ.2.2 j := va_up_ne _ _ h

/-! a token put down -/
def TK1 (x1 x2 x3 : Int32) (x4 : Int64) (σ σ1 : HS) : Prop := ∀ q : Nat, ((q : Int) ≠ (σ.1 236 10).toInt → σ1.1 239 q = σ.1 239 q ∧ σ1.1 240 q = σ.1 240 q ∧ σ1.1 241 q = σ.1 241 q ∧ σ1.2.1 242 q = σ.2.1 242 q) ∧ ((q : Int) = (σ.1 236 10).toInt → σ1.1 239 q = x1 ∧ σ1.1 240 q = x2 ∧ σ1.1 241 q = x3 ∧ σ1.2.1 242 q = x4)
theorem hLs9 {σ : HS} {i k : Nat} {v : Int64} : (hL σ i k v).2.1 i k = v := by
  show va_up σ.2.1 i _ i k = v
  simp [va_up, vp_updL]
theorem hLn9 {σ : HS} {i k j : Nat} {v : Int64} (h : j ≠ k) : (hL σ i k v).2.1 i j = σ.2.1 i j := by
  show va_up σ.2.1 i _ i j = _
  simp [va_up, vp_updL, h]
theorem tk1_of {σ : HS} {n1 n2 n3 n4 : Nat} {x1 x2 x3 z : Int32} {x4 : Int64} (h1 : (n1 : Int) = (σ.1 236 10).toInt) (h2 : (n2 : Int) = (σ.1 236 10).toInt) (h3 : (n3 : Int) = (σ.1 236 10).toInt) (h4 : (n4 : Int) = (σ.1 236 10).toInt) : TK1 x1 x2 x3 x4 σ (hI (hL (hI (hI (hI σ 239 n1 x1) 240 n2 x2) 241 n3 x3) 242 n4 x4) 236 10 z) := by
  intro q
  have e2 : n2 = n1 := by omega
  have e3 : n3 = n1 := by omega
  have e4 : n4 = n1 := by omega
  subst e2; subst e3; subst e4
  refine ⟨fun hq => ?_, fun hq => ?_⟩
  · have hn : q ≠ n4 := by omega
    exact ⟨(show (hI σ 239 n4 x1).1 239 q = _ from hI_n hn), (show (hI (hI σ 239 n4 x1) 240 n4 x2).1 240 q = _ from (hI_n hn)), (show (hI (hI (hI σ 239 n4 x1) 240 n4 x2) 241 n4 x3).1 241 q = _ from (hI_n hn)), (show (hL (hI (hI (hI σ 239 n4 x1) 240 n4 x2) 241 n4 x3) 242 n4 x4).2.1 242 q = _ from hLn9 hn)⟩
  · have hn : q = n4 := by omega
    subst hn
    exact ⟨(show (hI σ 239 q x1).1 239 q = _ from hI_s), (show (hI (hI σ 239 q x1) 240 q x2).1 240 q = _ from hI_s), (show (hI (hI (hI σ 239 q x1) 240 q x2) 241 q x3).1 241 q = _ from hI_s), (show (hL (hI (hI (hI σ 239 q x1) 240 q x2) 241 q x3) 242 q x4).2.1 242 q = _ from hLs9)⟩
/-! the reference's tokens -/
def bM (σ : HS) (i : Nat) : Int32 := (σ.1 238 i) &&& 255
def nM (σ : HS) : Nat := (σ.1 236 4).toInt.toNat
def TKm (b : Nat → Int32) (n : Nat) (j : Int) (σ : HS) : Prop := ∀ q : Nat, (q : Int) < j → (σ.1 239 q).toInt = kdT b n q ∧ (σ.1 240 q).toInt = plT b n q ∧ (kdT b n q = 2 → (σ.1 241 q).toInt = vlT b n q) ∧ (kdT b n q = 1 → σ.2.1 242 q = nmT b n q)
theorem TKm.zero {b : Nat → Int32} {n : Nat} {j : Int} {σ : HS} (h : j ≤ 0) : TKm b n j σ := fun q hq => absurd hq (by omega)
theorem TKm.add {b : Nat → Int32} {n : Nat} {j j1 : Int} {σ σ1 : HS} {x1 x2 x3 : Int32} {x4 : Int64} (h : TKm b n j σ) (ht : TK1 x1 x2 x3 x4 σ σ1) (ej : (σ.1 236 10).toInt = j) (h0 : 0 ≤ j) (e1j : j1 = j + 1) (e1 : x1.toInt = kdT b n j.toNat) (e2 : x2.toInt = plT b n j.toNat) (e3 : kdT b n j.toNat = 2 → x3.toInt = vlT b n j.toNat) (e4 : kdT b n j.toNat = 1 → x4 = nmT b n j.toNat) : TKm b n j1 σ1 := by
  intro q hq
  by_cases e : (q : Int) = j
  · obtain ⟨a1, a2, a3, a4⟩ := (ht q).2 (by omega)
    have eq : j.toNat = q := by omega
    rw [eq] at e1 e2 e3 e4
    rw [a1, a2, a3, a4]
    exact ⟨e1, e2, e3, e4⟩
  · obtain ⟨a1, a2, a3, a4⟩ := (ht q).1 (by omega)
    rw [a1, a2, a3, a4]
    exact h q (by omega)
/-- every token up to the first END is told rightly -/
def TKA (b : Nat → Int32) (n : Nat) (σ : HS) : Prop := ∀ q : Nat, q ≤ 400 → (∀ p, p < q → kdT b n p ≠ 0) → (σ.1 239 q).toInt = kdT b n q ∧ (σ.1 240 q).toInt = plT b n q ∧ (kdT b n q = 2 → (σ.1 241 q).toInt = vlT b n q) ∧ (kdT b n q = 1 → σ.2.1 242 q = nmT b n q)
theorem TKm.full {b : Nat → Int32} {n : Nat} {j : Int} {σ : HS} (h : TKm b n j σ) (hj : 401 ≤ j) : TKA b n σ := fun q hq _ => h q (by omega)
theorem TKm.fin {b : Nat → Int32} {n : Nat} {j : Int} {σ : HS} (h : TKm b n (j + 1) σ) (hj : 0 ≤ j) (e : kdT b n j.toNat = 0) : TKA b n σ := fun q _ hp => by
  by_cases c : (q : Int) < j + 1
  · exact h q c
  · exact absurd e (hp _ (by omega))
/-! one token by its first byte -/
theorem kd_end {b : Nat → Int32} {n j i : Nat} (hp : plT b n j = i) (h : n ≤ i) : kdT b n j = 0 := by
  unfold kdT tkK
  rw [hp, if_pos h]
theorem kd_lt {b : Nat → Int32} {n j i e : Nat} (hp : plT b n j = i) (h : i < n) (hl : isLt (b i) = true) (he : rn isLt b n i = e) : kdT b n j = (if i + 8 < e then 3 else if kwF keyL (wv b i (e - i)) < 20 then 20 + (kwF keyL (wv b i (e - i)) : Int) else 1) ∧ plT b n (j + 1) = rn isBl b n e ∧ nmT b n j = wv b i (e - i) := by
  unfold kdT nmT
  refine ⟨?_, ?_, ?_⟩
  · unfold tkK
    rw [hp, if_neg (by omega), if_pos hl, he]
  · show rn isBl b n (tkE b n (plT b n j)) = _
    unfold tkE
    rw [hp, if_neg (by omega), if_pos hl, he]
  · rw [hp, he]
theorem kd_dg {b : Nat → Int32} {n j i e : Nat} (hp : plT b n j = i) (h : i < n) (hl : ¬ isLt (b i) = true) (hd : isDg (b i) = true) (he : rn isDg b n i = e) : kdT b n j = (if i + 4 < e then 3 else 2) ∧ plT b n (j + 1) = rn isBl b n e ∧ vlT b n j = iv b i (e - i) := by
  unfold kdT vlT
  refine ⟨?_, ?_, ?_⟩
  · unfold tkK
    rw [hp, if_neg (by omega), if_neg hl, if_pos hd, he]
  · show rn isBl b n (tkE b n (plT b n j)) = _
    unfold tkE
    rw [hp, if_neg (by omega), if_neg hl, if_pos hd, he]
  · rw [hp, he]
theorem kd_sg {b : Nat → Int32} {n j i : Nat} (hp : plT b n j = i) (h : i < n) (hl : ¬ isLt (b i) = true) (hd : ¬ isDg (b i) = true) : kdT b n j = sgn (b i).toInt ∧ plT b n (j + 1) = rn isBl b n (i + 1) := by
  unfold kdT
  refine ⟨?_, ?_⟩
  · unfold tkK
    rw [hp, if_neg (by omega), if_neg hl, if_neg hd]
  · show rn isBl b n (tkE b n (plT b n j)) = _
    unfold tkE
    rw [hp, if_neg (by omega), if_neg hl, if_neg hd]
theorem isBl_of {c : Int32} (h : c.toInt = 9 ∨ c.toInt = 10 ∨ c.toInt = 13 ∨ c.toInt = 32) : isBl c = true := by
  unfold isBl
  rcases h with h | h | h | h <;> rw [h] <;> rfl
theorem isBl_no {c : Int32} (h : c.toInt ≠ 9 ∧ c.toInt ≠ 10 ∧ c.toInt ≠ 13 ∧ c.toInt ≠ 32) : ¬ isBl c = true := by
  unfold isBl
  simp only [Bool.or_eq_true, beq_iff_eq]
  omega
theorem isLt_iff {c : Int32} : isLt c = true ↔ 97 ≤ c.toInt ∧ c.toInt ≤ 122 := by
  unfold isLt
  simp only [Bool.and_eq_true, decide_eq_true_eq]
theorem isDg_iff {c : Int32} : isDg c = true ↔ 48 ≤ c.toInt ∧ c.toInt ≤ 57 := by
  unfold isDg
  simp only [Bool.and_eq_true, decide_eq_true_eq]
theorem sgn_rg (c : Int) : 3 ≤ sgn c ∧ sgn c ≤ 15 := by
  unfold sgn
  repeat' split
  all_goals omega
/-! the words' numbers, one after the other -/
def kwU (k : Nat) (v : Int64) : Int := if kwF (keyL.take k) v < k then 20 + (kwF (keyL.take k) v : Int) else 1
theorem kwF_app {v x : Int64} : ∀ l : List Int64, kwF (l ++ [x]) v = if kwF l v < l.length then kwF l v else if x = v then l.length else l.length + 1 := by
  intro l
  induction l with
  | nil => show (if x = v then 0 else 0 + 1) = _; simp [kwF]
  | cons y l ih =>
    show (if y = v then 0 else kwF (l ++ [x]) v + 1) = if (if y = v then 0 else kwF l v + 1) < l.length + 1 then (if y = v then 0 else kwF l v + 1) else if x = v then l.length + 1 else l.length + 1 + 1
    by_cases e : y = v
    · simp [e]
    · rw [if_neg e, if_neg e, ih]
      by_cases c : kwF l v < l.length
      · rw [if_pos c, if_pos (by omega)]
      · rw [if_neg c, if_neg (show ¬ kwF l v + 1 < l.length + 1 by omega)]
        split <;> rfl
theorem kwF_le {v : Int64} : ∀ l : List Int64, kwF l v ≤ l.length := by
  intro l
  induction l with
  | nil => exact Nat.le_refl _
  | cons y l ih =>
    show (if y = v then 0 else kwF l v + 1) ≤ l.length + 1
    split <;> omega
theorem kw_hit : ∀ k, k < 20 → kwU (k + 1) (keyL.getD k 0) = 20 + (k : Int) := by decide +kernel
theorem key_take : ∀ k, k < 20 → keyL.take (k + 1) = keyL.take k ++ [keyL.getD k 0] := by decide +kernel
theorem key_len : ∀ k, k < 20 → (keyL.take k).length = k := by decide +kernel
theorem kw_miss {k : Nat} {v : Int64} (hk : k < 20) (h : keyL.getD k 0 ≠ v) : kwU (k + 1) v = kwU k v := by
  unfold kwU
  have l := key_len k hk
  have le := kwF_le (v := v) (keyL.take k)
  rw [key_take k hk, kwF_app, l, if_neg h]
  rw [l] at le
  by_cases c : kwF (keyL.take k) v < k
  · rw [if_pos c, if_pos (by omega), if_pos c]
  · rw [if_neg c, if_neg (by omega), if_neg c]
theorem kw_zero {v : Int64} : kwU 0 v = 1 := by unfold kwU; rw [if_neg (by omega)]
theorem kw_all {v : Int64} : kwU 20 v = if kwF keyL v < 20 then 20 + (kwF keyL v : Int) else 1 := by
  unfold kwU
  rw [show keyL.take 20 = keyL from rfl]
def KEY (σ : HS) : Prop := ∀ k, k < 20 → σ.2.1 243 k = keyL.getD k 0

def bI (b : Bool) : Int32 := if b then 1 else 0
theorem e_X12_byteAt {x : Int32} {σ : HS} (h0 : 0 ≤ x.toInt) (h1 : (σ.1 236 4).toInt ≤ 2000) : f_X12_byteAt x σ = some (byt σ x, σ) := by
  unfold f_X12_byteAt byt
  by_cases c : x.toInt < (σ.1 236 4).toInt
  · rw [if_pos c, if_pos c, if_pos ⟨h0, by omega⟩]
  · rw [if_neg c, if_neg c]
theorem e_X12_isDigit {x : Int32} {σ : HS} : f_X12_isDigit x σ = some (bI (isDg x), σ) := by
  unfold f_X12_isDigit isDg bI
  by_cases c : x.toInt < 48
  · rw [if_pos c]; simp; omega
  · by_cases c2 : 57 < x.toInt
    · rw [if_neg c, if_pos c2]; simp; omega
    · rw [if_neg c, if_neg c2]; simp; omega
theorem e_X12_isLetter {x : Int32} {σ : HS} : f_X12_isLetter x σ = some (bI (isLt x), σ) := by
  unfold f_X12_isLetter isLt bI
  by_cases c : x.toInt < 97
  · rw [if_pos c]; simp; omega
  · by_cases c2 : 122 < x.toInt
    · rw [if_neg c, if_pos c2]; simp; omega
    · rw [if_neg c, if_neg c2]; simp; omega
def tokS (x1 x2 x3 : Int32) (x4 : Int64) (σ : HS) : HS := hI (hL (hI (hI (hI σ 239 (σ.1 236 10).toInt.toNat x1) 240 (σ.1 236 10).toInt.toNat x2) 241 (σ.1 236 10).toInt.toNat x3) 242 (σ.1 236 10).toInt.toNat x4) 236 10 ((σ.1 236 10) + 1)
theorem e_X12_token {x1 x2 x3 : Int32} {x4 : Int64} {σ : HS} (h : 0 ≤ (σ.1 236 10).toInt ∧ (σ.1 236 10).toInt < 403) : f_X12_token x1 x2 x3 x4 σ = some (tokS x1 x2 x3 x4 σ) := by
  unfold f_X12_token Bd
  simp only [rI_i (show (236 : Nat) ≠ 239 by decide), rI_i (show (236 : Nat) ≠ 240 by decide), rI_i (show (236 : Nat) ≠ 241 by decide), rL_1, if_pos h]
  rfl
def sg32 (c : Int32) : Int32 := if c.toInt = 60 then 13 else if c.toInt = 47 then 15 else if c.toInt = 42 then 10 else if c.toInt = 45 then 9 else if c.toInt = 43 then 8 else if c.toInt = 59 then 4 else if c.toInt = 61 then 5 else if c.toInt = 40 then 6 else if c.toInt = 41 then 7 else 3
theorem e_X12_sign {x1 x2 x3 : Int32} {σ : HS} (h : 0 ≤ (σ.1 236 10).toInt ∧ (σ.1 236 10).toInt < 403) : ∃ v : Int32, v.toInt = sgn x2.toInt ∧ f_X12_sign x1 x2 x3 σ = some (1, tokS v x1 0 0 σ) := by
  unfold f_X12_sign
  simp only [f_X12_sign_43, f_X12_sign_55, f_X12_sign_65, f_X12_sign_75, f_X12_sign_85, f_X12_sign_95, e_X12_token h, Cv]
  refine ⟨sg32 x2, ?_, ?_⟩
  · unfold sg32 sgn
    repeat' split
    all_goals first | rfl | omega
  · unfold sg32
    by_cases c60 : x2.toInt = 60
    · simp [c60]
    by_cases c47 : x2.toInt = 47
    · simp [c47]
    by_cases c42 : x2.toInt = 42
    · simp [c42]
    by_cases c45 : x2.toInt = 45
    · simp [c45]
    by_cases c43 : x2.toInt = 43
    · simp [c43]
    by_cases c59 : x2.toInt = 59
    · simp [c59]
    by_cases c61 : x2.toInt = 61
    · simp [c61]
    by_cases c40 : x2.toInt = 40
    · simp [c40]
    by_cases c41 : x2.toInt = 41
    · simp [c41]
    simp [c60, c47, c42, c45, c43, c59, c61, c40, c41]

theorem nIt {n : Nat} (h : n ≤ 100000) : (nI n).toInt = (n : Int) := nI_toInt (by omega)
theorem nItn {n : Nat} (h : n ≤ 100000) : (nI n).toInt.toNat = n := by rw [nIt h]; rfl
theorem nI0 : (0 : Int32) = nI 0 := nI_0.symm
theorem byt_nI {σ : HS} {k : Nat} (hk : k ≤ 100000) (h1 : 0 ≤ (σ.1 236 4).toInt) : byt σ (nI k) = if k < nM σ then bM σ k else 0 := by
  unfold byt bM nM
  rw [nIt hk]
  by_cases c : (k : Int) < (σ.1 236 4).toInt
  · rw [if_pos c, if_pos (by omega)]; rfl
  · rw [if_neg c, if_neg (by omega)]
/-- the run's end lies behind, or there is none more -/
theorem rn_stop {p : Int32 → Bool} {b : Nat → Int32} {n i : Nat} (h : rn p b n i = i) : n ≤ i ∨ ¬ p (b i) = true := by
  by_cases c : i < n
  · right
    intro hp
    have h1 := rn_in (n := n) c hp
    have h2 := (rn_le (p := p) (b := b) (n := n) (i := i + 1)).1
    omega
  · left; omega
theorem rn_go {p : Int32 → Bool} {b : Nat → Int32} {n i : Nat} (h : i < rn p b n i) : i < n ∧ p (b i) = true ∧ rn p b n (i + 1) = rn p b n i := by
  have c : i < n := by
    by_cases c : i < n
    · exact c
    · have := rn_out (p := p) (b := b) (n := n) (i := i) (Or.inl (by omega)); omega
  have hp : p (b i) = true := by
    by_cases hp : p (b i) = true
    · exact hp
    · have := rn_out (p := p) (b := b) (n := n) (i := i) (Or.inr hp); omega
  exact ⟨c, hp, (rn_in c hp).symm⟩
section CUTM
variable {k7 : Int32 → HS → Option HS} {σ : HS}
/-- what stands in the state while one token is cut -/
def CM (σ : HS) : Prop := 0 ≤ (σ.1 236 4).toInt ∧ (σ.1 236 4).toInt ≤ 2000
theorem e_cut_85 (hσ : CM σ) {i e : Nat} (hi : i ≤ 2000) (he : rn isLt (bM σ) (nM σ) i = e) : ∀ (d m N : Nat), i + m + d = e → d < N → f_X12_cut_85 k7 N (nI i) (nI m) (wv (bM σ) i (min m 8)) σ = f_X12_cut_135 k7 (nI i) (nI (e - i)) (wv (bM σ) i (min (e - i) 8)) (if 8 < e - i then 3 else 1) σ := by
  have hn : nM σ ≤ 2000 := by unfold nM; have := hσ.2; omega
  have hen : e ≤ 2000 := by
    have := (rn_le (p := isLt) (b := bM σ) (n := nM σ) (i := i))
    by_cases c : i ≤ nM σ
    · have := this.2 c; omega
    · have := rn_out (p := isLt) (b := bM σ) (n := nM σ) (i := i) (Or.inl (by omega)); omega
  -- within the run every place goes on to the same end
  have run : ∀ m, i + m ≤ e → rn isLt (bM σ) (nM σ) (i + m) = e := by
    intro m
    induction m with
    | zero => intro _; exact he
    | succ m ih =>
      intro h
      have h1 := ih (by omega)
      have h2 := rn_go (p := isLt) (b := bM σ) (n := nM σ) (i := i + m) (by omega)
      rw [show i + (m + 1) = i + m + 1 by omega, h2.2.2, h1]
  intro d
  induction d with
  | zero =>
    intro m N h1 hN
    obtain ⟨N, rfl⟩ : ∃ q, N = q + 1 := ⟨N - 1, by omega⟩
    show b_X12_cut_85 k7 (f_X12_cut_85 k7 N) (nI i) (nI m) _ σ = _
    unfold b_X12_cut_85
    have hs := rn_stop (run m (by omega) |>.trans (by omega : e = i + m))
    have hz : isLt (byt σ (nI (i + m))) = false := by
      rw [byt_nI (by omega) hσ.1]
      rcases hs with hs | hs
      · rw [if_neg (by omega)]; rfl
      · by_cases c : i + m < nM σ
        · rw [if_pos c]; simpa using hs
        · rw [if_neg c]; rfl
    rw [nI_add, e_X12_byteAt (by rw [nIt (by omega)]; omega) hσ.2]
    simp only [Cl, e_X12_isLetter, hz]
    rw [show e - i = m by omega]
    rw [if_pos (show (bI false).toInt = 0 from rfl), nIt (by omega)]
    by_cases c : 8 < m
    · rw [if_pos c, if_pos (by omega)]
    · rw [if_neg c, if_neg (by omega)]
  | succ d ih =>
    intro m N h1 hN
    obtain ⟨N, rfl⟩ : ∃ q, N = q + 1 := ⟨N - 1, by omega⟩
    show b_X12_cut_85 k7 (f_X12_cut_85 k7 N) (nI i) (nI m) _ σ = _
    unfold b_X12_cut_85
    have hg := rn_go (p := isLt) (b := bM σ) (n := nM σ) (i := i + m) (by rw [run m (by omega)]; omega)
    have hb : byt σ (nI (i + m)) = bM σ (i + m) := by rw [byt_nI (by omega) hσ.1, if_pos hg.1]
    have hB : f_X12_byteAt (nI (i + m)) σ = some (bM σ (i + m), σ) := by rw [e_X12_byteAt (by rw [nIt (by omega)]; omega) hσ.2, hb]
    simp only [Cl, nI_add, hB, e_X12_isLetter, hg.2.1]
    rw [if_neg (show ¬ (bI true).toInt = 0 by decide), nIt (by omega)]
    have ih1 := ih (m + 1) N (by omega) (by omega)
    by_cases c : m < 8
    · rw [if_pos (by omega)]
      have ha : f_X12_appends (wv (bM σ) i (min m 8)) (bM σ (i + m)) σ = some (wv (bM σ) i (min (m + 1) 8), σ) := by
        have hl := isLt_iff.mp hg.2.1
        unfold f_X12_appends
        rw [if_neg (by omega), show min (m + 1) 8 = m + 1 by omega, show min m 8 = m by omega]
        rfl
      simp only [ha, Cl, f_X12_cut_118, Bd, nI_1]
      exact ih1
    · rw [if_neg (by omega)]
      simp only [f_X12_cut_118, Bd, nI_1]
      rw [show min (m + 1) 8 = min m 8 by omega] at ih1
      exact ih1
theorem e_cut_208 (hσ : CM σ) {i e : Nat} (hi : i ≤ 2000) (he : rn isDg (bM σ) (nM σ) i = e) : ∀ (d m N : Nat) (v : Int32), i + m + d = e → d < N → v.toInt = iv (bM σ) i (min m 4) → ∃ w : Int32, w.toInt = iv (bM σ) i (min (e - i) 4) ∧ f_X12_cut_208 k7 N (nI i) (nI m) v σ = f_X12_cut_261 k7 (nI i) (nI (e - i)) w (if 4 < e - i then 3 else 2) σ := by
  have hn : nM σ ≤ 2000 := by unfold nM; have := hσ.2; omega
  have hen : e ≤ 2000 := by
    have := (rn_le (p := isDg) (b := bM σ) (n := nM σ) (i := i))
    by_cases c : i ≤ nM σ
    · have := this.2 c; omega
    · have := rn_out (p := isDg) (b := bM σ) (n := nM σ) (i := i) (Or.inl (by omega)); omega
  have run : ∀ m, i + m ≤ e → rn isDg (bM σ) (nM σ) (i + m) = e := by
    intro m
    induction m with
    | zero => intro _; exact he
    | succ m ih =>
      intro h
      have h1 := ih (by omega)
      have h2 := rn_go (p := isDg) (b := bM σ) (n := nM σ) (i := i + m) (by omega)
      rw [show i + (m + 1) = i + m + 1 by omega, h2.2.2, h1]
  have dig : ∀ m, i + m < e → 48 ≤ (bM σ (i + m)).toInt ∧ (bM σ (i + m)).toInt ≤ 57 := fun m h => isDg_iff.mp (rn_go (p := isDg) (b := bM σ) (n := nM σ) (i := i + m) (by rw [run m (by omega)]; omega)).2.1
  have ivb : ∀ m, i + m ≤ e → m ≤ 4 → 0 ≤ iv (bM σ) i m ∧ iv (bM σ) i m < 10 ^ m := by
    intro m
    induction m with
    | zero => intro _ _; exact ⟨Int.le_refl _, (by decide : (0 : Int) < 10 ^ 0)⟩
    | succ m ih =>
      intro h h4
      have h1 := ih (by omega) (by omega)
      have h2 := dig m (by omega)
      show 0 ≤ 10 * iv (bM σ) i m + ((bM σ (i + m)).toInt - 48) ∧ 10 * iv (bM σ) i m + ((bM σ (i + m)).toInt - 48) < 10 ^ (m + 1)
      rw [Int.pow_succ]
      omega
  intro d
  induction d with
  | zero =>
    intro m N v h1 hN hv
    obtain ⟨N, rfl⟩ : ∃ q, N = q + 1 := ⟨N - 1, by omega⟩
    refine ⟨v, by rw [show e - i = m by omega]; exact hv, ?_⟩
    show b_X12_cut_208 k7 (f_X12_cut_208 k7 N) (nI i) (nI m) _ σ = _
    unfold b_X12_cut_208
    have hs := rn_stop (run m (by omega) |>.trans (by omega : e = i + m))
    have hz : isDg (byt σ (nI (i + m))) = false := by
      rw [byt_nI (by omega) hσ.1]
      rcases hs with hs | hs
      · rw [if_neg (by omega)]; rfl
      · by_cases c : i + m < nM σ
        · rw [if_pos c]; simpa using hs
        · rw [if_neg c]; rfl
    rw [nI_add, e_X12_byteAt (by rw [nIt (by omega)]; omega) hσ.2]
    simp only [Cl, e_X12_isDigit, hz]
    rw [show e - i = m by omega]
    rw [if_pos (show (bI false).toInt = 0 from rfl), nIt (by omega)]
    by_cases c : 4 < m
    · rw [if_pos c, if_pos (by omega)]
    · rw [if_neg c, if_neg (by omega)]
  | succ d ih =>
    intro m N v h1 hN hv
    obtain ⟨N, rfl⟩ : ∃ q, N = q + 1 := ⟨N - 1, by omega⟩
    have hg := rn_go (p := isDg) (b := bM σ) (n := nM σ) (i := i + m) (by rw [run m (by omega)]; omega)
    have hb : byt σ (nI (i + m)) = bM σ (i + m) := by rw [byt_nI (by omega) hσ.1, if_pos hg.1]
    have hd := dig m (by omega)
    by_cases c : m < 4
    · have hvb := ivb m (by omega) (by omega)
      have h4 : (10 : Int) ^ m ≤ 1000 := by
        rcases (show m = 0 ∨ m = 1 ∨ m = 2 ∨ m = 3 by omega) with rfl | rfl | rfl | rfl <;> decide
      rw [show min m 4 = m by omega] at hv
      have hm : ((10 : Int32) * v).toInt = 10 * v.toInt := i32_mul (x := 10) (by show _ ≤ (10 : Int) * v.toInt ∧ (10 : Int) * v.toInt ≤ _; omega)
      have ha : ((10 : Int32) * v + bM σ (i + m)).toInt = 10 * v.toInt + (bM σ (i + m)).toInt := by rw [i32_add (by rw [hm]; omega), hm]
      have hs : ((10 : Int32) * v + bM σ (i + m) - 48).toInt = 10 * v.toInt + (bM σ (i + m)).toInt - 48 := by
        have := i32_sub (x := (10 : Int32) * v + bM σ (i + m)) (y := 48) (by rw [ha, show (48 : Int32).toInt = 48 from rfl]; omega)
        rw [this, ha]; rfl
      obtain ⟨w, hw, e1⟩ := ih (m + 1) N ((10 : Int32) * v + bM σ (i + m) - 48) (by omega) (by omega) (by
        rw [hs, show min (m + 1) 4 = m + 1 by omega, hv]
        show _ = 10 * iv (bM σ) i m + ((bM σ (i + m)).toInt - 48)
        omega)
      refine ⟨w, hw, ?_⟩
      rw [← e1]
      show b_X12_cut_208 k7 (f_X12_cut_208 k7 N) (nI i) (nI m) _ σ = _
      unfold b_X12_cut_208
      have hB : f_X12_byteAt (nI (i + m)) σ = some (bM σ (i + m), σ) := by rw [e_X12_byteAt (by rw [nIt (by omega)]; omega) hσ.2, hb]
      simp only [Cl, nI_add, hB, e_X12_isDigit, hg.2.1]
      rw [if_neg (show ¬ (bI true).toInt = 0 by decide), nIt (by omega), if_pos (by omega)]
      simp only [f_X12_cut_244, Bd, nI_1]
    · obtain ⟨w, hw, e1⟩ := ih (m + 1) N v (by omega) (by omega) (by rw [show min (m + 1) 4 = min m 4 by omega]; exact hv)
      refine ⟨w, hw, ?_⟩
      rw [← e1]
      show b_X12_cut_208 k7 (f_X12_cut_208 k7 N) (nI i) (nI m) _ σ = _
      unfold b_X12_cut_208
      have hB : f_X12_byteAt (nI (i + m)) σ = some (bM σ (i + m), σ) := by rw [e_X12_byteAt (by rw [nIt (by omega)]; omega) hσ.2, hb]
      simp only [Cl, nI_add, hB, e_X12_isDigit, hg.2.1]
      rw [if_neg (show ¬ (bI true).toInt = 0 by decide), nIt (by omega), if_neg (by omega)]
      simp only [f_X12_cut_244, Bd, nI_1]
theorem lgc0 {x y : Int64} : (lg_cmp x y).toInt = 0 ↔ x = y := by
  unfold lg_cmp
  by_cases e : x = y
  · subst e
    simp
  · rw [if_neg e]
    split
    · exact ⟨fun h => absurd h (by decide), fun h => absurd h e⟩
    · exact ⟨fun h => absurd h (by decide), fun h => absurd h e⟩
theorem e_cut_146 (hK : KEY σ) {i m : Int32} {v : Int64} : ∀ (d k N : Nat) (y : Int32), k + d = 20 → d < N → y.toInt = kwU k v → ∃ w : Int32, w.toInt = kwU 20 v ∧ f_X12_cut_146 k7 N i m v y (nI k) σ = f_X12_cut_179 k7 i m v w σ := by
  intro d
  induction d with
  | zero =>
    intro k N y h1 hN hy
    obtain ⟨N, rfl⟩ : ∃ q, N = q + 1 := ⟨N - 1, by omega⟩
    refine ⟨y, by rw [show 20 = k by omega]; exact hy, ?_⟩
    show b_X12_cut_146 k7 (f_X12_cut_146 k7 N) i m v y (nI k) σ = _
    unfold b_X12_cut_146
    rw [nIt (by omega), if_neg (by omega)]
  | succ d ih =>
    intro k N y h1 hN hy
    obtain ⟨N, rfl⟩ : ∃ q, N = q + 1 := ⟨N - 1, by omega⟩
    by_cases c : keyL.getD k 0 = v
    · have hz : ((20 : Int32) + nI k).toInt = 20 + (k : Int) := by
        have := i32_add (x := 20) (y := nI k) (by rw [nIt (by omega)]; show _ ≤ (20 : Int) + k ∧ (20 : Int) + k ≤ _; omega)
        rw [this, nIt (by omega)]; rfl
      obtain ⟨w, hw, e1⟩ := ih (k + 1) N ((20 : Int32) + nI k) (by omega) (by omega) (by rw [hz, ← c, kw_hit k (by omega)])
      refine ⟨w, hw, ?_⟩
      rw [← e1]
      show b_X12_cut_146 k7 (f_X12_cut_146 k7 N) i m v y (nI k) σ = _
      unfold b_X12_cut_146
      rw [nIt (by omega), if_pos (by omega), if_pos (by omega)]
      rw [if_pos (by rw [lgc0]; show σ.2.1 243 k = v; rw [hK k (by omega)]; exact c)]
      simp only [Bd, f_X12_cut_173, nI_1]
    · obtain ⟨w, hw, e1⟩ := ih (k + 1) N y (by omega) (by omega) (by rw [kw_miss (by omega) c]; exact hy)
      refine ⟨w, hw, ?_⟩
      rw [← e1]
      show b_X12_cut_146 k7 (f_X12_cut_146 k7 N) i m v y (nI k) σ = _
      unfold b_X12_cut_146
      rw [nIt (by omega), if_pos (by omega), if_pos (by omega)]
      rw [if_neg (by rw [lgc0]; show ¬ σ.2.1 243 k = v; rw [hK k (by omega)]; exact c)]
      simp only [Bd, f_X12_cut_173, nI_1]
end CUTM
def LC : List Nat := [239, 240, 241, 242, 1010]
theorem tokS_on {x1 x2 x3 : Int32} {x4 : Int64} {σ : HS} : onm LC σ (tokS x1 x2 x3 x4 σ) := onm.F (onm.L (onm.I (onm.I (onm.I onm.rf rfl) rfl) rfl) rfl) rfl
theorem tokS_n {x1 x2 x3 : Int32} {x4 : Int64} {σ : HS} : (tokS x1 x2 x3 x4 σ).1 236 10 = σ.1 236 10 + 1 := rI_s
theorem tokS_t {x1 x2 x3 : Int32} {x4 : Int64} {σ : HS} (h : 0 ≤ (σ.1 236 10).toInt) : TK1 x1 x2 x3 x4 σ (tokS x1 x2 x3 x4 σ) := tk1_of (by omega) (by omega) (by omega) (by omega)
theorem LC.b {σ0 σ : HS} (h : onm LC σ0 σ) : bM σ = bM σ0 := by
  unfold bM
  rw [h.a (i := 238) rfl]
theorem LC.s {σ0 σ : HS} (h : onm LC σ0 σ) : σ.1 236 4 = σ0.1 236 4 := h.1 236 4 rfl
theorem LC.n {σ0 σ : HS} (h : onm LC σ0 σ) : nM σ = nM σ0 := by
  unfold nM
  rw [LC.s h]
theorem LC.c {σ0 σ : HS} (h : onm LC σ0 σ) (c : CM σ0) : CM σ := by
  unfold CM
  rw [LC.s h]
  exact c
theorem LC.k {σ0 σ : HS} (h : onm LC σ0 σ) (c : KEY σ0) : KEY σ := by
  unfold KEY
  rw [h.2.1 243 rfl]
  exact c
theorem bI_0 {b : Bool} : (bI b).toInt = 0 ↔ ¬ b = true := by cases b <;> decide
theorem w_cut_7 {σ0 : HS} (hC : CM σ0) (hK : KEY σ0) : ∀ (d N i j : Nat) (σ : HS), onm LC σ0 σ → (σ.1 236 10).toInt = j → j ≤ 401 → i ≤ nM σ0 → plT (bM σ0) (nM σ0) j = rn isBl (bM σ0) (nM σ0) i → TKm (bM σ0) (nM σ0) j σ → nM σ0 - i < d → d ≤ N → Okv (f_X12_cut_7 N (nI i) σ) (fun s => onm LC σ0 s ∧ TKA (bM σ0) (nM σ0) s) := by
  have hn : nM σ0 ≤ 2000 := by unfold nM; have := hC.2; omega
  intro d
  induction d with
  | zero => intro N i j σ _ _ _ _ _ _ h _; omega
  | succ d ih =>
    intro N i j σ ho hj hj1 hi hp hT hm hN
    obtain ⟨N, rfl⟩ : ∃ q, N = q + 1 := ⟨N - 1, by omega⟩
    have hσ := LC.c ho hC
    have hb := LC.b ho
    have hnn := LC.n ho
    have hs4 : (σ.1 236 4).toInt = (nM σ : Nat) := by unfold nM; have := hσ.1; omega
    -- a token put down, and on from the place e
    have tk : ∀ (e : Nat) (w v x : Int32) (name : Int64), e ≤ nM σ0 → i < e → w.toInt = kdT (bM σ0) (nM σ0) j → x.toInt = (plT (bM σ0) (nM σ0) j : Nat) → (kdT (bM σ0) (nM σ0) j = 2 → v.toInt = vlT (bM σ0) (nM σ0) j) → (kdT (bM σ0) (nM σ0) j = 1 → name = nmT (bM σ0) (nM σ0) j) → plT (bM σ0) (nM σ0) (j + 1) = rn isBl (bM σ0) (nM σ0) e → j ≤ 400 → Okv (f_X12_cut_7 N (nI e) (tokS w x v name σ)) (fun s => onm LC σ0 s ∧ TKA (bM σ0) (nM σ0) s) := by
      intro e w v x name he hie hw hx hv hnm hpl hj4
      have hj2 : ((tokS w x v name σ).1 236 10).toInt = ((j + 1 : Nat) : Int) := by
        rw [tokS_n, i32_add (by rw [hj, show (1 : Int32).toInt = 1 from rfl]; omega), hj]; rfl
      exact ih N e (j + 1) _ (ho.tr tokS_on) hj2 (by omega) he hpl (TKm.add hT (tokS_t (by omega)) hj (by omega) (by omega) hw hx hv hnm) (by omega) (by omega)
    show Okv (b_X12_cut_7 (f_X12_cut_7 N) (nI i) σ) _
    unfold b_X12_cut_7
    refine Okv.i (fun c => ?_) (fun c => ?_)
    · exact Okv.ret ⟨ho, TKm.full hT (by omega)⟩
    have hj4 : j ≤ 400 := by omega
    refine Okv.cle (e_X12_byteAt (by rw [nIt (by omega)]; omega) hσ.2) ?_
    rw [nIt (by omega)]
    refine Okv.i (fun c1 => ?_) (fun c1 => ?_)
    rotate_left
    · refine Okv.cve (e_X12_token (by omega)) (Okv.ret ⟨ho.tr tokS_on, ?_⟩)
      have hp2 : plT (bM σ0) (nM σ0) j = i := by rw [hp, rn_out (Or.inl (by omega))]
      have k0 := kd_end hp2 (by omega)
      exact TKm.fin (TKm.add hT (tokS_t (by omega)) hj (by omega) rfl (by rw [show ((j : Nat) : Int).toNat = j from rfl, k0]; rfl) (by rw [show ((j : Nat) : Int).toNat = j from rfl, hp2]; omega) (fun h => by rw [show ((j : Nat) : Int).toNat = j from rfl, k0] at h; omega) (fun h => by rw [show ((j : Nat) : Int).toNat = j from rfl, k0] at h; omega)) (by omega) k0
    have hin : i < nM σ0 := by omega
    have hby : byt σ (nI i) = bM σ0 i := by rw [byt_nI (by omega) hσ.1, if_pos (by omega), hb]
    rw [hby]
    simp only [f_X12_cut_67, f_X12_cut_291, Bd, nI_1]
    -- blanks
    have blank : isBl (bM σ0 i) = true → Okv (f_X12_cut_7 N (nI (i + 1)) σ) (fun s => onm LC σ0 s ∧ TKA (bM σ0) (nM σ0) s) := fun h => ih N (i + 1) j σ ho hj hj1 (by omega) (by rw [hp, rn_in hin h]) hT (by omega) (by omega)
    refine Okv.i (fun c2 => blank (isBl_of (Or.inl c2))) (fun c2 => ?_)
    refine Okv.i (fun c3 => blank (isBl_of (Or.inr (Or.inl c3)))) (fun c3 => ?_)
    refine Okv.i (fun c4 => blank (isBl_of (Or.inr (Or.inr (Or.inl c4))))) (fun c4 => ?_)
    refine Okv.i (fun c5 => blank (isBl_of (Or.inr (Or.inr (Or.inr c5))))) (fun c5 => ?_)
    have hp2 : plT (bM σ0) (nM σ0) j = i := by rw [hp, rn_out (Or.inr (isBl_no ⟨c2, c3, c4, c5⟩))]
    refine Okv.cle e_X12_isLetter ?_
    refine Okv.i (fun c6 => ?_) (fun c6 => ?_)
    · rw [bI_0] at c6
      refine Okv.cle e_X12_isDigit ?_
      refine Okv.i (fun c7 => ?_) (fun c7 => ?_)
      · rw [bI_0] at c7
        refine Okv.cle (e_X12_byteAt (by rw [nIt (by omega)]; omega) hσ.2) ?_
        obtain ⟨v, hv, e1⟩ := e_X12_sign (x1 := nI i) (x2 := bM σ0 i) (x3 := byt σ (nI (i + 1))) (σ := σ) (by omega)
        refine Okv.cle e1 ?_
        rw [nI_1]
        obtain ⟨k1, k2⟩ := kd_sg hp2 hin c6 c7
        have sr := sgn_rg (bM σ0 i).toInt
        exact tk (i + 1) v 0 (nI i) 0 (by omega) (by omega) (by rw [hv, k1]) (by rw [nIt (by omega), hp2]) (fun h => by omega) (fun h => by omega) k2 hj4
      · rw [bI_0, Classical.not_not] at c7
        generalize he : rn isDg (bM σ0) (nM σ0) i = e
        obtain ⟨k1, k2, k3⟩ := kd_dg hp2 hin c6 c7 he
        have g := rn_le (p := isDg) (b := bM σ0) (n := nM σ0) (i := i + 1)
        rw [← rn_in hin c7, he] at g
        have gu := g.2 (by omega)
        obtain ⟨w, hw, e1⟩ := e_cut_208 (k7 := f_X12_cut_7 N) hσ (i := i) (e := e) (by omega) (by rw [hb, hnn]; exact he) (e - i) 0 5000 0 (by omega) (by omega) rfl
        rw [nI0]
        rw [show f_X12_cut_208 (f_X12_cut_7 N) 5000 (nI i) (nI 0) (nI 0) σ = f_X12_cut_208 (f_X12_cut_7 N) 5000 (nI i) (nI 0) 0 σ from rfl, e1]
        unfold f_X12_cut_261
        refine Okv.cve (e_X12_token (by omega)) ?_
        simp only [Bd, f_X12_cut_291, nI_add]
        rw [show i + (e - i) = e by omega]
        rw [hb] at hw
        exact tk e _ w (nI i) 0 (by omega) (by omega) (by rw [k1]; split <;> split <;> first | rfl | omega) (by rw [nIt (by omega), hp2]) (fun h => by rw [hw, k3, show min (e - i) 4 = e - i by (rw [k1] at h; split at h <;> omega)]) (fun h => by rw [k1] at h; split at h <;> omega) k2 hj4
    · rw [bI_0, Classical.not_not] at c6
      generalize he : rn isLt (bM σ0) (nM σ0) i = e
      obtain ⟨k1, k2, k3⟩ := kd_lt hp2 hin c6 he
      have g := rn_le (p := isLt) (b := bM σ0) (n := nM σ0) (i := i + 1)
      rw [← rn_in hin c6, he] at g
      have gu := g.2 (by omega)
      have e1 := e_cut_85 (k7 := f_X12_cut_7 N) hσ (i := i) (e := e) (by omega) (by rw [hb, hnn]; exact he) (e - i) 0 5000 (by omega) (by omega)
      rw [nI0]
      rw [show f_X12_cut_85 (f_X12_cut_7 N) 5000 (nI i) (nI 0) 0 σ = f_X12_cut_85 (f_X12_cut_7 N) 5000 (nI i) (nI 0) (wv (bM σ) i (min 0 8)) σ from rfl, e1]
      unfold f_X12_cut_135
      rw [nIt (by omega)]
      have go : ∀ w : Int32, w.toInt = kdT (bM σ0) (nM σ0) j → Okv (f_X12_cut_179 (f_X12_cut_7 N) (nI i) (nI (e - i)) (wv (bM σ) i (min (e - i) 8)) w σ) (fun s => onm LC σ0 s ∧ TKA (bM σ0) (nM σ0) s) := by
        intro w hw
        unfold f_X12_cut_179
        refine Okv.cve (e_X12_token (by omega)) ?_
        simp only [Bd, f_X12_cut_291, nI_add]
        rw [show i + (e - i) = e by omega]
        exact tk e w 0 (nI i) _ (by omega) (by omega) hw (by rw [nIt (by omega), hp2]) (fun h => by
          exfalso
          rw [k1] at h
          split at h
          · omega
          · split at h <;> omega) (fun h => by
          rw [k3, hb, show min (e - i) 8 = e - i by (rw [k1] at h; split at h <;> omega)]) k2 hj4
      refine Okv.i (fun c8 => ?_) (fun c8 => ?_)
      · exact go _ (by rw [k1, if_pos (by omega), if_pos (by omega)]; rfl)
      · obtain ⟨w, hw, e2⟩ := e_cut_146 (k7 := f_X12_cut_7 N) (LC.k ho hK) (i := nI i) (m := nI (e - i)) (v := wv (bM σ) i (min (e - i) 8)) 20 0 5000 (if 8 < e - i then 3 else 1) rfl (by omega) (by rw [if_neg (by omega), kw_zero]; rfl)
        rw [nI0, e2]
        exact go w (by rw [hw, k1, if_neg (by omega), kw_all, hb, show min (e - i) 8 = e - i by omega])
theorem w_X12_cut {σ : HS} (hC : CM σ) (hK : KEY σ) : Okv (f_X12_cut σ) (fun s => onm LC σ s ∧ TKA (bM σ) (nM σ) s) := by
  unfold f_X12_cut
  refine Okv.bd ?_
  have o1 : onm LC σ (hI σ 236 10 0) := onm.F onm.rf rfl
  have := w_cut_7 hC hK (2001) 5000 0 0 (hI σ 236 10 0) o1 (by rw [rI_s]; rfl) (by omega) (by omega) rfl (TKm.zero (by omega)) (by unfold nM; have := hC.2; omega) (by omega)
  exact this

/-! the class's tokens -/
def stW : List Nat := [0, 6, 14, 20, 26, 32, 37, 43, 48, 51, 56, 61, 68, 73, 80, 85, 91, 94, 100, 107, 112]
def lnW : List Nat := [5, 7, 5, 5, 5, 4, 5, 4, 2, 4, 4, 6, 4, 6, 4, 5, 2, 5, 6, 4]
def sW (w : Nat) : Nat := stW.getD w 0
def lW (w : Nat) : Nat := lnW.getD w 0
theorem words : ∀ w, w < 20 → sW w + lW w < 112 ∧ (chS 0 (sW w + lW w)).toInt = 32 ∧ sW (w + 1) = sW w + lW w + 1 ∧ 1 ≤ lW w ∧ lW w ≤ 7 ∧ sW w ≤ 112 := by decide +kernel
theorem wordc : ∀ w, w < 20 → ∀ q, q < 8 → q < lW w → 97 ≤ (chS 0 (sW w + q)).toInt ∧ (chS 0 (sW w + q)).toInt ≤ 122 := by decide +kernel
/-- base 27 as an integer -/
def wvI (b : Nat → Int) (i : Nat) : Nat → Int
  | 0 => 0
  | m + 1 => 27 * wvI b i m + (b (i + m) - 96)
theorem wvI_inj {b c : Nat → Int} {i k : Nat} : ∀ (m n : Nat), (∀ q, q < m → 97 ≤ b (i + q) ∧ b (i + q) ≤ 122) → (∀ q, q < n → 97 ≤ c (k + q) ∧ c (k + q) ≤ 122) → wvI b i m = wvI c k n → m = n ∧ ∀ q, q < m → b (i + q) = c (k + q) := by
  have pos : ∀ {b : Nat → Int} {i : Nat} (m : Nat), (∀ q, q < m → 97 ≤ b (i + q) ∧ b (i + q) ≤ 122) → 0 ≤ wvI b i m ∧ (0 < m → 0 < wvI b i m) := by
    intro b i m
    induction m with
    | zero => intro _; exact ⟨Int.le_refl _, fun h => absurd h (by omega)⟩
    | succ m ih =>
      intro h
      have h1 := ih (fun q hq => h q (by omega))
      have h2 := h m (by omega)
      show 0 ≤ 27 * wvI b i m + (b (i + m) - 96) ∧ (_ → 0 < 27 * wvI b i m + (b (i + m) - 96))
      exact ⟨by omega, fun _ => by omega⟩
  intro m
  induction m with
  | zero =>
    intro n hb hc h
    cases n with
    | zero => exact ⟨rfl, fun q hq => absurd hq (by omega)⟩
    | succ n => have := (pos _ hc).2 (by omega); have h0 : wvI c k (n + 1) = 0 := h.symm; omega
  | succ m ih =>
    intro n hb hc h
    cases n with
    | zero => have := (pos _ hb).2 (by omega); have h0 : wvI b i (m + 1) = 0 := h; omega
    | succ n =>
      have h1 : 27 * wvI b i m + (b (i + m) - 96) = 27 * wvI c k n + (c (k + n) - 96) := h
      have h2 := hb m (by omega)
      have h3 := hc n (by omega)
      obtain ⟨e1, e2⟩ := ih n (fun q hq => hb q (by omega)) (fun q hq => hc q (by omega)) (by omega)
      refine ⟨by omega, fun q hq => ?_⟩
      by_cases e : q = m
      · rw [e]
        have : b (i + m) = c (k + n) := by omega
        rw [this, e1]
      · exact e2 q (by omega)
theorem wvI_bd {b : Nat → Int} {i : Nat} : ∀ (m : Nat), (∀ q, q < m → 97 ≤ b (i + q) ∧ b (i + q) ≤ 122) → 0 ≤ wvI b i m ∧ wvI b i m < 27 ^ m := by
  intro m
  induction m with
  | zero => intro _; exact ⟨Int.le_refl _, (by decide : (0 : Int) < 27 ^ 0)⟩
  | succ m ih =>
    intro h
    have h1 := ih (fun q hq => h q (by omega))
    have h2 := h m (by omega)
    show 0 ≤ 27 * wvI b i m + (b (i + m) - 96) ∧ 27 * wvI b i m + (b (i + m) - 96) < 27 ^ (m + 1)
    rw [Int.pow_succ]
    omega
theorem i64_bm {n : Int} (h : -9223372036854775808 ≤ n ∧ n ≤ 9223372036854775807) : n.bmod (2 ^ 64) = n := by
  rw [Int.bmod_eq_of_le] <;> omega
theorem wv_I {b : Nat → Int32} {i : Nat} : ∀ (m : Nat), m ≤ 8 → (∀ q, q < m → 97 ≤ (b (i + q)).toInt ∧ (b (i + q)).toInt ≤ 122) → (wv b i m).toInt = wvI (fun k => (b k).toInt) i m := by
  intro m
  induction m with
  | zero => intro _ _; rfl
  | succ m ih =>
    intro h8 h
    have h1 := ih (by omega) (fun q hq => h q (by omega))
    have h2 := h m (by omega)
    have h3 := wvI_bd (b := fun k => (b k).toInt) (i := i) m (fun q hq => h q (by omega))
    have h4 : (27 : Int) ^ m ≤ 27 ^ 7 := by
      rcases (show m = 0 ∨ m = 1 ∨ m = 2 ∨ m = 3 ∨ m = 4 ∨ m = 5 ∨ m = 6 ∨ m = 7 by omega) with rfl | rfl | rfl | rfl | rfl | rfl | rfl | rfl <;> decide
    have h5 : (27 : Int) ^ 7 = 10460353203 := by decide
    have e1 : (b (i + m) - 97).toInt = (b (i + m)).toInt - 97 := by
      rw [i32_sub (by rw [show (97 : Int32).toInt = 97 from rfl]; omega)]; rfl
    have e2 : (b (i + m) - 97 + 1).toInt = (b (i + m)).toInt - 96 := by
      rw [i32_add (by rw [e1, show (1 : Int32).toInt = 1 from rfl]; omega), e1, show (1 : Int32).toInt = 1 from rfl]; omega
    show (27 * wv b i m + ((b (i + m) - 97) + 1).toInt64).toInt = 27 * wvI (fun k => (b k).toInt) i m + ((b (i + m)).toInt - 96)
    have e3 : ((27 : Int64) * wv b i m).toInt = 27 * (wv b i m).toInt := by
      rw [Int64.toInt_mul]
      exact i64_bm (by show _ ≤ (27 : Int) * (wv b i m).toInt ∧ (27 : Int) * (wv b i m).toInt ≤ _; rw [h1]; omega)
    rw [Int64.toInt_add, e3, Int32.toInt_toInt64, e2, h1]
    exact i64_bm (by omega)
theorem keyI : ∀ w, w < 20 → wvI (fun k => (chS 0 k).toInt) (sW w) (lW w) = (keyL.getD w 0).toInt := by decide +kernel
/-- a word stands there just where its number does -/
theorem mtc {b : Nat → Int32} {f L w : Nat} (hw : w < 20) (hL : L ≤ 8) (hb : ∀ q, q < L → 97 ≤ (b (f + q)).toInt ∧ (b (f + q)).toInt ≤ 122) : keyL.getD w 0 = wv b f L ↔ (lW w = L ∧ ∀ q, q < L → (b (f + q)).toInt = (chS 0 (sW w + q)).toInt) := by
  have h1 := words w hw
  have h2 := wordc w hw
  have hc : ∀ q, q < lW w → 97 ≤ (fun k => (chS 0 k).toInt) (sW w + q) ∧ (fun k => (chS 0 k).toInt) (sW w + q) ≤ 122 := fun q hq => h2 q (by omega) hq
  have e := wv_I (b := b) (i := f) L hL hb
  constructor
  · intro h
    have h3 : (keyL.getD w 0).toInt = (wv b f L).toInt := by rw [h]
    rw [← keyI w hw, e] at h3
    obtain ⟨a, c⟩ := wvI_inj (lW w) L hc hb h3
    exact ⟨a, fun q hq => (c q (by omega)).symm⟩
  · rintro ⟨a, c⟩
    refine Int64.toInt_inj.mp ?_
    rw [← keyI w hw, e, a]
    have : ∀ m, m ≤ L → wvI (fun k => (chS 0 k).toInt) (sW w) m = wvI (fun k => (b k).toInt) f m := by
      intro m
      induction m with
      | zero => intro _; rfl
      | succ m ih =>
        intro hm
        show 27 * wvI _ _ m + ((chS 0 (sW w + m)).toInt - 96) = 27 * wvI _ _ m + ((b (f + m)).toInt - 96)
        rw [ih (by omega), c m (by omega)]
    exact this L (Nat.le_refl _)
section CUTC
variable {σ : HS}
def bC (σ : HS) (i : Nat) : Int32 := σ.1 3 i
def nC (σ : HS) : Nat := (σ.1 2 1).toInt.toNat
theorem e_X9_isDigit {x : Int32} {σ : HS} : f_X9_isDigit x σ = some (bI (isDg x), σ) := by
  unfold f_X9_isDigit isDg bI
  by_cases c : x.toInt < 48
  · rw [if_pos c]; simp; omega
  · by_cases c2 : 57 < x.toInt
    · rw [if_neg c, if_pos c2]; simp; omega
    · rw [if_neg c, if_neg c2]; simp; omega
theorem e_X9_isLetter {x : Int32} {σ : HS} : f_X9_isLetter x σ = some (bI (isLt x), σ) := by
  unfold f_X9_isLetter isLt bI
  by_cases c : x.toInt < 97
  · rw [if_pos c]; simp; omega
  · by_cases c2 : 122 < x.toInt
    · rw [if_neg c, if_pos c2]; simp; omega
    · rw [if_neg c, if_neg c2]; simp; omega
theorem e_X9_isBlank {x : Int32} {σ : HS} : f_X9_isBlank x σ = some (bI (isBl x), σ) := by
  unfold f_X9_isBlank f_X9_isBlank_24
  by_cases h : isBl x = true
  · rw [h]
    unfold isBl at h
    simp only [Bool.or_eq_true, beq_iff_eq] at h
    rcases h with ((h | h) | h) | h <;> simp [h, bI]
  · rw [Bool.not_eq_true] at h
    rw [h]
    unfold isBl at h
    simp only [Bool.or_eq_false_iff, beq_eq_false_iff_ne, ne_eq] at h
    rw [if_neg h.1.1.1, if_neg h.1.1.2, if_neg h.1.2, if_neg h.2]; rfl
/-- how far the word w is matched behind q letters -/
def mqW (b : Nat → Int32) (f L w q : Nat) : Prop := q ≤ L ∧ ∀ k, k < q → (b (f + k)).toInt = (chS 0 (sW w + k)).toInt
theorem wA_step {f L w q : Nat} {M : Int32} {N : Nat} (hw : w < 20) (hq : q < lW w) (hf : f + L ≤ 2000) (hM : (mqW (bC σ) f L w q ∧ M.toInt = q) ∨ (¬ mqW (bC σ) f L w q ∧ M.toInt = -1)) : ∃ M1 : Int32, ((mqW (bC σ) f L w (q + 1) ∧ M1.toInt = ((q + 1 : Nat) : Int)) ∨ (¬ mqW (bC σ) f L w (q + 1) ∧ M1.toInt = -1)) ∧ f_X9_wordAt_8 (N + 1) (nI f) (nI L) (nI w) M (nI (sW w + q)) σ = f_X9_wordAt_8 N (nI f) (nI L) (nI w) M1 (nI (sW w + q + 1)) σ := by
  have h1 := words w hw
  have h2 := wordc w hw q (by omega) hq
  have go : ∀ M1 : Int32, f_X9_wordAt_8 (N + 1) (nI f) (nI L) (nI w) M (nI (sW w + q)) σ = f_X9_wordAt_85 (f_X9_wordAt_8 N) (nI f) (nI L) (nI w) M1 (nI (sW w + q)) σ → f_X9_wordAt_8 (N + 1) (nI f) (nI L) (nI w) M (nI (sW w + q)) σ = f_X9_wordAt_8 N (nI f) (nI L) (nI w) M1 (nI (sW w + q + 1)) σ := by
    intro M1 e
    rw [e]
    simp only [f_X9_wordAt_85, Bd, nI_1]
  have hd : f_X9_wordAt_8 (N + 1) (nI f) (nI L) (nI w) M (nI (sW w + q)) σ = if M.toInt < 0 then f_X9_wordAt_82 (f_X9_wordAt_8 N) (nI f) (nI L) (nI w) (nI (sW w + q)) σ else if M.toInt < (L : Int) then (if 0 ≤ (nI f + M).toInt ∧ (nI f + M).toInt < 2000 then (if (σ.1 3 (nI f + M).toInt.toNat).toInt = (chS 0 (sW w + q)).toInt then f_X9_wordAt_85 (f_X9_wordAt_8 N) (nI f) (nI L) (nI w) (M + 1) (nI (sW w + q)) σ else f_X9_wordAt_82 (f_X9_wordAt_8 N) (nI f) (nI L) (nI w) (nI (sW w + q)) σ) else none) else f_X9_wordAt_82 (f_X9_wordAt_8 N) (nI f) (nI L) (nI w) (nI (sW w + q)) σ := by
    show b_X9_wordAt_8 (f_X9_wordAt_8 N) (nI f) (nI L) (nI w) M (nI (sW w + q)) σ = _
    unfold b_X9_wordAt_8
    rw [show (Int32.ofNat (lenS.getD 0 0)).toInt = 112 from rfl, nItn (by omega), nIt (by omega), nIt (by omega), if_pos (by omega), if_pos (by omega)]
    simp only [Bd]
    rw [if_neg (by omega)]
  rcases hM with ⟨hm, hM⟩ | ⟨hm, hM⟩
  · by_cases c : q < L
    · have es : nI f + M = nI (f + q) := by
        have : M = nI q := Int32.toInt_inj.mp (by rw [hM, nIt (by omega)])
        rw [this, nI_add]
      by_cases ce : (bC σ (f + q)).toInt = (chS 0 (sW w + q)).toInt
      · refine ⟨M + 1, Or.inl ⟨⟨by omega, fun k hk => ?_⟩, ?_⟩, go _ ?_⟩
        · by_cases e : k = q
          · rw [e]; exact ce
          · exact hm.2 k (by omega)
        · rw [i32_add (by rw [hM, show (1 : Int32).toInt = 1 from rfl]; omega), hM]; rfl
        · rw [hd, if_neg (by omega), if_pos (by omega), es, nIt (by omega), if_pos (by omega)]
          rw [if_pos (by exact ce)]
      · refine ⟨-1, Or.inr ⟨fun h => ce (h.2 q (by omega)), rfl⟩, go _ ?_⟩
        rw [hd, if_neg (by omega), if_pos (by omega), es, nIt (by omega), if_pos (by omega), if_neg (by exact ce)]; rfl
    · refine ⟨-1, Or.inr ⟨fun h => by have := h.1; omega, rfl⟩, go _ ?_⟩
      rw [hd, if_neg (by omega), if_neg (by omega)]; rfl
  · refine ⟨-1, Or.inr ⟨fun h => hm ⟨by have := h.1; omega, fun k hk => h.2 k (by omega)⟩, rfl⟩, go _ ?_⟩
    rw [hd, if_pos (by omega)]; rfl
theorem wA_word {f L w : Nat} {N : Nat} (hw : w < 20) (hf : f + L ≤ 2000) : ∀ q, q ≤ lW w → ∃ M : Int32, ((mqW (bC σ) f L w q ∧ M.toInt = q) ∨ (¬ mqW (bC σ) f L w q ∧ M.toInt = -1)) ∧ f_X9_wordAt_8 (N + q) (nI f) (nI L) (nI w) 0 (nI (sW w)) σ = f_X9_wordAt_8 N (nI f) (nI L) (nI w) M (nI (sW w + q)) σ := by
  intro q
  induction q generalizing N with
  | zero => intro _; exact ⟨0, Or.inl ⟨⟨by omega, fun k hk => absurd hk (by omega)⟩, rfl⟩, rfl⟩
  | succ q ih =>
    intro hq
    obtain ⟨M, h1, h2⟩ := ih (N := N + 1) (by omega)
    obtain ⟨M1, h3, h4⟩ := wA_step (σ := σ) (N := N) hw (by omega) hf h1
    refine ⟨M1, h3, ?_⟩
    rw [show N + (q + 1) = N + 1 + q by omega, h2, h4]
    rfl
/-- which word of these stands there -/
def wIx (b : Nat → Int32) (f L : Nat) : Int := if L ≤ 8 ∧ kwF keyL (wv b f L) < 20 then (kwF keyL (wv b f L) : Int) else -1
theorem kwF_hit {v : Int64} : ∀ (l : List Int64) (w : Nat), w < l.length → (∀ k, k < w → l.getD k 0 ≠ v) → l.getD w 0 = v → kwF l v = w := by
  intro l
  induction l with
  | nil => intro w h; exact absurd h (by simp)
  | cons x l ih =>
    intro w hw h1 h2
    show (if x = v then 0 else kwF l v + 1) = w
    cases w with
    | zero => rw [if_pos (by simpa using h2)]
    | succ w =>
      rw [if_neg (by simpa using h1 0 (by omega)), ih w (by simpa using hw) (fun k hk => by simpa using h1 (k + 1) (by omega)) (by simpa using h2)]
theorem kwF_miss {v : Int64} : ∀ (l : List Int64), (∀ k, k < l.length → l.getD k 0 ≠ v) → kwF l v = l.length := by
  intro l
  induction l with
  | nil => intro _; rfl
  | cons x l ih =>
    intro h
    show (if x = v then 0 else kwF l v + 1) = l.length + 1
    rw [if_neg (by simpa using h 0 (by simp)), ih (fun k hk => by simpa using h (k + 1) (by simpa using hk))]
theorem wA_all {f L : Nat} (hL : 1 ≤ L) (hf : f + L ≤ 2000) (hb : ∀ q, q < L → 97 ≤ (bC σ (f + q)).toInt ∧ (bC σ (f + q)).toInt ≤ 122) : ∀ (d w N : Nat), w + d = 20 → (∀ k, k < w → L ≤ 8 → keyL.getD k 0 ≠ wv (bC σ) f L) → ∃ r : Int32, r.toInt = wIx (bC σ) f L ∧ f_X9_wordAt_8 (N + 1 + (112 - sW w)) (nI f) (nI L) (nI w) 0 (nI (sW w)) σ = some (r, σ) := by
  intro d
  induction d with
  | zero =>
    intro w N hw hk
    obtain rfl : w = 20 := by omega
    refine ⟨-1, ?_, ?_⟩
    · unfold wIx
      rw [if_neg (fun h => ?_)]
      · rfl
      · have := kwF_miss keyL (fun k h2 => hk k (by simpa [keyL] using h2) h.1)
        have e : keyL.length = 20 := rfl
        omega
    · show f_X9_wordAt_8 (N + 1) _ _ _ _ _ _ = _
      show b_X9_wordAt_8 (f_X9_wordAt_8 N) _ _ _ _ _ _ = _
      unfold b_X9_wordAt_8
      rw [show (Int32.ofNat (lenS.getD 0 0)).toInt = 112 from rfl, show sW 20 = 112 from rfl, nIt (by omega), if_neg (by omega)]
  | succ d ih =>
    intro w N hw hk
    have h1 := words w (by omega)
    have hn := h1.2.2.1
    obtain ⟨M, h2, h3⟩ := wA_word (σ := σ) (N := N + 1 + (112 - sW w - lW w)) (w := w) (by omega) hf (lW w) (Nat.le_refl _)
    rw [show N + 1 + (112 - sW w) = N + 1 + (112 - sW w - lW w) + lW w by omega, h3]
    obtain ⟨N2, hN2⟩ : ∃ q, N + 1 + (112 - sW w - lW w) = q + 1 := ⟨N + (112 - sW w - lW w), by omega⟩
    rw [hN2]
    have hd : f_X9_wordAt_8 (N2 + 1) (nI f) (nI L) (nI w) M (nI (sW w + lW w)) σ = if M.toInt = (L : Int) then some (nI w, σ) else f_X9_wordAt_8 N2 (nI f) (nI L) (nI (w + 1)) 0 (nI (sW w + lW w + 1)) σ := by
      show b_X9_wordAt_8 (f_X9_wordAt_8 N2) (nI f) (nI L) (nI w) M (nI (sW w + lW w)) σ = _
      unfold b_X9_wordAt_8
      rw [show (Int32.ofNat (lenS.getD 0 0)).toInt = 112 from rfl, nItn (by omega), nIt (by omega), if_pos (by omega), if_pos (by omega)]
      simp only [Bd]
      rw [if_pos h1.2.1, nIt (by omega)]
      simp only [f_X9_wordAt_85, Bd, nI_1]
    rw [hd]
    by_cases c : M.toInt = (L : Int)
    · rw [if_pos c]
      refine ⟨nI w, ?_, rfl⟩
      rcases h2 with ⟨hm, hM⟩ | ⟨hm, hM⟩
      · have e1 : lW w = L := by omega
        have hit : keyL.getD w 0 = wv (bC σ) f L := (mtc (by omega) (by omega) hb).mpr ⟨e1, fun q hq => hm.2 q (by omega)⟩
        have e2 := kwF_hit keyL w (by show w < 20; omega) (fun k h => hk k h (by omega)) hit
        unfold wIx
        rw [e2, if_pos (by omega), nIt (by omega)]
      · omega
    · rw [if_neg c]
      have nx := ih (w + 1) (N2 - 1 - (112 - sW (w + 1))) (by omega) (fun k h h8 => by
        by_cases e : k = w
        · rw [e]
          intro hit
          have := (mtc (by omega) h8 hb).mp hit
          rcases h2 with ⟨hm, hM⟩ | ⟨hm, hM⟩
          · omega
          · exact hm ⟨by omega, fun q hq => this.2 q (by omega)⟩
        · exact hk k (by omega) h8)
      rw [show N2 - 1 - (112 - sW (w + 1)) + 1 + (112 - sW (w + 1)) = N2 by omega, hn] at nx
      exact nx
theorem w_X9_wordAt {f L : Nat} (hL : 1 ≤ L) (hf : f + L ≤ 2000) (hb : ∀ q, q < L → isLt (bC σ (f + q)) = true) : ∃ r : Int32, r.toInt = wIx (bC σ) f L ∧ f_X9_wordAt (nI f) (nI L) σ = some (r, σ) := by
  obtain ⟨r, h1, h2⟩ := wA_all (σ := σ) hL hf (fun q hq => isLt_iff.mp (hb q hq)) 20 0 4887 rfl (fun k hk => absurd hk (by omega))
  refine ⟨r, h1, ?_⟩
  rw [← h2]
  rfl
end CUTC
/-! the class's cut -/
theorem hI_hI {σ : HS} {i k : Nat} {a b : Int32} : hI (hI σ i k a) i k b = hI σ i k b := by
  refine Prod.ext (funext fun x => funext fun y => ?_) rfl
  by_cases e : x = i
  · subst e
    by_cases e2 : y = k
    · subst e2; rw [rI_s, rI_s]
    · rw [rI_k e2, rI_k e2, rI_k e2]
  · rw [rI_i e, rI_i e, rI_i e]
theorem hI_same {σ : HS} {i k : Nat} {a : Int32} (h : σ.1 i k = a) : hI σ i k a = σ := by
  refine Prod.ext (funext fun x => funext fun y => ?_) rfl
  by_cases e : x = i
  · subst e
    by_cases e2 : y = k
    · subst e2; rw [rI_s]; exact h.symm
    · rw [rI_k e2]
  · rw [rI_i e]
theorem nI_sub {a b : Nat} (h : a ≤ b) (hb : b ≤ 100000) : nI b - nI a = nI (b - a) := Int32.toInt_inj.mp (by
  rw [i32_sub (by rw [nIt hb, nIt (by omega)]; omega), nIt hb, nIt (by omega), nIt (by omega)]; omega)
def ckind (k : Int) : Int := if 20 ≤ k then k - 20 else if k = 0 then 22 else if k = 1 then 20 else if k = 2 then 21 else if k = 3 then 23 else if k = 4 then 59 else if k = 5 then 61 else if k = 6 then 40 else if k = 7 then 41 else if k = 8 then 43 else if k = 9 then 45 else if k = 10 then 42 else if k = 13 then 60 else 47
def CC (σ : HS) : Prop := (0 ≤ (σ.1 2 1).toInt ∧ (σ.1 2 1).toInt ≤ 2000) ∧ ∀ k, 0 ≤ (σ.1 3 k).toInt ∧ (σ.1 3 k).toInt ≤ 255
/-- the state with the place at k -/
def atC (σ : HS) (k : Nat) : HS := hI σ 2 5 (nI k)
theorem atC_at {σ : HS} {k : Nat} : (atC σ k).1 2 5 = nI k := rI_s
theorem atC_n {σ : HS} {k : Nat} : (atC σ k).1 2 1 = σ.1 2 1 := rI_k (by decide)
theorem atC_b {σ : HS} {k j : Nat} : (atC σ k).1 3 j = σ.1 3 j := rI_i (by decide)
theorem atC_to {σ : HS} {k j : Nat} : hI (atC σ k) 2 5 (nI j) = atC σ j := hI_hI
theorem run_c {p : Int32 → Bool} {b : Nat → Int32} {n i e : Nat} (he : rn p b n i = e) : ∀ m, i + m ≤ e → rn p b n (i + m) = e := by
  intro m
  induction m with
  | zero => intro _; exact he
  | succ m ih =>
    intro h
    have h1 := ih (by omega)
    have h2 := rn_go (p := p) (b := b) (n := n) (i := i + m) (by omega)
    rw [show i + (m + 1) = i + m + 1 by omega, h2.2.2, h1]
theorem run_ub {p : Int32 → Bool} {b : Nat → Int32} {n i e : Nat} (he : rn p b n i = e) (hi : i ≤ n) : e ≤ n := by
  have := (rn_le (p := p) (b := b) (n := n) (i := i)).2 hi
  omega
section CUTD
variable {σ : HS}
theorem nC_n (h : CC σ) : ((nC σ : Nat) : Int) = (σ.1 2 1).toInt := by unfold nC; have := h.1.1; omega
theorem nC_u (h : CC σ) : nC σ ≤ 2000 := by unfold nC; have := h.1.2; omega
theorem e_cutWord_7 (hσ : CC σ) {i e : Nat} {x : Int32} (hi : i ≤ nC σ) (he : rn isLt (bC σ) (nC σ) i = e) : ∀ (d m N : Nat), i + m + d = e → d < N → f_X9_cutWord_7 N x (nI i) (wv (bC σ) i m) (atC σ (i + m)) = f_X9_cutWord_68 x (nI i) (wv (bC σ) i (e - i)) (atC σ e) := by
  have hn := nC_n hσ
  have hu := nC_u hσ
  have hen := run_ub he hi
  have run := run_c he
  intro d
  induction d with
  | zero =>
    intro m N h1 hN
    obtain ⟨N, rfl⟩ : ∃ q, N = q + 1 := ⟨N - 1, by omega⟩
    obtain rfl : i + m = e := by omega
    rw [show i + m - i = m by omega]
    show b_X9_cutWord_7 (f_X9_cutWord_7 N) x (nI i) _ _ = _
    unfold b_X9_cutWord_7
    rw [atC_at, atC_n, nIt (by omega), Int.toNat_natCast, atC_b]
    by_cases c : i + m < nC σ
    · rw [if_pos (by omega), if_pos (by omega)]
      have hs := rn_stop (run m (Nat.le_refl _))
      have hz : isLt (bC σ (i + m)) = false := by
        rcases hs with hs | hs
        · omega
        · simpa using hs
      simp only [e_X9_isLetter, Cl]
      rw [if_pos (by rw [bI_0]; show ¬ isLt (bC σ (i + m)) = true; rw [hz]; decide)]
    · rw [if_neg (by omega)]
  | succ d ih =>
    intro m N h1 hN
    obtain ⟨N, rfl⟩ : ∃ q, N = q + 1 := ⟨N - 1, by omega⟩
    have hg := rn_go (p := isLt) (b := bC σ) (n := nC σ) (i := i + m) (by rw [run m (by omega)]; omega)
    have ih1 := ih (m + 1) N (by omega) (by omega)
    rw [← ih1]
    show b_X9_cutWord_7 (f_X9_cutWord_7 N) x (nI i) _ _ = _
    unfold b_X9_cutWord_7
    rw [atC_at, atC_n, nIt (by omega), Int.toNat_natCast, atC_b, if_pos (by omega), if_pos (by omega)]
    simp only [e_X9_isLetter, Cl]
    rw [if_neg (by rw [bI_0]; show ¬ ¬ isLt (bC σ (i + m)) = true; rw [hg.2.1]; decide)]
    rw [atC_at, nIt (by omega), Int.toNat_natCast, atC_b, if_pos (by omega)]
    simp only [Bd, nI_1, atC_to]
    rw [Int64.mul_comm]
    rfl
/-- base 10 -/
def lv (b : Nat → Int32) (i : Nat) : Nat → Int64
  | 0 => 0
  | m + 1 => lv b i m * 10 + (b (i + m) - 48).toInt64
theorem lv_iv {b : Nat → Int32} {i : Nat} : ∀ (m : Nat), m ≤ 4 → (∀ q, q < m → 48 ≤ (b (i + q)).toInt ∧ (b (i + q)).toInt ≤ 57) → (lv b i m).toInt = iv b i m ∧ 0 ≤ iv b i m ∧ iv b i m < 10 ^ m := by
  intro m
  induction m with
  | zero => intro _ _; exact ⟨rfl, Int.le_refl _, (by decide : (0 : Int) < 10 ^ 0)⟩
  | succ m ih =>
    intro h4 h
    obtain ⟨a, a1, a2⟩ := ih (by omega) (fun q hq => h q (by omega))
    have h2 := h m (by omega)
    have h4 : (10 : Int) ^ m ≤ 1000 := by
      rcases (show m = 0 ∨ m = 1 ∨ m = 2 ∨ m = 3 by omega) with rfl | rfl | rfl | rfl <;> decide
    have e1 : (b (i + m) - 48).toInt = (b (i + m)).toInt - 48 := by
      rw [i32_sub (by rw [show (48 : Int32).toInt = 48 from rfl]; omega)]; rfl
    refine ⟨?_, ?_⟩
    · show (lv b i m * 10 + (b (i + m) - 48).toInt64).toInt = 10 * iv b i m + ((b (i + m)).toInt - 48)
      rw [i64_step (by rw [a]; omega) (by rw [e1]; omega), a, e1]
      omega
    · show 0 ≤ 10 * iv b i m + ((b (i + m)).toInt - 48) ∧ 10 * iv b i m + ((b (i + m)).toInt - 48) < 10 ^ (m + 1)
      rw [Int.pow_succ]
      omega
theorem e_cutInt_7 (hσ : CC σ) {i e : Nat} {x : Int32} (hi : i ≤ nC σ) (he : rn isDg (bC σ) (nC σ) i = e) : ∀ (d m N : Nat), i + m + d = e → d < N → f_X9_cutInt_7 N x (nI i) (lv (bC σ) i m) (atC σ (i + m)) = f_X9_cutInt_66 x (nI i) (lv (bC σ) i (e - i)) (atC σ e) := by
  have hn := nC_n hσ
  have hu := nC_u hσ
  have hen := run_ub he hi
  have run := run_c he
  intro d
  induction d with
  | zero =>
    intro m N h1 hN
    obtain ⟨N, rfl⟩ : ∃ q, N = q + 1 := ⟨N - 1, by omega⟩
    obtain rfl : i + m = e := by omega
    rw [show i + m - i = m by omega]
    show b_X9_cutInt_7 (f_X9_cutInt_7 N) x (nI i) _ _ = _
    unfold b_X9_cutInt_7
    rw [atC_at, atC_n, nIt (by omega), Int.toNat_natCast, atC_b]
    by_cases c : i + m < nC σ
    · rw [if_pos (by omega), if_pos (by omega)]
      have hs := rn_stop (run m (Nat.le_refl _))
      have hz : isDg (bC σ (i + m)) = false := by
        rcases hs with hs | hs
        · omega
        · simpa using hs
      simp only [e_X9_isDigit, Cl]
      rw [if_pos (by rw [bI_0]; show ¬ isDg (bC σ (i + m)) = true; rw [hz]; decide)]
    · rw [if_neg (by omega)]
  | succ d ih =>
    intro m N h1 hN
    obtain ⟨N, rfl⟩ : ∃ q, N = q + 1 := ⟨N - 1, by omega⟩
    have hg := rn_go (p := isDg) (b := bC σ) (n := nC σ) (i := i + m) (by rw [run m (by omega)]; omega)
    have ih1 := ih (m + 1) N (by omega) (by omega)
    rw [← ih1]
    show b_X9_cutInt_7 (f_X9_cutInt_7 N) x (nI i) _ _ = _
    unfold b_X9_cutInt_7
    rw [atC_at, atC_n, nIt (by omega), Int.toNat_natCast, atC_b, if_pos (by omega), if_pos (by omega)]
    simp only [e_X9_isDigit, Cl]
    rw [if_neg (by rw [bI_0]; show ¬ ¬ isDg (bC σ (i + m)) = true; rw [hg.2.1]; decide)]
    rw [atC_at, nIt (by omega), Int.toNat_natCast, atC_b, if_pos (by omega)]
    simp only [Bd, nI_1, atC_to]
    rfl
/-- what is put down for the token q at the place i -/
theorem ck_word {L k : Nat} (h : k < 20) : ckind (20 + (k : Int)) = k := by unfold ckind; rw [if_pos (by omega)]; omega
theorem w_cutWord (hσ : CC σ) {i e j : Nat} (hj : j ≤ 400) (hi : i < nC σ) (hl : isLt (bC σ i) = true) (he : rn isLt (bC σ) (nC σ) i = e) : ∃ r : Int32, r.toInt = ckind (if i + 8 < e then 3 else if kwF keyL (wv (bC σ) i (e - i)) < 20 then 20 + (kwF keyL (wv (bC σ) i (e - i)) : Int) else 1) ∧ f_X9_cutWord (nI j) (atC σ i) = some (r, hL (atC σ e) 6 j (wv (bC σ) i (e - i))) := by
  have hu := nC_u hσ
  have hen := run_ub he (by omega)
  have hie : i < e := by
    have := (rn_le (p := isLt) (b := bC σ) (n := nC σ) (i := i + 1)).1
    rw [← rn_in hi hl, he] at this
    omega
  have hall : ∀ q, q < e - i → isLt (bC σ (i + q)) = true := fun q hq => (rn_go (p := isLt) (b := bC σ) (n := nC σ) (i := i + q) (by rw [run_c he q (by omega)]; omega)).2.1
  generalize hK : (if i + 8 < e then (3 : Int) else if kwF keyL (wv (bC σ) i (e - i)) < 20 then 20 + (kwF keyL (wv (bC σ) i (e - i)) : Int) else 1) = K
  unfold f_X9_cutWord
  rw [atC_at]
  simp only [Bd]
  have e1 := e_cutWord_7 hσ (x := nI j) (by omega) he (e - i) 0 5000 (by omega) (by omega)
  rw [show f_X9_cutWord_7 5000 (nI j) (nI i) 0 (atC σ i) = f_X9_cutWord_7 5000 (nI j) (nI i) (wv (bC σ) i 0) (atC σ (i + 0)) from rfl, e1]
  unfold f_X9_cutWord_68
  rw [nIt (by omega), if_pos (by omega), Int.toNat_natCast]
  simp only [Bd]
  rw [rL_1, atC_at, nI_sub (by omega) (by omega)]
  obtain ⟨r, hr, e2⟩ := w_X9_wordAt (σ := hL (atC σ e) 6 j (wv (bC σ) i (e - i))) (f := i) (L := e - i) (by omega) (by omega) (fun q hq => by
    show isLt ((hL (atC σ e) 6 j (wv (bC σ) i (e - i))).1 3 (i + q)) = true
    rw [rL_1, atC_b]; exact hall q hq)
  have eb : bC (hL (atC σ e) 6 j (wv (bC σ) i (e - i))) = bC σ := funext fun q => by
    show (hL (atC σ e) 6 j (wv (bC σ) i (e - i))).1 3 q = _
    rw [rL_1, atC_b]; rfl
  rw [eb] at hr
  rw [e2]
  simp only [Cl]
  rw [rL_1, atC_at, nI_sub (by omega) (by omega), nIt (by omega)]
  unfold wIx at hr
  by_cases c : i + 8 < e
  · rw [if_neg (by omega)] at hr
    rw [if_pos c] at hK
    rw [if_pos hr, if_pos (by omega), ← hK]
    exact ⟨23, rfl, rfl⟩
  · rw [if_neg c] at hK
    by_cases c2 : kwF keyL (wv (bC σ) i (e - i)) < 20
    · rw [if_pos ⟨by omega, c2⟩] at hr
      rw [if_pos c2] at hK
      rw [if_neg (by omega), ← hK, ck_word (L := 0) c2]
      exact ⟨r, hr, rfl⟩
    · rw [if_neg (fun h => c2 h.2)] at hr
      rw [if_neg c2] at hK
      rw [if_pos hr, if_neg (by omega), ← hK]
      exact ⟨20, rfl, rfl⟩
theorem w_cutInt (hσ : CC σ) {i e j : Nat} (hj : j ≤ 400) (hi : i < nC σ) (he : rn isDg (bC σ) (nC σ) i = e) : ∃ r : Int32, r.toInt = ckind (if i + 4 < e then 3 else 2) ∧ f_X9_cutInt (nI j) (atC σ i) = some (r, hL (atC σ e) 6 j (lv (bC σ) i (e - i))) := by
  have hu := nC_u hσ
  have hen := run_ub he (by omega)
  have hie : i ≤ e := by
    have := (rn_le (p := isDg) (b := bC σ) (n := nC σ) (i := i)).1
    omega
  generalize hK : (if i + 4 < e then (3 : Int) else 2) = K
  unfold f_X9_cutInt
  rw [atC_at]
  simp only [Bd]
  have e1 := e_cutInt_7 hσ (x := nI j) (by omega) he (e - i) 0 5000 (by omega) (by omega)
  rw [show f_X9_cutInt_7 5000 (nI j) (nI i) 0 (atC σ i) = f_X9_cutInt_7 5000 (nI j) (nI i) (lv (bC σ) i 0) (atC σ (i + 0)) from rfl, e1]
  unfold f_X9_cutInt_66
  rw [nIt (by omega), if_pos (by omega), Int.toNat_natCast]
  simp only [Bd]
  rw [rL_1, atC_at, nI_sub (by omega) (by omega), nIt (by omega)]
  by_cases c : i + 4 < e
  · rw [if_pos c] at hK
    rw [if_pos (by omega), ← hK]
    exact ⟨23, rfl, rfl⟩
  · rw [if_neg c] at hK
    rw [if_neg (by omega), ← hK]
    exact ⟨21, rfl, rfl⟩
def sgE (k : Nat) : Int32 := (bytS.getD 1 []).getD k 0
theorem e_ioc {z : Int32} : ∀ (d k N : Nat), k + d = 9 → (∀ j, j < k → (sgE j).toInt ≠ z.toInt) → ∃ r : Int32, (r.toInt < 0 ↔ ∀ j, j < 9 → (sgE j).toInt ≠ z.toInt) ∧ f_J1_indexOfChar_4cfef_7 (N + 1 + d) (nI 9) z (nI k) σ = some (r, σ) := by
  intro d
  induction d with
  | zero =>
    intro k N hk h
    refine ⟨-1, ⟨fun _ j hj => h j (by omega), fun _ => by decide⟩, ?_⟩
    show b_J1_indexOfChar_4cfef_7 (f_J1_indexOfChar_4cfef_7 N) _ _ _ _ = _
    unfold b_J1_indexOfChar_4cfef_7
    rw [nIt (by omega), nIt (by omega), if_neg (by omega)]
  | succ d ih =>
    intro k N hk h
    show ∃ r : Int32, _ ∧ b_J1_indexOfChar_4cfef_7 (f_J1_indexOfChar_4cfef_7 (N + 1 + d)) _ _ _ _ = _
    unfold b_J1_indexOfChar_4cfef_7
    rw [nIt (by omega), nIt (by omega), if_pos (by omega), if_pos (by omega), Int.toNat_natCast]
    by_cases c : (sgE k).toInt = z.toInt
    · refine ⟨nI k, ⟨fun h2 => ?_, fun h2 => absurd c (h2 k (by omega))⟩, ?_⟩
      · rw [nIt (by omega)] at h2; omega
      · rw [if_pos (by exact c)]
    · rw [if_neg (by exact c)]
      simp only [Bd, nI_1]
      exact ih (k + 1) N (by omega) (fun j hj => by
        by_cases e : j = k
        · rw [e]; exact c
        · exact h j (by omega))
theorem sg256 : ∀ k, k < 256 → ((nI k).toUInt32 % 65536).toInt32 = nI k ∧ (0 ≤ (nI k).toInt ∧ (nI k).toInt ≤ 255) ∧ ((∀ j, j < 9 → (sgE j).toInt ≠ ((nI k).toInt8.toInt32).toInt) ↔ sgn (k : Int) = 3) ∧ (sgn (k : Int) ≠ 3 → ckind (sgn (k : Int)) = (k : Int)) := by decide +kernel
theorem w_sign {k : Nat} (hk : k < 256) : ∃ r : Int32, (r.toInt < 0 ↔ sgn (k : Int) = 3) ∧ f_J0_indexOf_0f7a4 (((nI k).toUInt32 % 65536).toInt32) σ = some (r, σ) := by
  obtain ⟨a, b, c, _⟩ := sg256 k hk
  rw [a]
  obtain ⟨r, h1, h2⟩ := e_ioc (σ := σ) (z := (nI k).toInt8.toInt32) 9 0 4990 rfl (fun j hj => absurd hj (by omega))
  refine ⟨r, h1.trans c, ?_⟩
  have e1 : f_J1_indexOfChar_4cfef (nI k) 0 (Int32.ofNat (lenS.getD 1 0)) σ = some (r, σ) := by
    unfold f_J1_indexOfChar_4cfef
    simp only [Bd]
    exact h2
  have e2 : f_J1_canEncode_9a6ad (nI k) σ = some (1, σ) := by
    unfold f_J1_canEncode_9a6ad
    rw [if_neg (by omega), if_neg (by omega)]
  unfold f_J0_indexOf_0f7a4 f_J0_indexOf_7cf53 f_J1_indexOf_4cfef
  rw [e2]
  simp only [Cl, Bd]
  rw [if_neg (show ¬ (1 : Int) = 0 by decide), if_neg (show ¬ (1 : Int32).toInt = 0 by decide)]
  rw [show (if (0 : Int32) < (0 : Int32) then (0 : Int32) else 0) = 0 from rfl, show (if (Int32.ofNat (lenS.getD 1 0)) < (Int32.ofNat (lenS.getD 1 0)) then (Int32.ofNat (lenS.getD 1 0)) else (Int32.ofNat (lenS.getD 1 0))) = Int32.ofNat (lenS.getD 1 0) from rfl]
  rw [if_pos (show (0 : Int32).toInt < (Int32.ofNat (lenS.getD 1 0)).toInt by decide), e1]
/-- one token: its kind, what is told of it, where it ends -/
theorem w_cutOne (hσ : CC σ) {i j : Nat} (hj : j ≤ 400) (hi : i ≤ nC σ) : ∃ (r : Int32) (v : Int64) (e : Nat), r.toInt = ckind (tkK (bC σ) (nC σ) i) ∧ (tkK (bC σ) (nC σ) i = 2 → v.toInt = iv (bC σ) i (rn isDg (bC σ) (nC σ) i - i)) ∧ (tkK (bC σ) (nC σ) i = 1 → v = wv (bC σ) i (rn isLt (bC σ) (nC σ) i - i)) ∧ e = tkE (bC σ) (nC σ) i ∧ e ≤ nC σ ∧ (i < nC σ → i < e) ∧ (f_X9_cutOne (nI j) (atC σ i) = some (r, hL (atC σ e) 6 j v) ∨ (f_X9_cutOne (nI j) (atC σ i) = some (r, atC σ e) ∧ tkK (bC σ) (nC σ) i ≠ 1 ∧ tkK (bC σ) (nC σ) i ≠ 2)) := by
  have hn := nC_n hσ
  have hu := nC_u hσ
  unfold f_X9_cutOne
  rw [atC_at, atC_n, nIt (by omega), Int.toNat_natCast, atC_b]
  by_cases c0 : i < nC σ
  rotate_left
  · rw [if_neg (by omega)]
    have ek : tkK (bC σ) (nC σ) i = 0 := by unfold tkK; rw [if_pos (by omega)]
    have ee : tkE (bC σ) (nC σ) i = i := by unfold tkE; rw [if_pos (by omega)]
    exact ⟨22, 0, i, by rw [ek]; rfl, fun h => by omega, fun h => by omega, ee.symm, hi, fun h => absurd h c0, Or.inr ⟨rfl, by omega, by omega⟩⟩
  rw [if_pos (by omega), if_pos (by omega)]
  simp only [e_X9_isLetter, e_X9_isDigit, Cl]
  by_cases c1 : isLt (bC σ i) = true
  · generalize he : rn isLt (bC σ) (nC σ) i = e
    obtain ⟨r, hr, e1⟩ := w_cutWord hσ hj c0 c1 he
    have ek : tkK (bC σ) (nC σ) i = (if i + 8 < e then 3 else if kwF keyL (wv (bC σ) i (e - i)) < 20 then 20 + (kwF keyL (wv (bC σ) i (e - i)) : Int) else 1) := by unfold tkK; rw [if_neg (by omega), if_pos c1, he]
    have ee : tkE (bC σ) (nC σ) i = e := by unfold tkE; rw [if_neg (by omega), if_pos c1, he]
    have g := rn_le (p := isLt) (b := bC σ) (n := nC σ) (i := i + 1)
    rw [← rn_in c0 c1, he] at g
    refine ⟨r, wv (bC σ) i (e - i), e, by rw [ek]; exact hr, fun h => ?_, fun _ => rfl, ee.symm, g.2 (by omega), fun _ => by omega, Or.inl ?_⟩
    · exfalso
      rw [ek] at h
      split at h
      · omega
      · split at h <;> omega
    · rw [if_neg (by rw [bI_0]; show ¬ ¬ isLt (bC σ i) = true; rw [c1]; decide), e1]
  · rw [if_pos (by rw [bI_0]; exact c1)]
    rw [atC_at, nIt (by omega), Int.toNat_natCast, atC_b, if_pos (by omega)]
    by_cases c2 : isDg (bC σ i) = true
    · generalize he : rn isDg (bC σ) (nC σ) i = e
      obtain ⟨r, hr, e1⟩ := w_cutInt hσ hj c0 he
      have ek : tkK (bC σ) (nC σ) i = (if i + 4 < e then 3 else 2) := by unfold tkK; rw [if_neg (by omega), if_neg c1, if_pos c2, he]
      have ee : tkE (bC σ) (nC σ) i = e := by unfold tkE; rw [if_neg (by omega), if_neg c1, if_pos c2, he]
      have g := rn_le (p := isDg) (b := bC σ) (n := nC σ) (i := i + 1)
      rw [← rn_in c0 c2, he] at g
      refine ⟨r, lv (bC σ) i (e - i), e, by rw [ek]; exact hr, fun h => ?_, fun h => ?_, ee.symm, g.2 (by omega), fun _ => by omega, Or.inl ?_⟩
      · rw [ek] at h
        have h4 : e - i ≤ 4 := by split at h <;> omega
        exact (lv_iv (b := bC σ) (i := i) (e - i) h4 (fun q hq => isDg_iff.mp (rn_go (p := isDg) (b := bC σ) (n := nC σ) (i := i + q) (by rw [run_c he q (by omega)]; omega)).2.1)).1
      · exfalso; rw [ek] at h; split at h <;> omega
      · rw [if_neg (by rw [bI_0]; show ¬ ¬ isDg (bC σ i) = true; rw [c2]; decide), e1]
    · rw [if_pos (by rw [bI_0]; exact c2)]
      rw [if_pos (by omega)]
      obtain ⟨k, hk, ec⟩ : ∃ k, k < 256 ∧ σ.1 3 i = nI k := by
        have := hσ.2 i
        exact ⟨(σ.1 3 i).toInt.toNat, by omega, Int32.toInt_inj.mp (by rw [nIt (by omega)]; omega)⟩
      have ek : tkK (bC σ) (nC σ) i = sgn (k : Int) := by unfold tkK; rw [if_neg (by omega), if_neg c1, if_neg c2]; show sgn (σ.1 3 i).toInt = _; rw [ec, nIt (by omega)]
      have ee : tkE (bC σ) (nC σ) i = i + 1 := by unfold tkE; rw [if_neg (by omega), if_neg c1, if_neg c2]
      obtain ⟨r, h1, h2⟩ := w_sign (σ := atC σ (i + 1)) hk
      obtain ⟨_, _, _, h3⟩ := sg256 k hk
      have sr := sgn_rg (k : Int)
      simp only [Bd, nI_1, atC_to]
      rw [ec, h2]
      by_cases c3 : sgn (k : Int) = 3
      · refine ⟨23, 0, i + 1, by rw [ek, c3]; rfl, fun h => by omega, fun h => by omega, ee.symm, by omega, fun _ => by omega, Or.inr ⟨?_, by omega, by omega⟩⟩
        simp only []
        rw [if_pos (h1.mpr c3)]
      · refine ⟨nI k, 0, i + 1, by rw [ek, h3 c3, nIt (by omega)], fun h => by omega, fun h => by omega, ee.symm, by omega, fun _ => by omega, Or.inr ⟨?_, by omega, by omega⟩⟩
        simp only []
        rw [if_neg (fun h => c3 (h1.mp h))]
end CUTD
/-! what may have been written: by cell and place; longs by cell -/
def frm (w : Nat → Nat → Bool) (wl : Nat → Bool) (σ σ1 : HS) : Prop := (∀ a k, w a k = false → σ1.1 a k = σ.1 a k) ∧ (∀ a, wl a = false → σ1.2.1 a = σ.2.1 a) ∧ σ1.2.2 = σ.2.2
section FRM
variable {w : Nat → Nat → Bool} {wl : Nat → Bool} {σ σ1 σ2 : HS}
theorem frm.rf : frm w wl σ σ := ⟨fun _ _ _ => rfl, fun _ _ => rfl, rfl⟩
theorem frm.tr (h : frm w wl σ σ1) (h2 : frm w wl σ1 σ2) : frm w wl σ σ2 := ⟨fun a k e => (h2.1 a k e).trans (h.1 a k e), fun a e => (h2.2.1 a e).trans (h.2.1 a e), h2.2.2.trans h.2.2⟩
theorem frm.I (h : frm w wl σ σ1) {i k : Nat} {v : Int32} (hw : w i k = true) : frm w wl σ (hI σ1 i k v) := ⟨fun a j e => by
  by_cases e1 : a = i
  · subst e1
    by_cases e2 : j = k
    · subst e2; rw [hw] at e; exact absurd e (by decide)
    · rw [rI_k e2]; exact h.1 a j e
  · rw [rI_i e1]; exact h.1 a j e, h.2.1, h.2.2⟩
theorem frm.A (h : frm w wl σ σ1) {i : Nat} {f : Nat → Int32} (hw : ∀ k, w i k = true) : frm w wl σ (hA σ1 i f) := ⟨fun a j e => by
  by_cases e1 : a = i
  · subst e1; rw [hw j] at e; exact absurd e (by decide)
  · rw [rA_i e1]; exact h.1 a j e, h.2.1, h.2.2⟩
theorem frm.L (h : frm w wl σ σ1) {i k : Nat} {v : Int64} (hw : wl i = true) : frm w wl σ (hL σ1 i k v) := ⟨h.1, fun a e => by
  by_cases e1 : a = i
  · subst e1; rw [hw] at e; exact absurd e (by decide)
  · rw [rL_i e1]; exact h.2.1 a e, h.2.2⟩
theorem frm.mono {w1 : Nat → Nat → Bool} {wl1 : Nat → Bool} (h : frm w wl σ σ1) (hw : ∀ a k, w1 a k = false → w a k = false) (hl : ∀ a, wl1 a = false → wl a = false) : frm w1 wl1 σ σ1 := ⟨fun a k e => h.1 a k (hw a k e), fun a e => h.2.1 a (hl a e), h.2.2⟩
end FRM
theorem tk_rg {b : Nat → Int32} {n i : Nat} : 0 ≤ tkK b n i ∧ tkK b n i ≤ 39 := by
  unfold tkK
  have := sgn_rg (b i).toInt
  split
  · omega
  · split
    · split
      · omega
      · split <;> omega
    · split
      · split <;> omega
      · omega
theorem ck_tab : ∀ k, k < 40 → (ckind (k : Nat) = 22 → k = 0) ∧ (ckind (k : Nat) = 23 → k = 3) := by decide +kernel
theorem ck_22 {K : Int} (h : 0 ≤ K ∧ K ≤ 39) (e : ckind K = 22) : K = 0 := by
  obtain ⟨k, rfl⟩ : ∃ k : Nat, K = k := ⟨K.toNat, by omega⟩
  have := (ck_tab k (by omega)).1 e
  omega
theorem ck_23 {K : Int} (h : 0 ≤ K ∧ K ≤ 39) (e : ckind K = 23) : K = 3 := by
  obtain ⟨k, rfl⟩ : ∃ k : Nat, K = k := ⟨K.toNat, by omega⟩
  have := (ck_tab k (by omega)).2 e
  omega
def TKc (b : Nat → Int32) (n j : Nat) (σ : HS) : Prop := ∀ q : Nat, q < j → (σ.1 4 q).toInt = ckind (kdT b n q) ∧ (σ.1 5 q).toInt = plT b n q ∧ (kdT b n q = 2 → (σ.2.1 6 q).toInt = vlT b n q) ∧ (kdT b n q = 1 → σ.2.1 6 q = nmT b n q)
/-- every token up to the first END or BAD is told rightly -/
def TKC (b : Nat → Int32) (n : Nat) (σ : HS) : Prop := ∀ q : Nat, q ≤ 400 → (∀ p, p < q → kdT b n p ≠ 0 ∧ kdT b n p ≠ 3) → (σ.1 4 q).toInt = ckind (kdT b n q) ∧ (σ.1 5 q).toInt = plT b n q ∧ (kdT b n q = 2 → (σ.2.1 6 q).toInt = vlT b n q) ∧ (kdT b n q = 1 → σ.2.1 6 q = nmT b n q)
def wCut (a k : Nat) : Bool := a == 4 || a == 5 || (a == 2 && k == 5)
def wlCut (a : Nat) : Bool := a == 6
section CUTE
variable {σ σ0 : HS}
theorem CC.fr (h : frm wCut wlCut σ0 σ) (c : CC σ0) : CC σ := by
  unfold CC
  rw [h.1 2 1 rfl]
  exact ⟨c.1, fun k => by rw [h.1 3 k rfl]; exact c.2 k⟩
theorem bC_fr (h : frm wCut wlCut σ0 σ) : bC σ = bC σ0 := funext fun k => h.1 3 k rfl
theorem nC_fr (h : frm wCut wlCut σ0 σ) : nC σ = nC σ0 := by unfold nC; rw [h.1 2 1 rfl]
theorem e_cut_28 {k9 : Int32 → Int32 → HS → Option HS} {y : Int32} (hσ : CC σ) {i e : Nat} (hi : i ≤ nC σ) (he : rn isBl (bC σ) (nC σ) i = e) : ∀ (d m N : Nat), i + m + d = e → d < N → f_X9_cut_28 k9 N y (atC σ (i + m)) = f_X9_cut_67 k9 y (atC σ e) := by
  have hn := nC_n hσ
  have hu := nC_u hσ
  have hen := run_ub he hi
  have run := run_c he
  intro d
  induction d with
  | zero =>
    intro m N h1 hN
    obtain ⟨N, rfl⟩ : ∃ q, N = q + 1 := ⟨N - 1, by omega⟩
    obtain rfl : i + m = e := by omega
    show b_X9_cut_28 k9 (f_X9_cut_28 k9 N) y _ = _
    unfold b_X9_cut_28
    rw [atC_at, atC_n, nIt (by omega), Int.toNat_natCast, atC_b]
    by_cases c : i + m < nC σ
    · rw [if_pos (by omega), if_pos (by omega)]
      have hs := rn_stop (run m (Nat.le_refl _))
      have hz : isBl (bC σ (i + m)) = false := by
        rcases hs with hs | hs
        · omega
        · simpa using hs
      simp only [e_X9_isBlank, Cl]
      rw [if_pos (by rw [bI_0]; show ¬ isBl (bC σ (i + m)) = true; rw [hz]; decide)]
    · rw [if_neg (by omega)]
  | succ d ih =>
    intro m N h1 hN
    obtain ⟨N, rfl⟩ : ∃ q, N = q + 1 := ⟨N - 1, by omega⟩
    have hg := rn_go (p := isBl) (b := bC σ) (n := nC σ) (i := i + m) (by rw [run m (by omega)]; omega)
    have ih1 := ih (m + 1) N (by omega) (by omega)
    rw [← ih1]
    show b_X9_cut_28 k9 (f_X9_cut_28 k9 N) y _ = _
    unfold b_X9_cut_28
    rw [atC_at, atC_n, nIt (by omega), Int.toNat_natCast, atC_b, if_pos (by omega), if_pos (by omega)]
    simp only [e_X9_isBlank, Cl]
    rw [if_neg (by rw [bI_0]; show ¬ ¬ isBl (bC σ (i + m)) = true; rw [hg.2.1]; decide)]
    simp only [Bd, atC_at, nI_1, atC_to]
    rfl
theorem w_cut_9 (hC : CC σ0) : ∀ (d N i j : Nat) (kk : Int32) (σ : HS), frm wCut wlCut σ0 σ → σ.1 2 5 = nI i → j ≤ 401 → i ≤ nC σ0 → plT (bC σ0) (nC σ0) j = rn isBl (bC σ0) (nC σ0) i → TKc (bC σ0) (nC σ0) j σ → (kk.toInt = 22 → 0 < j ∧ kdT (bC σ0) (nC σ0) (j - 1) = 0) → (kk.toInt = 23 → 0 < j ∧ kdT (bC σ0) (nC σ0) (j - 1) = 3) → 402 - j ≤ d → d ≤ N → Okv (f_X9_cut_9 N kk (nI j) σ) (fun s => frm wCut wlCut σ0 s ∧ TKC (bC σ0) (nC σ0) s) := by
  intro d
  induction d with
  | zero => intro N i j kk σ _ _ _ _ _ _ _ _ h _; omega
  | succ d ih =>
    intro N i j kk σ ho hat hj hi hp hT h22 h23 hd hN
    obtain ⟨N, rfl⟩ : ∃ q, N = q + 1 := ⟨N - 1, by omega⟩
    have hσ := CC.fr ho hC
    have hu := nC_u hC
    have hb := bC_fr ho
    have hn := nC_fr ho
    show Okv (b_X9_cut_9 (f_X9_cut_9 N) kk (nI j) σ) _
    unfold b_X9_cut_9
    rw [nIt (by omega)]
    refine Okv.i (fun c => ?_) (fun c => ?_)
    · exact Okv.ret ⟨ho, fun q hq _ => hT q (by omega)⟩
    refine Okv.i (fun c1 => ?_) (fun c1 => ?_)
    · have := h22 c1
      exact Okv.ret ⟨ho, fun q hq hp => hT q (by
        by_cases e : q < j
        · exact e
        · exact absurd this.2 (hp (j - 1) (by omega)).1)⟩
    refine Okv.i (fun c2 => ?_) (fun c2 => ?_)
    · have := h23 c2
      exact Okv.ret ⟨ho, fun q hq hp => hT q (by
        by_cases e : q < j
        · exact e
        · exact absurd this.2 (hp (j - 1) (by omega)).2)⟩
    generalize he : rn isBl (bC σ0) (nC σ0) i = e
    have hen := run_ub he hi
    rw [he] at hp
    have e1 := e_cut_28 (k9 := f_X9_cut_9 N) (y := nI j) hσ (i := i) (e := e) (by rw [hn]; exact hi) (by rw [hb, hn]; exact he) (e - i) 0 5000 (by have := (rn_le (p := isBl) (b := bC σ0) (n := nC σ0) (i := i)).1; omega) (by omega)
    rw [show f_X9_cut_28 (f_X9_cut_9 N) 5000 (nI j) σ = f_X9_cut_28 (f_X9_cut_9 N) 5000 (nI j) (atC σ (i + 0)) from by rw [show atC σ (i + 0) = σ from hI_same hat], e1]
    unfold f_X9_cut_67
    rw [nIt (by omega), Int.toNat_natCast]
    refine Okv.t (by omega) (Okv.bd ?_)
    rw [atC_at]
    generalize hs1 : hI (atC σ e) 5 j (nI e) = σ1
    have ho1 : frm wCut wlCut σ0 σ1 := by rw [← hs1]; exact (ho.I rfl).I rfl
    have a1 : σ1.1 2 5 = nI e := by rw [← hs1, rI_i (by decide)]; exact atC_at
    have p1 : σ1.1 5 j = nI e := by rw [← hs1]; exact rI_s
    have T1 : TKc (bC σ0) (nC σ0) j σ1 := fun q hq => by
      have := hT q hq
      rw [← hs1, rI_i (show (4 : Nat) ≠ 5 by decide), rI_k (show q ≠ j by omega)]
      exact this
    obtain ⟨r, v, e2, h1, h2, h3, h4, h5, h6, h7⟩ := w_cutOne (CC.fr ho1 hC) (i := e) (j := j) (by omega) (by rw [nC_fr ho1]; exact hen)
    rw [bC_fr ho1, nC_fr ho1] at h1 h2 h3 h4 h7
    rw [nC_fr ho1] at h5
    have rg := tk_rg (b := bC σ0) (n := nC σ0) (i := e)
    have kj : kdT (bC σ0) (nC σ0) j = tkK (bC σ0) (nC σ0) e := by unfold kdT; rw [hp]
    rw [show atC σ1 e = σ1 from hI_same a1] at h7
    -- the state behind the token
    have fin : ∀ σ2 : HS, frm wCut wlCut σ0 σ2 → σ2.1 2 5 = nI e2 → (∀ q, σ2.1 4 q = σ1.1 4 q) → (∀ q, σ2.1 5 q = σ1.1 5 q) → (∀ q, q ≠ j → σ2.2.1 6 q = σ1.2.1 6 q) → (kdT (bC σ0) (nC σ0) j = 2 → (σ2.2.1 6 j).toInt = vlT (bC σ0) (nC σ0) j) → (kdT (bC σ0) (nC σ0) j = 1 → σ2.2.1 6 j = nmT (bC σ0) (nC σ0) j) → Okv (f_X9_cut_9 N r (nI (j + 1)) (hI σ2 4 j r)) (fun s => frm wCut wlCut σ0 s ∧ TKC (bC σ0) (nC σ0) s) := by
      intro σ2 o2 at2 q4 q5 q6 q7 q8
      refine ih N e2 (j + 1) r (hI σ2 4 j r) (o2.I rfl) (by rw [rI_i (by decide)]; exact at2) (by omega) h5 ?_ ?_ ?_ ?_ (by omega) (by omega)
      · show rn isBl (bC σ0) (nC σ0) (tkE (bC σ0) (nC σ0) (plT (bC σ0) (nC σ0) j)) = _
        rw [hp, h4]
      · intro q hq
        by_cases eq : q = j
        · subst eq
          refine ⟨by rw [rI_s, h1, kj], ?_, q7, q8⟩
          rw [rI_i (show (5 : Nat) ≠ 4 by decide), q5, p1, nIt (by omega), hp]
        · have := T1 q (by omega)
          rw [rI_k eq, q4, rI_i (show (5 : Nat) ≠ 4 by decide), q5]
          refine ⟨this.1, this.2.1, fun h => ?_, fun h => ?_⟩
          · show (σ2.2.1 6 q).toInt = _; rw [q6 q eq]; exact this.2.2.1 h
          · show σ2.2.1 6 q = _; rw [q6 q eq]; exact this.2.2.2 h
      · intro h
        refine ⟨by omega, ?_⟩
        rw [show j + 1 - 1 = j by omega, kj]
        exact ck_22 rg (by rw [← h1]; exact h)
      · intro h
        refine ⟨by omega, ?_⟩
        rw [show j + 1 - 1 = j by omega, kj]
        exact ck_23 rg (by rw [← h1]; exact h)
    rcases h7 with h7 | ⟨h7, n1, n2⟩
    · refine Okv.cle h7 ?_
      refine Okv.t (by omega) (Okv.bd (Okv.bd ?_))
      rw [nI_1]
      refine fin _ ((ho1.I rfl).L rfl) ?_ ?_ ?_ ?_ ?_ ?_
      · rw [rL_1]; exact atC_at
      · intro q; rw [rL_1]; exact rI_i (by decide)
      · intro q; rw [rL_1]; exact rI_i (by decide)
      · intro q hq; rw [rL_k hq]; rfl
      · intro h; rw [rL_s, h2 (by rw [← kj]; exact h)]; unfold vlT; rw [hp]
      · intro h; rw [rL_s, h3 (by rw [← kj]; exact h)]; unfold nmT; rw [hp]
    · refine Okv.cle h7 ?_
      refine Okv.t (by omega) (Okv.bd (Okv.bd ?_))
      rw [nI_1]
      refine fin _ (ho1.I rfl) ?_ ?_ ?_ ?_ ?_ ?_
      · exact atC_at
      · intro q; exact rI_i (by decide)
      · intro q; exact rI_i (by decide)
      · intro q hq; rfl
      · intro h; rw [kj] at h; exact absurd h n2
      · intro h; rw [kj] at h; exact absurd h n1
theorem w_X9_cut (hC : CC σ) : Okv (f_X9_cut σ) (fun s => frm wCut wlCut σ s ∧ TKC (bC σ) (nC σ) s) := by
  unfold f_X9_cut
  refine Okv.bd ?_
  have o1 : frm wCut wlCut σ (hI σ 2 5 0) := frm.rf.I rfl
  exact w_cut_9 hC 402 5000 0 0 (-1) (hI σ 2 5 0) o1 (by rw [rI_s]; exact nI0) (by omega) (by omega) rfl (fun q hq => absurd hq (by omega)) (fun h => absurd h (by decide)) (fun h => absurd h (by decide)) (by omega) (by omega)
end CUTE
/-! a text's reading, as the document tells it: tokens by number (kind, value, place, name) -/
abbrev FA : Type := Int × Int
abbrev OPC : Type := Nat × Int
abbrev COD : Type := List OPC
/-- ifs (left, right, then), and what stands behind the last else -/
abbrev LAWT : Type := List (COD × COD × COD) × COD
section SPEC
variable (kd vl pl : Nat → Int) (nm : Nat → Int64)
def advS (t : Nat) : Except FA Nat := if t = 400 then .error (2, pl t) else .ok (t + 1)
def tkS (k : Int) (t : Nat) : Except FA Nat := if kd t = k then advS pl t else .error (1, pl t)
/-- a later fault, if it is the first -/
def ltS (t : Nat) (k : Int) (q : FA) : FA := if q.1 = 0 then (k, pl t) else q
def numS (least most : Int) (t : Nat) (lt : FA) : Except FA (Nat × Int × FA) := tkS kd pl 2 t >>= fun t1 => .ok (t1, vl t, if vl t < least ∨ most < vl t then ltS pl t 5 lt else lt)
def hasN (nc : Nat) (ns : Nat → Int64) (v : Int64) : Bool := (List.range nc).any (fun i => ns i == v)
def upN (ns : Nat → Int64) (i : Nat) (v : Int64) : Nat → Int64 := fun j => if j = i then v else ns j
def nameS (t nc : Nat) (ns : Nat → Int64) (lt : FA) : Except FA (Nat × FA) := tkS kd pl 1 t >>= fun t1 => .ok (t1, if hasN nc ns (nm t) = true then ltS pl t 3 lt else lt)
/-! expressions: the waiting operators (6 an open one) and the code -/
def opk (w : Nat) : Nat := if w = 8 then 2 else if w = 9 then 3 else if w = 10 then 4 else 5
def outS (strong : Bool) : List Nat → COD → List Nat × COD
  | [], c => ([], c)
  | w :: S, c => if w = 6 ∨ (strong = true ∧ (w = 8 ∨ w = 9)) then (w :: S, c) else outS strong S (c ++ [(opk w, 0)])
def depS (S : List Nat) : Nat := S.count 6
def expF : Nat → Bool → Nat → List Nat → COD → Except FA (Nat × COD)
  | 0, _, _, _, _ => .error (9, 0)
  | f + 1, true, t, S, c =>
    if kd t = 6 then (if depS S = 6 then .error (2, pl t) else advS pl t >>= fun t1 => expF f true t1 (6 :: S) c)
    else if kd t = 2 then advS pl t >>= fun t1 => expF f false t1 S (c ++ [(0, vl t)])
    else if 31 ≤ kd t ∧ kd t ≤ 39 then advS pl t >>= fun t1 => expF f false t1 S (c ++ [(1, kd t - 31)])
    else .error (1, pl t)
  | f + 1, false, t, S, c =>
    if kd t = 7 ∧ 0 < depS S then advS pl t >>= fun t1 => expF f false t1 (outS false S c).1.tail (outS false S c).2
    else if kd t = 8 ∨ kd t = 9 then advS pl t >>= fun t1 => expF f true t1 ((kd t).toNat :: (outS false S c).1) (outS false S c).2
    else if kd t = 10 ∨ kd t = 15 then advS pl t >>= fun t1 => expF f true t1 ((kd t).toNat :: (outS true S c).1) (outS true S c).2
    else if 0 < depS S then .error (1, pl t)
    else .ok (t, (outS false S c).2)
def eX (b : Bool) (t : Nat) (S : List Nat) (c : COD) : Except FA (Nat × COD) := expF kd vl pl (401 - t) b t S c
def exS (t : Nat) : Except FA (Nat × COD) := eX kd vl pl true t [] []
/-! laws -/
def condS (t : Nat) : Except FA (Nat × COD × COD × COD) :=
  tkS kd pl 28 t >>= fun t => exS kd vl pl t >>= fun a => tkS kd pl 13 a.1 >>= fun t => exS kd vl pl t >>= fun b => tkS kd pl 29 b.1 >>= fun t => exS kd vl pl t >>= fun c => tkS kd pl 30 c.1 >>= fun t => .ok (t, a.2, b.2, c.2)
def lastS (brs : List (COD × COD × COD)) (t : Nat) : Except FA (Nat × LAWT) := exS kd vl pl t >>= fun a => tkS kd pl 4 a.1 >>= fun t => .ok (t, brs, a.2)
def ifsS : Nat → List (COD × COD × COD) → Nat → Except FA (Nat × LAWT)
  | 0, brs, t => if kd t = 28 then .error (2, pl t) else lastS kd vl pl brs t
  | m + 1, brs, t => if kd t = 28 then condS kd vl pl t >>= fun a => ifsS m (brs ++ [a.2]) a.1 else lastS kd vl pl brs t
def lawS (k : Int) (t : Nat) : Except FA (Nat × LAWT) := tkS kd pl k t >>= fun t => tkS kd pl 5 t >>= fun t => ifsS kd vl pl 4 [] t
/-! things and patterns -/
def thingS (nT t nc : Nat) (ns : Nat → Int64) (lt : FA) : Except FA (Nat × (Int × Int × Int) × FA) :=
  if nT < 7 then tkS kd pl 20 t >>= fun t1 => nameS kd pl nm t1 nc ns lt >>= fun a => numS kd vl pl 1 9 a.1 a.2 >>= fun b => numS kd vl pl 0 9 b.1 b.2.2 >>= fun c => numS kd vl pl 0 9 c.1 c.2.2 >>= fun d => tkS kd pl 4 d.1 >>= fun t2 => .ok (t2, (b.2.1, c.2.1, d.2.1), d.2.2)
  else .error (2, pl t)
def upI (f : Nat → Int) (i : Nat) (v : Int) : Nat → Int := fun j => if j = i then v else f j
/-- the heights behind the first: how many there are, which -/
def htsS : Nat → (Nat → Int) → Nat → FA → Nat → Except FA (Nat × Nat × (Nat → Int) × FA)
  | n, hs, t, lt, 0 => if kd t = 2 then .error (2, pl t) else tkS kd pl 4 t >>= fun t2 => .ok (t2, n, hs, lt)
  | n, hs, t, lt, m + 1 => if kd t = 2 then numS kd vl pl 0 9 t lt >>= fun a => htsS (n + 1) (upI hs n a.2.1) a.1 a.2.2 m else tkS kd pl 4 t >>= fun t2 => .ok (t2, n, hs, lt)
def patS (nP t nc : Nat) (ns : Nat → Int64) (lt : FA) : Except FA (Nat × Nat × (Nat → Int) × FA) :=
  if nP < 5 then tkS kd pl 21 t >>= fun t1 => nameS kd pl nm t1 nc ns lt >>= fun a => numS kd vl pl 0 9 a.1 a.2 >>= fun b => htsS kd vl pl 1 (upI (fun _ => 0) 0 b.2.1) b.1 b.2.2 7
  else .error (2, pl t)
def oneS (k : Int) (most : Int) (t : Nat) (lt : FA) : Except FA (Nat × Int × FA) := tkS kd pl k t >>= fun t1 => numS kd vl pl 0 most t1 lt >>= fun a => tkS kd pl 4 a.1 >>= fun t2 => .ok (t2, a.2)
/-- what a text has told so far: things, patterns, rests, seed, laws -/
abbrev DAT : Type := ((Nat × (Nat → Int) × (Nat → Int) × (Nat → Int)) × (Nat × (Nat → Nat) × (Nat → Nat → Int))) × (Int × Int) × (Nat → Option LAWT)
abbrev PST : Type := Nat × (Nat × (Nat → Int64)) × FA × DAT
def dat0 : DAT := (((0, fun _ => 0, fun _ => 0, fun _ => 0), (0, fun _ => 0, fun _ _ => 0)), (1, 0), fun _ => none)
def upT (d : DAT) (x : Int × Int × Int) : DAT := (((d.1.1.1 + 1, upI d.1.1.2.1 d.1.1.1 x.1, upI d.1.1.2.2.1 d.1.1.1 x.2.1, upI d.1.1.2.2.2 d.1.1.1 x.2.2), d.1.2), d.2)
def upP (d : DAT) (n : Nat) (hs : Nat → Int) : DAT := ((d.1.1, (d.1.2.1 + 1, fun j => if j = d.1.2.1 then n else d.1.2.2.1 j, fun j => if j = d.1.2.1 then hs else d.1.2.2.2 j)), d.2)
def upLw (d : DAT) (k : Nat) (L : LAWT) : DAT := (d.1, d.2.1, fun j => if j = k then some L else d.2.2 j)
def tellS (s : PST) : Except FA PST :=
  if kd s.1 = 20 then thingS kd vl pl nm s.2.2.2.1.1.1 s.1 s.2.1.1 s.2.1.2 s.2.2.1 >>= fun a => .ok (a.1, (s.2.1.1 + 1, upN s.2.1.2 s.2.1.1 (nm (s.1 + 1))), a.2.2, upT s.2.2.2 a.2.1)
  else if kd s.1 = 21 then patS kd vl pl nm s.2.2.2.1.2.1 s.1 s.2.1.1 s.2.1.2 s.2.2.1 >>= fun a => .ok (a.1, (s.2.1.1 + 1, upN s.2.1.2 s.2.1.1 (nm (s.1 + 1))), a.2.2.2, upP s.2.2.2 a.2.1 a.2.2.1)
  else if 22 ≤ kd s.1 ∧ kd s.1 ≤ 25 then lawS kd vl pl (kd s.1) s.1 >>= fun a => .ok (a.1, s.2.1, s.2.2.1, upLw s.2.2.2 (kd s.1 - 22).toNat a.2)
  else if kd s.1 = 26 then oneS kd vl pl 26 99 s.1 s.2.2.1 >>= fun a => .ok (a.1, s.2.1, a.2.2, (s.2.2.2.1, (a.2.1, s.2.2.2.2.1.2), s.2.2.2.2.2))
  else if kd s.1 = 27 then oneS kd vl pl 27 9999 s.1 s.2.2.1 >>= fun a => .ok (a.1, s.2.1, a.2.2, (s.2.2.2.1, (s.2.2.2.2.1.1, a.2.1), s.2.2.2.2.2))
  else .error (1, pl s.1)
def topS : Nat → PST → Except FA PST
  | 0, _ => .error (9, 0)
  | f + 1, s => if kd s.1 = 0 then .ok s else tellS kd vl pl nm s >>= fun s1 => topS f s1
def readS : Except FA PST := topS kd vl pl nm 402 (0, (0, fun _ => 0), (0, -1), dat0)
/-! expressions, step by step -/
variable {kd vl pl}
theorem eX_t {t : Nat} {S : List Nat} {c : COD} (ht : t ≤ 400) : eX kd vl pl true t S c = (if kd t = 6 then (if depS S = 6 then .error (2, pl t) else advS pl t >>= fun t1 => eX kd vl pl true t1 (6 :: S) c) else if kd t = 2 then advS pl t >>= fun t1 => eX kd vl pl false t1 S (c ++ [(0, vl t)]) else if 31 ≤ kd t ∧ kd t ≤ 39 then advS pl t >>= fun t1 => eX kd vl pl false t1 S (c ++ [(1, kd t - 31)]) else .error (1, pl t)) := by
  have e : 401 - t = (400 - t) + 1 := by omega
  have a : ∀ (b : Bool) (S : List Nat) (c : COD), (advS pl t >>= fun t1 => expF kd vl pl (400 - t) b t1 S c) = (advS pl t >>= fun t1 => eX kd vl pl b t1 S c) := by
    intro b S c
    unfold advS
    by_cases c0 : t = 400
    · rw [if_pos c0]; rfl
    · rw [if_neg c0]
      show expF kd vl pl (400 - t) b (t + 1) S c = expF kd vl pl (401 - (t + 1)) b (t + 1) S c
      rw [show 401 - (t + 1) = 400 - t by omega]
  rw [← a, ← a, ← a]
  unfold eX
  rw [e]
  rfl
theorem eX_f {t : Nat} {S : List Nat} {c : COD} (ht : t ≤ 400) : eX kd vl pl false t S c = (if kd t = 7 ∧ 0 < depS S then advS pl t >>= fun t1 => eX kd vl pl false t1 (outS false S c).1.tail (outS false S c).2 else if kd t = 8 ∨ kd t = 9 then advS pl t >>= fun t1 => eX kd vl pl true t1 ((kd t).toNat :: (outS false S c).1) (outS false S c).2 else if kd t = 10 ∨ kd t = 15 then advS pl t >>= fun t1 => eX kd vl pl true t1 ((kd t).toNat :: (outS true S c).1) (outS true S c).2 else if 0 < depS S then .error (1, pl t) else .ok (t, (outS false S c).2)) := by
  have e : 401 - t = (400 - t) + 1 := by omega
  have a : ∀ (b : Bool) (S : List Nat) (c : COD), (advS pl t >>= fun t1 => expF kd vl pl (400 - t) b t1 S c) = (advS pl t >>= fun t1 => eX kd vl pl b t1 S c) := by
    intro b S c
    unfold advS
    by_cases c0 : t = 400
    · rw [if_pos c0]; rfl
    · rw [if_neg c0]
      show expF kd vl pl (400 - t) b (t + 1) S c = expF kd vl pl (401 - (t + 1)) b (t + 1) S c
      rw [show 401 - (t + 1) = 400 - t by omega]
  rw [← a, ← a, ← a]
  unfold eX
  rw [e]
  rfl
theorem depS_op {w : Nat} {S : List Nat} (h : w ≠ 6) : depS (w :: S) = depS S := by unfold depS; rw [List.count_cons_of_ne (by omega)]
theorem depS_open {S : List Nat} : depS (6 :: S) = depS S + 1 := by unfold depS; rw [List.count_cons_self]
theorem outS_strong {w : Nat} {S : List Nat} {c : COD} {b : Bool} (h : w = 10 ∨ w = 15) : outS b (w :: S) c = outS b S (c ++ [(opk w, 0)]) := by
  show (if w = 6 ∨ (b = true ∧ (w = 8 ∨ w = 9)) then (w :: S, c) else outS b S (c ++ [(opk w, 0)])) = _
  rw [if_neg (by omega)]
theorem outS_weak {w : Nat} {S : List Nat} {c : COD} (h : w = 8 ∨ w = 9) : outS false (w :: S) c = outS false S (c ++ [(opk w, 0)]) := by
  show (if w = 6 ∨ (false = true ∧ (w = 8 ∨ w = 9)) then (w :: S, c) else outS false S (c ++ [(opk w, 0)])) = _
  rw [if_neg (by simp; omega)]
/-- a strong operator comes out whatever stands next -/
theorem eX_popS {t w : Nat} {S : List Nat} {c : COD} (ht : t ≤ 400) (h : w = 10 ∨ w = 15) : eX kd vl pl false t (w :: S) c = eX kd vl pl false t S (c ++ [(opk w, 0)]) := by
  rw [eX_f ht, eX_f ht, outS_strong h, outS_strong h, depS_op (by omega)]
theorem eX_popW {t w : Nat} {S : List Nat} {c : COD} (ht : t ≤ 400) (h : w = 8 ∨ w = 9) (hk : ¬ (kd t = 10 ∨ kd t = 15)) : eX kd vl pl false t (w :: S) c = eX kd vl pl false t S (c ++ [(opk w, 0)]) := by
  rw [eX_f ht, eX_f ht, outS_weak h, depS_op (by omega), if_neg (show ¬ (kd t = 10 ∨ kd t = 15) from hk), if_neg (show ¬ (kd t = 10 ∨ kd t = 15) from hk)]
end SPEC
theorem iv_rg {b : Nat → Int32} {i : Nat} : ∀ (m : Nat), m ≤ 4 → (∀ q, q < m → isDg (b (i + q)) = true) → 0 ≤ iv b i m ∧ iv b i m < 10 ^ m := by
  intro m
  induction m with
  | zero => intro _ _; exact ⟨Int.le_refl _, (by decide : (0 : Int) < 10 ^ 0)⟩
  | succ m ih =>
    intro h4 h
    obtain ⟨a1, a2⟩ := ih (by omega) (fun q hq => h q (by omega))
    have h2 := isDg_iff.mp (h m (by omega))
    show 0 ≤ 10 * iv b i m + ((b (i + m)).toInt - 48) ∧ 10 * iv b i m + ((b (i + m)).toInt - 48) < 10 ^ (m + 1)
    rw [Int.pow_succ]
    omega
/-- an INT is told as 0 .. 9999 -/
theorem vl_rg {b : Nat → Int32} {n t : Nat} (h : kdT b n t = 2) : 0 ≤ vlT b n t ∧ vlT b n t ≤ 9999 := by
  unfold kdT at h
  unfold vlT
  generalize hi : plT b n t = i at h ⊢
  generalize he : rn isDg b n i = e at h ⊢
  have h4 : e ≤ i + 4 := by
    unfold tkK at h
    rw [he] at h
    have := sgn_rg (b i).toInt
    split at h
    · omega
    · split at h
      · split at h
        · omega
        · split at h <;> omega
      · split at h
        · split at h <;> omega
        · omega
  have g := iv_rg (b := b) (i := i) (e - i) (by omega) (fun q hq => (rn_go (p := isDg) (b := b) (n := n) (i := i + q) (by rw [run_c he q (by omega)]; omega)).2.1)
  have p4 : (10 : Int) ^ (e - i) ≤ 10000 := by
    rcases (show e - i = 0 ∨ e - i = 1 ∨ e - i = 2 ∨ e - i = 3 ∨ e - i = 4 by omega) with h | h | h | h | h <;> rw [h] <;> decide
  omega

/-! the class's reading: what a call that may refuse answers -/
def PostC {α : Type} (F : FA → HS → Prop) (x : Except FA α) (K : α → HS → Prop) (r : Int32) (s : HS) : Prop := match x with
  | .error e => r = 0 ∧ F e s
  | .ok a => r = 1 ∧ K a s
theorem PostC.err {α : Type} {F : FA → HS → Prop} {x : Except FA α} {K : α → HS → Prop} {e : FA} {s : HS} (h : x = .error e) (hF : F e s) : PostC F x K 0 s := by subst h; exact ⟨rfl, hF⟩
theorem PostC.ok {α : Type} {F : FA → HS → Prop} {x : Except FA α} {K : α → HS → Prop} {a : α} {s : HS} (h : x = .ok a) (hK : K a s) : PostC F x K 1 s := by subst h; exact ⟨rfl, hK⟩
theorem PB {α β : Type} {F : FA → HS → Prop} {x : Except FA α} {y : α → Except FA β} {K : α → HS → Prop} {K' : β → HS → Prop} {f : Option (Int32 × HS)} {g : HS → Option (Int32 × HS)} (h : Ok f (PostC F x K)) (k : ∀ a s, x = .ok a → K a s → Ok (g s) (PostC F (y a) K')) : Ok (Cl f fun r s => if r.toInt = 0 then some (0, s) else g s) (PostC F (x >>= y) K') := by
  obtain ⟨r, s, rfl, h⟩ := h
  cases x with
  | error e =>
    obtain ⟨rfl, h⟩ := h
    exact ⟨0, s, rfl, rfl, h⟩
  | ok a =>
    obtain ⟨rfl, h⟩ := h
    exact k a s rfl h
theorem PT {α : Type} {F : FA → HS → Prop} {x : Except FA α} {K : α → HS → Prop} {f : Option (Int32 × HS)} (h : Ok f (PostC F x K)) : Ok (Cl f fun r s => if 0 ≤ r.toInt ∧ r.toInt ≤ 1 then some (r, s) else none) (PostC F x K) := by
  obtain ⟨r, s, rfl, h⟩ := h
  cases x with
  | error e =>
    obtain ⟨rfl, h⟩ := h
    exact ⟨0, s, rfl, rfl, h⟩
  | ok a =>
    obtain ⟨rfl, h⟩ := h
    exact ⟨1, s, rfl, rfl, h⟩
theorem PostC.map {α β : Type} {F : FA → HS → Prop} {x : Except FA α} {K : α → HS → Prop} {K' : β → HS → Prop} {y : α → Except FA β} {f : Option (Int32 × HS)} (h : Ok f (PostC F x K)) (k : ∀ a s, x = .ok a → K a s → ∃ b, y a = .ok b ∧ K' b s) : Ok f (PostC F (x >>= y) K') := by
  obtain ⟨r, s, rfl, h⟩ := h
  cases x with
  | error e =>
    obtain ⟨rfl, h⟩ := h
    exact ⟨0, s, rfl, rfl, h⟩
  | ok a =>
    obtain ⟨rfl, h⟩ := h
    obtain ⟨b, e, h2⟩ := k a s rfl h
    refine ⟨1, s, rfl, ?_⟩
    show PostC F (y a) K' 1 s
    rw [e]
    exact ⟨rfl, h2⟩
def vK (k : Nat) : Bool := decide (k ≤ 10) || k == 13 || k == 15 || decide (20 ≤ k)
theorem ck_inj : ∀ k, k < 40 → ∀ j, j < 40 → vK k = true → vK j = true → ckind (k : Nat) = ckind (j : Nat) → k = j := by decide +kernel
theorem sgn_vK (c : Int) : ∃ k : Nat, k < 40 ∧ vK k = true ∧ sgn c = k := by
  unfold sgn
  repeat' split
  · exact ⟨4, by decide, rfl, rfl⟩
  · exact ⟨5, by decide, rfl, rfl⟩
  · exact ⟨6, by decide, rfl, rfl⟩
  · exact ⟨7, by decide, rfl, rfl⟩
  · exact ⟨8, by decide, rfl, rfl⟩
  · exact ⟨9, by decide, rfl, rfl⟩
  · exact ⟨10, by decide, rfl, rfl⟩
  · exact ⟨15, by decide, rfl, rfl⟩
  · exact ⟨13, by decide, rfl, rfl⟩
  · exact ⟨3, by decide, rfl, rfl⟩
theorem kd_vK (b : Nat → Int32) (n t : Nat) : ∃ k : Nat, k < 40 ∧ vK k = true ∧ kdT b n t = k := by
  unfold kdT tkK
  split
  · exact ⟨0, by decide, rfl, rfl⟩
  · split
    · split
      · exact ⟨3, by decide, rfl, rfl⟩
      · split
        · rename_i h
          refine ⟨20 + kwF keyL (wv b (plT b n t) (rn isLt b n (plT b n t) - plT b n t)), by omega, ?_, by omega⟩
          unfold vK
          rw [decide_eq_true (show 20 ≤ 20 + kwF keyL (wv b (plT b n t) (rn isLt b n (plT b n t) - plT b n t)) by omega)]
          simp
        · exact ⟨1, by decide, rfl, rfl⟩
    · split
      · split
        · exact ⟨3, by decide, rfl, rfl⟩
        · exact ⟨2, by decide, rfl, rfl⟩
      · exact sgn_vK _
theorem ck_eq {b : Nat → Int32} {n t : Nat} (K : Nat) (h40 : K < 40) (hK : vK K = true) : ckind (kdT b n t) = ckind K ↔ kdT b n t = K := by
  obtain ⟨k, h1, h2, h3⟩ := kd_vK b n t
  rw [h3]
  exact ⟨fun h => by rw [ck_inj k h1 K h40 h2 hK h], fun h => by rw [h]⟩
theorem lgc_lt {x y : Int64} : (lg_cmp x y).toInt < 0 ↔ x.toInt < y.toInt := by
  unfold lg_cmp
  by_cases h : x > y
  · rw [if_pos h]
    have := Int64.lt_iff_toInt_lt.mp h
    exact ⟨fun h => absurd h (by decide), fun h => by omega⟩
  · rw [if_neg h]
    have h2 : ¬ y.toInt < x.toInt := fun e => h (Int64.lt_iff_toInt_lt.mpr e)
    by_cases e : x = y
    · rw [if_pos e, e]
      exact ⟨fun h => absurd h (by decide), fun h => by omega⟩
    · rw [if_neg e]
      have h3 : x.toInt ≠ y.toInt := fun h => e (Int64.toInt_inj.mp h)
      exact ⟨fun _ => by omega, fun _ => by decide⟩
theorem lgc_gt {x y : Int64} : 0 < (lg_cmp x y).toInt ↔ y.toInt < x.toInt := by
  unfold lg_cmp
  by_cases h : x > y
  · rw [if_pos h]
    have := Int64.lt_iff_toInt_lt.mp h
    exact ⟨fun _ => this, fun _ => by decide⟩
  · rw [if_neg h]
    have h2 : ¬ y.toInt < x.toInt := fun e => h (Int64.lt_iff_toInt_lt.mpr e)
    by_cases e : x = y
    · rw [if_pos e]
      exact ⟨fun h => absurd h (by decide), fun h => absurd h h2⟩
    · rw [if_neg e]
      exact ⟨fun h => absurd h (by decide), fun h => absurd h h2⟩
/-! the state while the class reads -/
def wP (tx a _k : Nat) : Bool := a == 1 || (decide (tx ≤ a) && decide (a ≤ tx + 12))
def wlP (a : Nat) : Bool := a == 7
def wl0 (_a : Nat) : Bool := false
theorem wP_no {tx a k : Nat} (h : 30 ≤ tx) (ha : a < 30) (h1 : a ≠ 1) : wP tx a k = false := by
  unfold wP
  simp only [Bool.or_eq_false_iff, beq_eq_false_iff_ne, ne_eq, Bool.and_eq_false_iff, decide_eq_false_iff_not]
  exact ⟨h1, Or.inl (by omega)⟩
theorem wP_tx {tx a k : Nat} (h1 : tx ≤ a) (h2 : a ≤ tx + 12) : wP tx a k = true := by
  unfold wP
  rw [decide_eq_true h1, decide_eq_true h2]
  simp
theorem wP_1 {tx k : Nat} : wP tx 1 k = true := rfl
section RCS
variable {b : Nat → Int32} {n tx : Nat} {σc σ : HS}
def RC (b : Nat → Int32) (n tx : Nat) (σc : HS) (t : Nat) (σ : HS) : Prop := frm (wP tx) wlP σc σ ∧ t ≤ 400 ∧ (∀ p, p < t → kdT b n p ≠ 0 ∧ kdT b n p ≠ 3) ∧ σ.1 1 5 = nI t ∧ (σ.1 1 6).toInt = ckind (kdT b n t) ∧ (0 ≤ (σ.1 tx 8).toInt ∧ (σ.1 tx 8).toInt ≤ 408)
def FLT (tx : Nat) (σc : HS) (e : FA) (s : HS) : Prop := (s.1 1 2).toInt = e.1 ∧ (s.1 1 1).toInt = e.2 ∧ frm (wP tx) wlP σc s ∧ (0 ≤ (s.1 tx 8).toInt ∧ (s.1 tx 8).toInt ≤ 408)
def plI (b : Nat → Int32) (n : Nat) (t : Nat) : Int := (plT b n t : Nat)
theorem RC.kd {t : Nat} (h : RC b n tx σc t σ) (K : Nat) (h40 : K < 40) (hK : vK K = true) {d : Int} (hd : d = ckind K) : (σ.1 1 6).toInt = d ↔ kdT b n t = K := by
  rw [h.2.2.2.2.1, hd]
  exact ck_eq K h40 hK
theorem RC.tk {t : Nat} (htx : 30 ≤ tx) (hT : TKC b n σc) (h : RC b n tx σc t σ) : (σ.1 5 t).toInt = plI b n t ∧ (kdT b n t = 2 → (σ.2.1 6 t).toInt = vlT b n t) ∧ (kdT b n t = 1 → σ.2.1 6 t = nmT b n t) := by
  have := hT t h.2.1 h.2.2.1
  rw [h.1.1 5 t (wP_no htx (by decide) (by decide)), h.1.2.1 6 rfl]
  exact this.2
def wTk (a k : Nat) : Bool := a == 1 && (k == 5 || k == 6 || k == 7)
theorem w_refuse {t : Nat} {x : Int32} (htx : 30 ≤ tx) (hT : TKC b n σc) (h : RC b n tx σc t σ) : Ok (f_X6_refuse x σ) (fun r s => r = 0 ∧ FLT tx σc (x.toInt, plI b n t) s) := by
  have ht := h.2.1
  unfold f_X6_refuse
  refine Ok.bd ?_
  have a5 : (hI σ 1 2 x).1 1 5 = nI t := by rw [rI_k (by decide)]; exact h.2.2.2.1
  rw [a5, nIt (by omega), Int.toNat_natCast]
  refine Ok.t (by omega) (Ok.bd (Ok.ret ⟨rfl, ?_, ?_, ?_, ?_⟩))
  · rw [rI_k (by decide), rI_s]
  · rw [rI_s, rI_i (by decide)]; exact (RC.tk htx hT h).1
  · exact (h.1.I wP_1).I wP_1
  · rw [rI_i (by omega), rI_i (by omega)]; exact h.2.2.2.2.2
theorem w_take {t : Nat} {K0 : Nat} {d : Int32} (htx : 30 ≤ tx) (hT : TKC b n σc) (h40 : K0 < 40) (hK : vK K0 = true) (hd : d.toInt = ckind K0) (h0 : K0 ≠ 0) (h3 : K0 ≠ 3) (h : RC b n tx σc t σ) : Ok (f_X6_take d σ) (PostC (FLT tx σc) (tkS (kdT b n) (plI b n) K0 t) (fun t1 s => t1 = t + 1 ∧ t < 400 ∧ kdT b n t = K0 ∧ RC b n tx σc (t + 1) s ∧ (kdT b n t = 2 → (s.1 1 7).toInt = vlT b n t) ∧ frm wTk wl0 σ s)) := by
  have ht := h.2.1
  have tk := RC.tk htx hT h
  unfold f_X6_take
  refine Ok.i (fun c => ?_) (fun c => ?_)
  · have ck : kdT b n t = K0 := (h.kd K0 h40 hK hd).mp c
    rw [h.2.2.2.1, nIt (by omega)]
    refine Ok.f (by omega) ?_
    refine Ok.i (fun c1 => ?_) (fun c1 => ?_)
    · refine Ok.t (by omega) (Ok.bd ?_)
      rw [rI_k (show (5 : Nat) ≠ 7 by decide), h.2.2.2.1, nI_1]
      refine Ok.bd ?_
      rw [rI_s, nIt (by omega)]
      refine Ok.t (by omega) (Ok.bd (Ok.ret ?_))
      rw [Int.toNat_natCast, Int.toNat_natCast, rI_i (show (4 : Nat) ≠ 1 by decide), rI_i (show (4 : Nat) ≠ 1 by decide)]
      refine PostC.ok (a := t + 1) ?_ ⟨rfl, by omega, ck, ⟨((h.1.I wP_1).I wP_1).I wP_1, by omega, ?_, ?_, ?_, ?_⟩, ?_, ?_⟩
      · unfold tkS advS; rw [if_pos ck, if_neg (by omega)]
      · intro p hp
        by_cases e : p = t
        · rw [e, ck]; exact ⟨by omega, by omega⟩
        · exact h.2.2.1 p (by omega)
      · rw [rI_k (by decide), rI_s]
      · rw [rI_s, h.1.1 4 (t + 1) (wP_no htx (by decide) (by decide))]
        exact (hT (t + 1) (by omega) (fun p hp => by
          by_cases e : p = t
          · rw [e, ck]; exact ⟨by omega, by omega⟩
          · exact h.2.2.1 p (by omega))).1
      · rw [rI_i (by omega), rI_i (by omega), rI_i (by omega)]; exact h.2.2.2.2.2
      · intro h2
        rw [rI_k (by decide), rI_k (by decide), rI_s]
        have e := tk.2.1 h2
        have hv : 0 ≤ vlT b n t ∧ vlT b n t ≤ 9999 := vl_rg h2
        rw [i32_l2i (by rw [e]; omega), e]
      · exact (((frm.rf).I rfl).I rfl).I rfl
    · have e4 : t = 400 := by omega
      unfold f_X6_take_31
      refine PT ?_
      refine (w_refuse htx hT h (x := 2)).mono (fun r s hq => ?_)
      obtain ⟨rfl, hF⟩ := hq
      refine PostC.err ?_ hF
      unfold tkS advS; rw [if_pos ck, if_pos e4]; rfl
  · have ck : ¬ kdT b n t = K0 := fun e => c ((h.kd K0 h40 hK hd).mpr e)
    refine PT ?_
    refine (w_refuse htx hT h (x := 1)).mono (fun r s hq => ?_)
    obtain ⟨rfl, hF⟩ := hq
    refine PostC.err ?_ hF
    unfold tkS; rw [if_neg ck]; rfl
/-! later faults -/
def LTR (σ : HS) (lt : FA) : Prop := (σ.1 1 3).toInt = lt.1 ∧ (lt.1 ≠ 0 → (σ.1 1 4).toInt = lt.2)
def wNl (a k : Nat) : Bool := a == 1 && (k == 3 || k == 4)
theorem RC.keep {t : Nat} {s : HS} {w : Nat → Nat → Bool} {wl : Nat → Bool} (h : RC b n tx σc t σ) (htx : 30 ≤ tx) (hf : frm w wl σ s) (hw : ∀ a k, wP tx a k = false → w a k = false) (hl : ∀ a, wlP a = false → wl a = false) (h5 : w 1 5 = false) (h6 : w 1 6 = false) (h8 : w tx 8 = false) : RC b n tx σc t s := ⟨h.1.tr (hf.mono hw hl), h.2.1, h.2.2.1, by rw [hf.1 1 5 h5]; exact h.2.2.2.1, by rw [hf.1 1 6 h6]; exact h.2.2.2.2.1, by rw [hf.1 tx 8 h8]; exact h.2.2.2.2.2⟩
theorem w1_no {tx a k : Nat} {f : Nat → Bool} (h : wP tx a k = false) : (a == 1 && f k) = false := by
  unfold wP at h
  simp only [Bool.or_eq_false_iff] at h
  rw [h.1]; rfl
theorem wx_no {tx k : Nat} {f : Nat → Bool} (h : 30 ≤ tx) : (tx == 1 && f k) = false := by
  rw [show (tx == 1) = false from by simp; omega]; rfl
theorem wNl_no {tx a k : Nat} (h : wP tx a k = false) : wNl a k = false := w1_no (f := fun k => k == 3 || k == 4) h
theorem wNl_x {tx k : Nat} (h : 30 ≤ tx) : wNl tx k = false := wx_no (f := fun k => k == 3 || k == 4) h
theorem w_noteLater {t : Nat} {x : Int32} {lt : FA} (htx : 30 ≤ tx) (hT : TKC b n σc) (h : RC b n tx σc t σ) (hl : LTR σ lt) (hx : x.toInt ≠ 0) : Okv (f_X6_noteLater x σ) (fun s => RC b n tx σc t s ∧ LTR s (ltS (plI b n) t x.toInt lt) ∧ frm wNl wl0 σ s) := by
  have ht := h.2.1
  unfold f_X6_noteLater
  refine Okv.i (fun c => ?_) (fun c => ?_)
  · refine Okv.bd ?_
    have a5 : (hI σ 1 3 x).1 1 5 = nI t := by rw [rI_k (by decide)]; exact h.2.2.2.1
    rw [a5, nIt (by omega), Int.toNat_natCast]
    refine Okv.t (by omega) (Okv.bd (Okv.ret ?_))
    have hf : frm wNl wl0 σ (hI (hI σ 1 3 x) 1 4 ((hI σ 1 3 x).1 5 t)) := (frm.rf.I rfl).I rfl
    refine ⟨h.keep htx hf (fun a k e => wNl_no e) (fun _ _ => rfl) rfl rfl (wNl_x htx), ?_, hf⟩
    unfold ltS
    rw [if_pos (by rw [← hl.1]; exact c)]
    refine ⟨?_, fun _ => ?_⟩
    · rw [rI_k (by decide), rI_s]
    · rw [rI_s, rI_i (by decide)]; exact (RC.tk htx hT h).1
  · refine Okv.ret ⟨h, ?_, frm.rf⟩
    unfold ltS
    rw [if_neg (by rw [← hl.1]; exact c)]
    exact hl
end RCS
/-! numbers and names -/
def wNm (a k : Nat) : Bool := a == 1 && (k == 3 || k == 4 || k == 5 || k == 6 || k == 7)
def wNa (a k : Nat) : Bool := a == 1 && (k == 3 || k == 4 || k == 5 || k == 6 || k == 7 || k == 9)
theorem wNm_x {tx k : Nat} (h : 30 ≤ tx) : wNm tx k = false := wx_no (f := fun k => k == 3 || k == 4 || k == 5 || k == 6 || k == 7) h
theorem wTk_Nm {a k : Nat} (h : wNm a k = false) : wTk a k = false := by
  unfold wNm wTk at *
  cases e : (a == 1) with
  | false => rfl
  | true => rw [e] at h; simp at h ⊢; omega
theorem wNl_Nm {a k : Nat} (h : wNm a k = false) : wNl a k = false := by
  unfold wNm wNl at *
  cases e : (a == 1) with
  | false => rfl
  | true => rw [e] at h; simp at h ⊢; omega
theorem wTk_Na {a k : Nat} (h : wNa a k = false) : wTk a k = false := by
  unfold wNa wTk at *
  cases e : (a == 1) with
  | false => rfl
  | true => rw [e] at h; simp at h ⊢; omega
theorem wNl_Na {a k : Nat} (h : wNa a k = false) : wNl a k = false := by
  unfold wNa wNl at *
  cases e : (a == 1) with
  | false => rfl
  | true => rw [e] at h; simp at h ⊢; omega
/-- names told so far -/
def NMS (σ : HS) (nc : Nat) (ns : Nat → Int64) : Prop := σ.1 1 9 = nI nc ∧ nc ≤ 12 ∧ ∀ i, i < nc → σ.2.1 7 i = ns i
section RCN
variable {b : Nat → Int32} {n tx : Nat} {σc σ : HS}
theorem LTR.fr {w : Nat → Nat → Bool} {wl : Nat → Bool} {s : HS} {lt : FA} (h : LTR σ lt) (hf : frm w wl σ s) (h3 : w 1 3 = false) (h4 : w 1 4 = false) : LTR s lt := by
  unfold LTR
  rw [hf.1 1 3 h3, hf.1 1 4 h4]
  exact h
theorem NMS.fr {w : Nat → Nat → Bool} {wl : Nat → Bool} {s : HS} {nc : Nat} {ns : Nat → Int64} (h : NMS σ nc ns) (hf : frm w wl σ s) (h9 : w 1 9 = false) (h7 : wl 7 = false) : NMS s nc ns := by
  unfold NMS
  rw [hf.1 1 9 h9, hf.2.1 7 h7]
  exact h
theorem w_number {t : Nat} {x1 x2 : Int32} {lt : FA} (htx : 30 ≤ tx) (hT : TKC b n σc) (h : RC b n tx σc t σ) (hl : LTR σ lt) : Ok (f_X6_takeNumber x1 x2 σ) (PostC (FLT tx σc) (numS (kdT b n) (vlT b n) (plI b n) x1.toInt x2.toInt t lt) (fun a s => a.1 = t + 1 ∧ t < 400 ∧ kdT b n t = 2 ∧ a.2.1 = vlT b n t ∧ RC b n tx σc (t + 1) s ∧ LTR s a.2.2 ∧ (s.1 1 7).toInt = a.2.1 ∧ frm wNm wl0 σ s)) := by
  have ht := h.2.1
  have tk := RC.tk htx hT h
  -- the INT taken, behind what was noted
  have go : ∀ (s : HS) (lt1 : FA), RC b n tx σc t s → LTR s lt1 → frm wNl wl0 σ s → (kdT b n t = 2 → lt1 = (if vlT b n t < x1.toInt ∨ x2.toInt < vlT b n t then ltS (plI b n) t 5 lt else lt)) → Ok (f_X6_takeNumber_41 s) (PostC (FLT tx σc) (numS (kdT b n) (vlT b n) (plI b n) x1.toInt x2.toInt t lt) (fun a s => a.1 = t + 1 ∧ t < 400 ∧ kdT b n t = 2 ∧ a.2.1 = vlT b n t ∧ RC b n tx σc (t + 1) s ∧ LTR s a.2.2 ∧ (s.1 1 7).toInt = a.2.1 ∧ frm wNm wl0 σ s)) := by
    intro s lt1 hs hls hf e
    unfold f_X6_takeNumber_41
    refine PT ?_
    refine PostC.map (w_take (K0 := 2) (d := 21) htx hT (by decide) rfl rfl (by decide) (by decide) hs) (fun a s1 ea ha => ?_)
    obtain ⟨rfl, h4, hk, h1, h2, h3⟩ := ha
    refine ⟨_, rfl, rfl, h4, hk, rfl, h1, ?_, h2 hk, (hf.mono (fun _ _ => wNl_Nm) (fun _ e => e)).tr (h3.mono (fun _ _ => wTk_Nm) (fun _ e => e))⟩
    show LTR s1 (if vlT b n t < x1.toInt ∨ x2.toInt < vlT b n t then ltS (plI b n) t 5 lt else lt)
    rw [← e hk]
    exact hls.fr h3 rfl rfl
  have note : kdT b n t = 2 → (vlT b n t < x1.toInt ∨ x2.toInt < vlT b n t) → Ok (f_X6_takeNumber_36 σ) (PostC (FLT tx σc) (numS (kdT b n) (vlT b n) (plI b n) x1.toInt x2.toInt t lt) (fun a s => a.1 = t + 1 ∧ t < 400 ∧ kdT b n t = 2 ∧ a.2.1 = vlT b n t ∧ RC b n tx σc (t + 1) s ∧ LTR s a.2.2 ∧ (s.1 1 7).toInt = a.2.1 ∧ frm wNm wl0 σ s)) := by
    intro hk hv
    unfold f_X6_takeNumber_36
    refine Ok.cv (w_noteLater (x := 5) htx hT h hl (by decide)) (fun s hs => ?_)
    exact go s _ hs.1 hs.2.1 hs.2.2 (fun _ => by rw [if_pos hv]; rfl)
  unfold f_X6_takeNumber
  rw [h.2.2.2.1, nIt (by omega), Int.toNat_natCast]
  refine Ok.t (by omega) (Ok.bd ?_)
  refine Ok.i (fun c => ?_) (fun c => ?_)
  · have hk : kdT b n t = 2 := (h.kd 2 (by decide) rfl rfl).mp c
    have ev := tk.2.1 hk
    refine Ok.i (fun c1 => ?_) (fun c1 => ?_)
    · rw [lgc_lt, ev, Int32.toInt_toInt64] at c1
      exact note hk (Or.inl c1)
    · rw [lgc_lt, ev, Int32.toInt_toInt64] at c1
      refine Ok.i (fun c2 => ?_) (fun c2 => ?_)
      · rw [lgc_gt, ev, Int32.toInt_toInt64] at c2
        exact note hk (Or.inr c2)
      · rw [lgc_gt, ev, Int32.toInt_toInt64] at c2
        exact go σ lt h hl frm.rf (fun _ => by rw [if_neg (by omega)])
  · have hk : ¬ kdT b n t = 2 := fun e => c ((h.kd 2 (by decide) rfl rfl).mpr e)
    exact go σ lt h hl frm.rf (fun e => absurd e hk)
theorem hasN_s {nc : Nat} {ns : Nat → Int64} {v : Int64} : hasN (nc + 1) ns v = (hasN nc ns v || ns nc == v) := by
  unfold hasN
  rw [List.range_succ, List.any_append]
  simp
theorem ltS_idem {pl : Nat → Int} {t : Nat} {k : Int} {lt : FA} (hk : k ≠ 0) : ltS pl t k (ltS pl t k lt) = ltS pl t k lt := by
  unfold ltS
  by_cases c : lt.1 = 0
  · rw [if_pos c, if_neg hk]
  · rw [if_neg c, if_neg c]
theorem w_name {t nc : Nat} {ns : Nat → Int64} {lt : FA} (htx : 30 ≤ tx) (hT : TKC b n σc) (h : RC b n tx σc t σ) (hl : LTR σ lt) (hn : NMS σ nc ns) (h12 : nc < 12) : Ok (f_X6_takeName σ) (PostC (FLT tx σc) (nameS (kdT b n) (plI b n) (nmT b n) t nc ns lt) (fun a s => a.1 = t + 1 ∧ t < 400 ∧ RC b n tx σc (t + 1) s ∧ LTR s a.2 ∧ NMS s (nc + 1) (upN ns nc (nmT b n t)) ∧ frm wNa wlP σ s)) := by
  have ht := h.2.1
  have tk := RC.tk htx hT h
  generalize hQ : PostC (FLT tx σc) (nameS (kdT b n) (plI b n) (nmT b n) t nc ns lt) (fun a s => a.1 = t + 1 ∧ t < 400 ∧ RC b n tx σc (t + 1) s ∧ LTR s a.2 ∧ NMS s (nc + 1) (upN ns nc (nmT b n t)) ∧ frm wNa wlP σ s) = Q
  -- behind the loop
  have fin : ∀ (s : HS) (v : Int64) (lt1 : FA) (k : Int32 → HS → Option (Int32 × HS)), RC b n tx σc t s → LTR s lt1 → NMS s nc ns → frm wNl wl0 σ s → (kdT b n t = 1 → v = nmT b n t) → (kdT b n t = 1 → lt1 = (if hasN nc ns (nmT b n t) = true then ltS (plI b n) t 3 lt else lt)) → Ok (if (s.1 1 9).toInt < 12 then (if 0 ≤ (s.1 1 9).toInt ∧ (s.1 1 9).toInt < 12 then Bd (hL s 7 (s.1 1 9).toInt.toNat v) fun σ1 => Bd (hI σ1 1 9 ((σ1.1 1 9) + (1 : Int32))) fun σ2 => f_X6_takeName_86 σ2 else none) else f_X6_takeName_86 s) Q := by
    intro s v lt1 k hs hls hns hf ev e
    rw [hns.1, nIt (by omega), Int.toNat_natCast]
    refine Ok.t (by omega) (Ok.t (by omega) (Ok.bd ?_))
    rw [rL_1, hns.1, nI_1]
    refine Ok.bd ?_
    unfold f_X6_takeName_86
    generalize hs2 : hI (hL s 7 nc v) 1 9 (nI (nc + 1)) = s2
    have hf2 : frm (fun a k => a == 1 && k == 9) wlP s s2 := by rw [← hs2]; exact (frm.rf.L rfl).I rfl
    have hs2' : RC b n tx σc t s2 := hs.keep htx hf2 (fun a k e => w1_no (f := fun k => k == 9) e) (fun _ e => e) rfl rfl (wx_no (f := fun k => k == 9) htx)
    rw [← hQ]
    refine PT ?_
    refine PostC.map (w_take (K0 := 1) (d := 20) htx hT (by decide) rfl rfl (by decide) (by decide) hs2') (fun a s1 ea ha => ?_)
    obtain ⟨rfl, h4, hk, h1, h2, h3⟩ := ha
    refine ⟨_, rfl, rfl, h4, h1, ?_, ?_, ?_⟩
    · show LTR s1 (if hasN nc ns (nmT b n t) = true then ltS (plI b n) t 3 lt else lt)
      rw [← e hk]
      exact (hls.fr hf2 rfl rfl).fr h3 rfl rfl
    · refine ⟨?_, by omega, fun i hi => ?_⟩
      · rw [h3.1 1 9 rfl, ← hs2, rI_s]
      · rw [h3.2.1 7 rfl, ← hs2]
        show (hL s 7 nc v).2.1 7 i = upN ns nc (nmT b n t) i
        unfold upN
        by_cases c : i = nc
        · rw [c, rL_s, if_pos rfl]; exact ev hk
        · rw [rL_k c, if_neg c]; exact hns.2.2 i (by omega)
    · refine ((hf.mono (fun _ _ => wNl_Na) (fun _ _ => rfl)).tr (hf2.mono (fun a k e => ?_) (fun _ e => e))).tr (h3.mono (fun _ _ => wTk_Na) (fun _ _ => rfl))
      unfold wNa at e
      show (a == 1 && k == 9) = false
      cases e1 : (a == 1) with
      | false => rfl
      | true => rw [e1] at e; simp at e ⊢; omega
  have loop : ∀ (d i N : Nat) (s : HS) (v : Int64) (lt1 : FA), i + d = nc → d < N → RC b n tx σc t s → LTR s lt1 → NMS s nc ns → frm wNl wl0 σ s → (kdT b n t = 1 → v = nmT b n t) → (kdT b n t = 1 → lt1 = (if hasN i ns (nmT b n t) = true then ltS (plI b n) t 3 lt else lt)) → Ok (f_X6_takeName_15 N v (nI i) s) Q := by
    intro d
    induction d with
    | zero =>
      intro i N s v lt1 h1 hN hs hls hns hf ev e
      obtain ⟨N, rfl⟩ : ∃ q, N = q + 1 := ⟨N - 1, by omega⟩
      obtain rfl : i = nc := by omega
      show Ok (b_X6_takeName_15 (f_X6_takeName_15 N) v (nI i) s) Q
      unfold b_X6_takeName_15
      rw [show (nI i).toInt = (i : Int) from nIt (by omega), show (s.1 1 9).toInt = (i : Int) by rw [hns.1]; exact nIt (by omega)]
      refine Ok.f (by omega) ?_
      have := fin s v lt1 (fun _ _ => none) hs hls hns hf ev e
      rw [show (s.1 1 9).toInt = (i : Int) by rw [hns.1]; exact nIt (by omega)] at this
      exact this
    | succ d ih =>
      intro i N s v lt1 h1 hN hs hls hns hf ev e
      obtain ⟨N, rfl⟩ : ∃ q, N = q + 1 := ⟨N - 1, by omega⟩
      show Ok (b_X6_takeName_15 (f_X6_takeName_15 N) v (nI i) s) Q
      unfold b_X6_takeName_15
      have e9 : (s.1 1 9).toInt = (nc : Int) := by rw [hns.1]; exact nIt (by omega)
      rw [nIt (by omega), e9, Int.toNat_natCast]
      refine Ok.t (by omega) ?_
      refine Ok.i (fun c => ?_) (fun c => ?_)
      · have hk : kdT b n t = 1 := (hs.kd 1 (by decide) rfl rfl).mp c
        refine Ok.t (by omega) ?_
        rw [hns.2.2 i (by omega)]
        refine Ok.i (fun c1 => ?_) (fun c1 => ?_)
        · rw [lgc0] at c1
          refine Ok.cv (w_noteLater (x := 3) htx hT hs hls (by decide)) (fun s1 q => ?_)
          simp only [f_X6_takeName_48, Bd, nI_1]
          refine ih (i + 1) N s1 v _ (by omega) (by omega) q.1 q.2.1 (hns.fr q.2.2 rfl rfl) (hf.tr q.2.2) ev (fun _ => ?_)
          rw [hasN_s, show (ns i == nmT b n t) = true by rw [c1, ev hk]; simp, Bool.or_true, if_pos rfl, e hk]
          by_cases c2 : hasN i ns (nmT b n t) = true
          · rw [if_pos c2]; exact ltS_idem (by decide)
          · rw [if_neg c2]; rfl
        · rw [lgc0] at c1
          simp only [f_X6_takeName_48, Bd, nI_1]
          refine ih (i + 1) N s v lt1 (by omega) (by omega) hs hls hns hf ev (fun _ => ?_)
          rw [hasN_s, show (ns i == nmT b n t) = false by rw [← ev hk]; simpa using c1, Bool.or_false]
          exact e hk
      · have hk : ¬ kdT b n t = 1 := fun e => c ((hs.kd 1 (by decide) rfl rfl).mpr e)
        simp only [f_X6_takeName_48, Bd, nI_1]
        exact ih (i + 1) N s v lt1 (by omega) (by omega) hs hls hns hf ev (fun e => absurd e hk)
  unfold f_X6_takeName
  rw [h.2.2.2.1, nIt (by omega), Int.toNat_natCast]
  refine Ok.t (by omega) (Ok.bd ?_)
  rw [nI0]
  exact loop nc 0 5000 σ _ lt (by omega) (by omega) h hl hn frm.rf (fun e => tk.2.2 e) (fun _ => by
    rw [show hasN 0 ns (nmT b n t) = false from rfl, if_neg (by decide)])
end RCN
/-! the class's expressions -/
def encI (q : OPC) : Int := if q.1 = 0 then q.2 else if q.1 = 1 then -10 - q.2 else 1 - (q.1 : Int)
def enc (c : COD) : List Int := c.map encI
def seg (σ : HS) (a p : Nat) (l : List Int) : Prop := ∀ i, i < l.length → (σ.1 a (p + i)).toInt = l.getD i 0
theorem gD_l {l m : List Int} {i : Nat} (h : i < l.length) : (l ++ m).getD i 0 = l.getD i 0 := by rw [List.getD_eq_getElem?_getD, List.getD_eq_getElem?_getD, List.getElem?_append_left h]
theorem gD_r {l m : List Int} {i : Nat} (h : l.length ≤ i) : (l ++ m).getD i 0 = m.getD (i - l.length) 0 := by rw [List.getD_eq_getElem?_getD, List.getD_eq_getElem?_getD, List.getElem?_append_right h]
theorem seg.app {σ : HS} {a p : Nat} {l m : List Int} (h1 : seg σ a p l) (h2 : seg σ a (p + l.length) m) : seg σ a p (l ++ m) := by
  intro i hi
  rw [List.length_append] at hi
  by_cases c : i < l.length
  · rw [gD_l c]; exact h1 i c
  · rw [gD_r (by omega), show p + i = p + l.length + (i - l.length) by omega]
    exact h2 _ (by omega)
theorem seg.one {σ : HS} {a p : Nat} {x : Int} (h : (σ.1 a p).toInt = x) : seg σ a p [x] := by
  intro i hi
  have : i = 0 := by simpa using hi
  subst this
  simpa using h
theorem seg.nil {σ : HS} {a p : Nat} : seg σ a p [] := fun i hi => absurd hi (by simp)
theorem seg.same {σ s : HS} {a p : Nat} {l : List Int} (h : seg σ a p l) (e : ∀ q, p ≤ q → q < p + l.length → s.1 a q = σ.1 a q) : seg s a p l := fun i hi => by rw [e _ (by omega) (by omega)]; exact h i hi
theorem enc_len {c : COD} : (enc c).length = c.length := List.length_map _
theorem enc_app {c d : COD} : enc (c ++ d) = enc c ++ enc d := List.map_append
def wX (tx a k : Nat) : Bool := (a == 1 && (k == 5 || k == 6 || k == 7)) || (a == tx && k == 8) || a == tx + 11
theorem wX_no {tx a k : Nat} (h : wP tx a k = false) : wX tx a k = false := by
  unfold wP at h
  unfold wX
  simp only [Bool.or_eq_false_iff, beq_eq_false_iff_ne, ne_eq, Bool.and_eq_false_iff, decide_eq_false_iff_not] at h ⊢
  refine ⟨⟨Or.inl h.1, Or.inl ?_⟩, ?_⟩ <;> omega
theorem wTk_X {tx a k : Nat} (h : wX tx a k = false) : wTk a k = false := by
  unfold wX at h
  unfold wTk
  simp only [Bool.or_eq_false_iff] at h
  exact h.1.1
theorem wTk_x {tx k : Nat} (h : 30 ≤ tx) : wTk tx k = false := wx_no (f := fun k => k == 5 || k == 6 || k == 7) h
section XRS
variable {b : Nat → Int32} {n tx : Nat} {σc σ : HS}
def txk (tx : Nat) : Prop := tx = 30 ∨ tx = 43
theorem txk.al (h : txk tx) : (Int32.ofNat (al (tx + 11))).toInt = 408 := by rcases h with rfl | rfl <;> rfl
theorem txk.lo (h : txk tx) : 30 ≤ tx := by rcases h with rfl | rfl <;> omega
def wEm (tx a k : Nat) : Bool := (a == tx && k == 8) || a == tx + 11
theorem wEm_no {tx a k : Nat} (h : wP tx a k = false) : wEm tx a k = false := by
  have := wX_no h
  unfold wX at this
  unfold wEm
  simp only [Bool.or_eq_false_iff] at this ⊢
  exact ⟨this.1.2, this.2⟩
theorem wEm_X {tx a k : Nat} (h : wX tx a k = false) : wEm tx a k = false := by
  unfold wX at h
  unfold wEm
  simp only [Bool.or_eq_false_iff] at h ⊢
  exact ⟨h.1.2, h.2⟩
theorem wEm_1 {k : Nat} (h : txk tx) : wEm tx 1 k = false := by rcases h with rfl | rfl <;> rfl
def emS (tx p : Nat) (x : Int32) (σ : HS) : HS := hI (hI σ (tx + 11) p x) tx 8 (nI (p + 1))
theorem emS_fr {p : Nat} {x : Int32} : frm (wEm tx) wl0 σ (emS tx p x σ) := (frm.rf.I (by unfold wEm; simp)).I (by unfold wEm; simp)
theorem emS_8 {p : Nat} {x : Int32} : (emS tx p x σ).1 tx 8 = nI (p + 1) := rI_s
theorem emS_at {p : Nat} {x : Int32} : (emS tx p x σ).1 (tx + 11) p = x := by unfold emS; rw [rI_i (by omega), rI_s]
theorem emS_ne {p q : Nat} {x : Int32} (h : q ≠ p) : (emS tx p x σ).1 (tx + 11) q = σ.1 (tx + 11) q := by unfold emS; rw [rI_i (by omega), rI_k h]
theorem e_emit {p : Nat} {x : Int32} (htx : txk tx) (hp : σ.1 tx 8 = nI p) (h : p < 408) : f_X10_emit tx x σ = some (emS tx p x σ) := by
  unfold f_X10_emit
  rw [htx.al, hp, nIt (by omega), if_pos (by omega), if_pos (by omega)]
  simp only [Bd]
  rw [rI_i (by omega), hp, nI_1, Int.toNat_natCast]; rfl
theorem w_emit {x : Int32} (htx : txk tx) (h : 0 ≤ (σ.1 tx 8).toInt ∧ (σ.1 tx 8).toInt ≤ 408) : Okv (f_X10_emit tx x σ) (fun s => frm (wEm tx) wl0 σ s ∧ (0 ≤ (s.1 tx 8).toInt ∧ (s.1 tx 8).toInt ≤ 408)) := by
  obtain ⟨p, hp, hp8⟩ : ∃ p : Nat, σ.1 tx 8 = nI p ∧ p ≤ 408 := ⟨(σ.1 tx 8).toInt.toNat, Int32.toInt_inj.mp (by rw [nIt (by omega)]; omega), by omega⟩
  by_cases c : p < 408
  · rw [e_emit htx hp c]
    exact Okv.ret ⟨emS_fr, by rw [emS_8, nIt (by omega)]; omega⟩
  · unfold f_X10_emit
    rw [htx.al]
    exact Okv.f (by rw [hp, nIt (by omega)]; omega) (Okv.ret ⟨frm.rf, h⟩)
theorem FLT.em {e : FA} {x : Int32} (htx : txk tx) (h : FLT tx σc e σ) : Okv (f_X10_emit tx x σ) (FLT tx σc e) := by
  refine (w_emit htx h.2.2.2).mono (fun s hs => ⟨?_, ?_, h.2.2.1.tr (hs.1.mono (fun a k e => wEm_no e) (fun _ _ => rfl)), hs.2⟩)
  · rw [hs.1.1 1 2 (wEm_1 htx)]; exact h.1
  · rw [hs.1.1 1 1 (wEm_1 htx)]; exact h.2.1
/-- what the class's expression, product or unit answers at t, the code's size p, within w open ones; for the waiting rows that cond allows -/
def XR (b : Nat → Int32) (n tx : Nat) (σc : HS) (cond : List Nat → Prop) (kt : Int → Prop) (w t p : Nat) (σ : HS) (r : Int32) (s : HS) : Prop :=
  (r = 1 ∧ ∃ (t1 : Nat) (cs : COD), t < t1 ∧ RC b n tx σc t1 s ∧ s.1 tx 8 = nI (p + cs.length) ∧ seg s (tx + 11) p (enc cs) ∧ cs.length + t ≤ t1 ∧ frm (wX tx) wl0 σ s ∧ (∀ q, q < p → s.1 (tx + 11) q = σ.1 (tx + 11) q) ∧ kt (kdT b n t1) ∧ ∀ S c, depS S = w → cond S → eX (kdT b n) (vlT b n) (plI b n) true t S c = eX (kdT b n) (vlT b n) (plI b n) false t1 S (c ++ cs)) ∨
  (r = 0 ∧ ∃ e, FLT tx σc e s ∧ ∀ S c, depS S = w → cond S → eX (kdT b n) (vlT b n) (plI b n) true t S c = .error e)
theorem RC.em {t : Nat} {s : HS} (htx : txk tx) (h : RC b n tx σc t σ) (hf : frm (wEm tx) wl0 σ s) (h8 : 0 ≤ (s.1 tx 8).toInt ∧ (s.1 tx 8).toInt ≤ 408) : RC b n tx σc t s := ⟨h.1.tr (hf.mono (fun a k e => wEm_no e) (fun _ _ => rfl)), h.2.1, h.2.2.1, by rw [hf.1 1 5 (wEm_1 htx)]; exact h.2.2.2.1, by rw [hf.1 1 6 (wEm_1 htx)]; exact h.2.2.2.2.1, h8⟩
def noS : List Nat → Prop
  | [] => True
  | w :: _ => w = 6 ∨ w = 8 ∨ w = 9
def noX : List Nat → Prop
  | [] => True
  | w :: _ => w = 6
theorem noX_S {S : List Nat} (h : noX S) : noS S := by
  cases S with
  | nil => trivial
  | cons w S => exact Or.inl h
theorem tk_cases {k : Nat} {t : Nat} : tkS (kdT b n) (plI b n) k t = if kdT b n t = k then advS (plI b n) t else .error (1, plI b n t) := rfl
theorem w_unit {fE : Nat → Int32 → HS → Option (Int32 × HS)} {w : Nat} (htx : txk tx) (hT : TKC b n σc) (hw : w ≤ 6) (hE : ∀ (σ : HS) (t p : Nat), w < 6 → RC b n tx σc t σ → σ.1 tx 8 = nI p → p ≤ 8 + t → Ok (fE tx (nI (w + 1)) σ) (XR b n tx σc noX (fun k => ¬ (k = 8 ∨ k = 9) ∧ ¬ (k = 10 ∨ k = 15)) (w + 1) t p σ)) {t p : Nat} (h : RC b n tx σc t σ) (hp : σ.1 tx 8 = nI p) (hpt : p ≤ 8 + t) : Ok (f_X6_unit fE tx (nI w) σ) (XR b n tx σc (fun _ => True) (fun _ => True) w t p σ) := by
  have lo := htx.lo
  have ht := h.2.1
  unfold f_X6_unit
  refine Ok.i (fun c => ?_) (fun c => ?_)
  · have hk : kdT b n t = 2 := (h.kd 2 (by decide) rfl rfl).mp c
    have ee : ∀ S c, eX (kdT b n) (vlT b n) (plI b n) true t S c = (advS (plI b n) t >>= fun t1 => eX (kdT b n) (vlT b n) (plI b n) false t1 S (c ++ [(0, vlT b n t)])) := fun S c => by rw [eX_t ht, if_neg (by omega), if_pos hk]
    refine Ok.cl (w_take (K0 := 2) (d := 21) lo hT (by decide) rfl rfl (by decide) (by decide) h) (fun r s hq => ?_)
    rw [tk_cases, if_pos (by exact hk)] at hq
    by_cases c4 : t = 400
    · unfold advS at hq ee
      rw [if_pos c4] at hq
      obtain ⟨rfl, hF⟩ := hq
      refine Ok.cv (hF.em htx) (fun s1 hF1 => ?_)
      refine Ok.t (by decide) (Ok.ret (Or.inr ⟨rfl, _, hF1, fun S c _ _ => ?_⟩))
      rw [ee, if_pos c4]; rfl
    · unfold advS at hq ee
      rw [if_neg c4] at hq
      obtain ⟨rfl, -, h4, -, hR, hv, hf⟩ := hq
      have hp1 : s.1 tx 8 = nI p := by rw [hf.1 tx 8 (wTk_x lo)]; exact hp
      refine Ok.cve (e_emit htx hp1 (by omega)) (Ok.t (by decide) (Ok.ret (Or.inl ⟨rfl, t + 1, [(0, vlT b n t)], by omega, ?_, emS_8, ?_, by simp; omega, ?_, ?_, trivial, fun S c _ _ => ?_⟩)))
      · exact hR.em htx emS_fr (by rw [emS_8, nIt (by omega)]; omega)
      · exact seg.one (by rw [emS_at]; exact hv hk)
      · exact (hf.mono (fun _ _ => wTk_X) (fun _ e => e)).tr (emS_fr.mono (fun _ _ => wEm_X) (fun _ e => e))
      · intro q hq
        rw [emS_ne (by omega), hf.1 _ _ (by rw [show wTk (tx + 11) q = false from wTk_x (by omega)])]
      · rw [ee, if_neg c4]; rfl
  have hk2 : ¬ kdT b n t = 2 := fun e => c ((h.kd 2 (by decide) rfl rfl).mpr e)
  obtain ⟨kk, k1, k2, k3⟩ := kd_vK b n t
  have ckk : (σ.1 1 6).toInt = ckind (kk : Nat) := by rw [h.2.2.2.2.1, k3]
  -- neither INT nor VAR
  have u67 : ¬ (31 ≤ kdT b n t ∧ kdT b n t ≤ 39) → Ok (f_X6_unit_67 fE tx (nI w) σ) (XR b n tx σc (fun _ => True) (fun _ => True) w t p σ) := by
    intro hv
    -- the one behind ( or SYNTAX
    have u88 : (kdT b n t = 6 → w < 6) → Ok (f_X6_unit_88 fE tx (nI w) σ) (XR b n tx σc (fun _ => True) (fun _ => True) w t p σ) := by
      intro h6
      unfold f_X6_unit_88
      refine Ok.cl (w_take (K0 := 6) (d := 40) lo hT (by decide) rfl rfl (by decide) (by decide) h) (fun r s hq => ?_)
      rw [tk_cases] at hq
      by_cases c6 : kdT b n t = 6
      · have ee : ∀ S c, depS S = w → eX (kdT b n) (vlT b n) (plI b n) true t S c = (advS (plI b n) t >>= fun t1 => eX (kdT b n) (vlT b n) (plI b n) true t1 (6 :: S) c) := fun S c hS => by rw [eX_t ht, if_pos c6, if_neg (by have := h6 c6; omega)]
        rw [if_pos (by exact c6)] at hq
        unfold advS at hq ee
        by_cases c4 : t = 400
        · rw [if_pos c4] at hq
          obtain ⟨rfl, hF⟩ := hq
          exact Ok.t rfl (Ok.ret (Or.inr ⟨rfl, _, hF, fun S c hS _ => by rw [ee S c hS, if_pos c4]; rfl⟩))
        · rw [if_neg c4] at hq
          obtain ⟨rfl, -, h4, -, hR, -, hf⟩ := hq
          refine Ok.f (by decide) ?_
          rw [nI_1]
          refine Ok.cl (hE s (t + 1) p (h6 c6) hR (by rw [hf.1 tx 8 (wTk_x lo)]; exact hp) (by omega)) (fun r s1 hq => ?_)
          rcases hq with ⟨rfl, t1, cs, a1, a2, a3, a4, a5, a6, a7, a8, a9⟩ | ⟨rfl, e, hF, he⟩
          · refine Ok.f (by decide) ?_
            have ht1 := a2.2.1
            have e9 : ∀ S c, depS S = w → eX (kdT b n) (vlT b n) (plI b n) true t S c = eX (kdT b n) (vlT b n) (plI b n) false t1 (6 :: S) (c ++ cs) := fun S c hS => by
              rw [ee S c hS, if_neg c4]
              exact a9 (6 :: S) c (by rw [depS_open, hS]) rfl
            have ef : ∀ S c, eX (kdT b n) (vlT b n) (plI b n) false t1 (6 :: S) c = if kdT b n t1 = 7 then (advS (plI b n) t1 >>= fun t2 => eX (kdT b n) (vlT b n) (plI b n) false t2 S c) else .error (1, plI b n t1) := fun S c => by
              rw [eX_f ht1, if_neg (show ¬ (kdT b n t1 = 8 ∨ kdT b n t1 = 9) from a8.1), if_neg (show ¬ (kdT b n t1 = 10 ∨ kdT b n t1 = 15) from a8.2), if_pos (show 0 < depS (6 :: S) by rw [depS_open]; omega)]
              by_cases c7 : kdT b n t1 = 7
              · rw [if_pos ⟨c7, by rw [depS_open]; omega⟩, if_pos c7]; rfl
              · rw [if_neg (fun h => c7 h.1), if_neg c7]
            refine Ok.cl (w_take (K0 := 7) (d := 41) lo hT (by decide) rfl rfl (by decide) (by decide) a2) (fun r s2 hq => ?_)
            rw [tk_cases] at hq
            by_cases c7 : kdT b n t1 = 7
            · rw [if_pos (by exact c7)] at hq
              unfold advS at hq
              by_cases c5 : t1 = 400
              · rw [if_pos c5] at hq
                obtain ⟨rfl, hF⟩ := hq
                exact Ok.t rfl (Ok.ret (Or.inr ⟨rfl, _, hF, fun S c hS _ => by rw [e9 S c hS, ef, if_pos c7]; unfold advS; rw [if_pos c5]; rfl⟩))
              · rw [if_neg c5] at hq
                obtain ⟨rfl, -, h5, -, hR2, -, hf2⟩ := hq
                refine Ok.f (by decide) (Ok.ret (Or.inl ⟨rfl, t1 + 1, cs, by omega, hR2, ?_, ?_, by omega, ?_, ?_, trivial, fun S c hS _ => ?_⟩))
                · rw [hf2.1 tx 8 (wTk_x lo)]; exact a3
                · exact a4.same (fun q _ _ => hf2.1 _ _ (wTk_x (by omega)))
                · exact ((hf.mono (fun _ _ => wTk_X) (fun _ e => e)).tr a6).tr (hf2.mono (fun _ _ => wTk_X) (fun _ e => e))
                · intro q hq
                  rw [hf2.1 _ _ (wTk_x (by omega)), a7 q hq, hf.1 _ _ (wTk_x (by omega))]
                · rw [e9 S c hS, ef, if_pos c7]; unfold advS; rw [if_neg c5]; rfl
            · rw [if_neg (by exact c7)] at hq
              obtain ⟨rfl, hF⟩ := hq
              exact Ok.t rfl (Ok.ret (Or.inr ⟨rfl, _, hF, fun S c hS _ => by rw [e9 S c hS, ef, if_neg c7]⟩))
          · exact Ok.t rfl (Ok.ret (Or.inr ⟨rfl, e, hF, fun S c hS _ => by
              rw [ee S c hS, if_neg c4]
              exact he (6 :: S) c (by rw [depS_open, hS]) rfl⟩))
      · rw [if_neg (by exact c6)] at hq
        obtain ⟨rfl, hF⟩ := hq
        exact Ok.t rfl (Ok.ret (Or.inr ⟨rfl, _, hF, fun S c hS _ => by rw [eX_t ht, if_neg c6, if_neg hk2, if_neg hv]⟩))
    unfold f_X6_unit_67
    refine Ok.i (fun c1 => ?_) (fun c1 => ?_)
    · have c6 : kdT b n t = 6 := (h.kd 6 (by decide) rfl rfl).mp c1
      rw [nIt (by omega)]
      refine Ok.i (fun c2 => ?_) (fun c2 => ?_)
      · exact u88 (fun _ => by omega)
      · refine Ok.cl (w_refuse lo hT h (x := 2)) (fun r s hq => ?_)
        obtain ⟨rfl, hF⟩ := hq
        exact Ok.t (by decide) (Ok.ret (Or.inr ⟨rfl, _, hF, fun S c hS _ => by rw [eX_t ht, if_pos c6, if_pos (by omega)]; rfl⟩))
    · have c6 : ¬ kdT b n t = 6 := fun e => c1 ((h.kd 6 (by decide) rfl rfl).mpr e)
      exact u88 (fun e => absurd e c6)
  have vt : ∀ k, k < 40 → vK k = true → ((11 ≤ ckind (k : Nat) ∧ ckind (k : Nat) ≤ 19) ↔ 31 ≤ k) := by decide +kernel
  have vv := vt kk k1 k2
  refine Ok.i (fun c1 => u67 (by omega)) (fun c1 => ?_)
  refine Ok.i (fun c2 => u67 (by omega)) (fun c2 => ?_)
  have hk31 : 31 ≤ kk := vv.mp (by omega)
  have ck : ckind (kk : Nat) = (kk : Int) - 20 := by unfold ckind; rw [if_pos (by omega)]
  have e6 : (σ.1 1 6).toInt = (kk : Int) - 20 := by rw [ckk, ck]
  have ee : ∀ S c, eX (kdT b n) (vlT b n) (plI b n) true t S c = (advS (plI b n) t >>= fun t1 => eX (kdT b n) (vlT b n) (plI b n) false t1 S (c ++ [(1, kdT b n t - 31)])) := fun S c => by rw [eX_t ht, if_neg (by omega), if_neg hk2, if_pos (by omega)]
  have ex : (((-10) : Int32) - ((σ.1 1 6) - (11 : Int32))).toInt = -10 - ((kk : Int) - 31) := by
    have e1 : ((σ.1 1 6) - (11 : Int32)).toInt = (kk : Int) - 31 := by rw [i32_sub (by rw [e6, show (11 : Int32).toInt = 11 from rfl]; omega), e6, show (11 : Int32).toInt = 11 from rfl]; omega
    rw [i32_sub (by rw [e1, show (-10 : Int32).toInt = -10 from rfl]; omega), e1]; rfl
  have hp8 : 0 ≤ (σ.1 tx 8).toInt ∧ (σ.1 tx 8).toInt ≤ 408 := h.2.2.2.2.2
  -- behind the emitting
  have fin : ∀ s1 : HS, RC b n tx σc t s1 → frm (wEm tx) wl0 σ s1 → (p < 408 → s1 = emS tx p (((-10) : Int32) - ((σ.1 1 6) - (11 : Int32))) σ) → Ok (Cl (f_X6_take (s1.1 1 6) s1) fun r4 σ3 => if 0 ≤ r4.toInt ∧ r4.toInt ≤ 1 then some (r4, σ3) else none) (XR b n tx σc (fun _ => True) (fun _ => True) w t p σ) := by
    intro s1 hR hf he
    refine Ok.cl (w_take (K0 := kk) (d := s1.1 1 6) lo hT k1 k2 (by rw [hf.1 1 6 (wEm_1 htx)]; exact ckk) (by omega) (by omega) hR) (fun r s hq => ?_)
    rw [tk_cases, if_pos (by exact k3)] at hq
    unfold advS at hq ee
    by_cases c4 : t = 400
    · rw [if_pos c4] at hq
      obtain ⟨rfl, hF⟩ := hq
      exact Ok.t (by decide) (Ok.ret (Or.inr ⟨rfl, _, hF, fun S c _ _ => by rw [ee, if_pos c4]; rfl⟩))
    · rw [if_neg c4] at hq
      obtain ⟨rfl, -, h4, -, hR2, -, hf2⟩ := hq
      have he := he (by omega)
      refine Ok.t (by decide) (Ok.ret (Or.inl ⟨rfl, t + 1, [(1, kdT b n t - 31)], by omega, hR2, ?_, ?_, by simp; omega, ?_, ?_, trivial, fun S c _ _ => ?_⟩))
      · rw [hf2.1 tx 8 (wTk_x lo), he]; exact emS_8
      · refine seg.one ?_
        rw [hf2.1 _ _ (wTk_x (by omega)), he, emS_at, ex]
        show _ = -10 - (kdT b n t - 31)
        omega
      · exact (hf.mono (fun _ _ => wEm_X) (fun _ e => e)).tr (hf2.mono (fun _ _ => wTk_X) (fun _ e => e))
      · intro q hq
        rw [hf2.1 _ _ (wTk_x (by omega)), he, emS_ne (by omega)]
      · rw [ee, if_neg c4]; rfl
  by_cases c8 : p < 408
  · refine Ok.cve (e_emit htx hp c8) ?_
    exact fin _ (h.em htx emS_fr (by rw [emS_8, nIt (by omega)]; omega)) emS_fr (fun _ => rfl)
  · refine Ok.cv (w_emit htx hp8) (fun s1 hs => ?_)
    exact fin s1 (h.em htx hs.1 hs.2) hs.1 (fun h => absurd h c8)
end XRS
section XPR
variable {b : Nat → Int32} {n tx : Nat} {σc σ : HS}
/-- a product: behind the first one -/
theorem w_prod_10 {fE : Nat → Int32 → HS → Option (Int32 × HS)} {w : Nat} (htx : txk tx) (hT : TKC b n σc) (hw : w ≤ 6) (hU : ∀ (σ : HS) (t p : Nat), RC b n tx σc t σ → σ.1 tx 8 = nI p → p ≤ 8 + t → Ok (f_X6_unit fE tx (nI w) σ) (XR b n tx σc (fun _ => True) (fun _ => True) w t p σ)) {t p : Nat} (hpt : p ≤ 8 + t) : ∀ (d N y t1 : Nat) (cs : COD) (s : HS), 401 - t1 < d → d ≤ N → 2 * y + 1 ≤ t1 → t < t1 → RC b n tx σc t1 s → s.1 tx 8 = nI (p + cs.length) → seg s (tx + 11) p (enc cs) → cs.length + t ≤ t1 → frm (wX tx) wl0 σ s → (∀ q, q < p → s.1 (tx + 11) q = σ.1 (tx + 11) q) → (∀ S c, depS S = w → noS S → eX (kdT b n) (vlT b n) (plI b n) true t S c = eX (kdT b n) (vlT b n) (plI b n) false t1 S (c ++ cs)) → Ok (f_X6_product_10 fE tx N (nI w) 1 (nI y) s) (XR b n tx σc noS (fun k => ¬ (k = 10 ∨ k = 15)) w t p σ) := by
  have lo := htx.lo
  intro d
  induction d with
  | zero => intro N y t1 cs s h; omega
  | succ d ih =>
    intro N y t1 cs s hd hN hy htt hR h8 hsg hlen hfr hbe hsp
    obtain ⟨N, rfl⟩ : ∃ q, N = q + 1 := ⟨N - 1, by omega⟩
    have ht1 := hR.2.1
    show Ok (b_X6_product_10 fE tx (f_X6_product_10 fE tx N) (nI w) 1 (nI y) s) _
    unfold b_X6_product_10
    refine Ok.f (by decide) ?_
    -- a refusal goes out
    have out : ∀ (s1 : HS) (e : FA) (v0 : Int32), FLT tx σc e s1 → (∀ S c, depS S = w → noS S → eX (kdT b n) (vlT b n) (plI b n) true t S c = .error e) → Ok (f_X6_product_85 fE tx (f_X6_product_10 fE tx N) (nI w) 0 (nI y) v0 s1) (XR b n tx σc noS (fun k => ¬ (k = 10 ∨ k = 15)) w t p σ) := by
      intro s1 e v0 hF he
      unfold f_X6_product_85
      refine Ok.cv (hF.em htx) (fun s2 hF2 => ?_)
      refine Ok.bd ?_
      obtain ⟨N1, rfl⟩ : ∃ q, N = q + 1 := ⟨N - 1, by omega⟩
      show Ok (b_X6_product_10 fE tx (f_X6_product_10 fE tx N1) (nI w) 0 (nI y + 1) s2) _
      unfold b_X6_product_10
      exact Ok.t rfl (Ok.t (by decide) (Ok.ret (Or.inr ⟨rfl, e, hF2, he⟩)))
    have out68 : ∀ (s1 : HS) (e : FA) (z : Int32), FLT tx σc e s1 → (∀ S c, depS S = w → noS S → eX (kdT b n) (vlT b n) (plI b n) true t S c = .error e) → Ok (f_X6_product_68 fE tx (f_X6_product_10 fE tx N) (nI w) (nI y) z s1) (XR b n tx σc noS (fun k => ¬ (k = 10 ∨ k = 15)) w t p σ) := by
      intro s1 e z hF he
      unfold f_X6_product_68 f_X6_product_69
      exact Ok.i (fun _ => out s1 e _ hF he) (fun _ => out s1 e _ hF he)
    -- one more, behind the sign
    have more : ∀ (K0 : Nat) (v0 : Int32), (K0 = 10 ∨ K0 = 15) → K0 < 40 → vK K0 = true → kdT b n t1 = K0 → (∀ k' : Int32 → Int32 → Int32 → HS → Option (Int32 × HS), ∀ s1 : HS, f_X6_product_69 fE tx k' (nI w) (nI y) (s.1 1 6) 1 s1 = f_X6_product_85 fE tx k' (nI w) 1 (nI y) v0 s1) → v0.toInt = encI (opk K0, 0) → Ok (f_X6_product_32 fE tx (f_X6_product_10 fE tx N) (nI w) 1 (nI y) s) (XR b n tx σc noS (fun k => ¬ (k = 10 ∨ k = 15)) w t p σ) := by
      intro K0 v0 hK h40 hv hk h69 hv0
      have ee : ∀ S c, noS S → eX (kdT b n) (vlT b n) (plI b n) false t1 S c = (advS (plI b n) t1 >>= fun t2 => eX (kdT b n) (vlT b n) (plI b n) true t2 (K0 :: S) c) := fun S c hS => by
        have eo : outS true S c = (S, c) := by
          cases S with
          | nil => rfl
          | cons w1 S1 => exact if_pos ((show w1 = 6 ∨ w1 = 8 ∨ w1 = 9 from hS).imp id (fun h => ⟨rfl, h⟩))
        rw [eX_f ht1, if_neg (by omega), if_neg (by omega), if_pos (by omega), eo, hk]; rfl
      unfold f_X6_product_32
      rw [nIt (by omega)]
      refine Ok.t (by omega) (Ok.bd ?_)
      refine Ok.cl (w_take (K0 := K0) (d := s.1 1 6) lo hT h40 hv (by rw [hR.2.2.2.2.1, hk]) (by omega) (by omega) hR) (fun r s1 hq => ?_)
      rw [tk_cases, if_pos (by exact hk)] at hq
      unfold advS at hq ee
      by_cases c4 : t1 = 400
      · rw [if_pos c4] at hq
        obtain ⟨rfl, hF⟩ := hq
        exact Ok.t rfl (out68 s1 _ _ hF (fun S c hS hc => by rw [hsp S c hS hc, ee S _ hc, if_pos c4]; rfl))
      · rw [if_neg c4] at hq
        obtain ⟨rfl, -, h4, -, hR1, -, hf1⟩ := hq
        refine Ok.f (by decide) ?_
        have h81 : s1.1 tx 8 = nI (p + cs.length) := by rw [hf1.1 tx 8 (wTk_x lo)]; exact h8
        refine Ok.cl (hU s1 (t1 + 1) (p + cs.length) hR1 h81 (by omega)) (fun r s2 hq => ?_)
        rcases hq with ⟨rfl, t2, cs2, a1, a2, a3, a4, a5, a6, a7, a8, a9⟩ | ⟨rfl, e, hF, he⟩
        · refine Ok.f (by decide) ?_
          rw [h69]
          unfold f_X6_product_85
          have ht2 := a2.2.1
          have a3' : s2.1 tx 8 = nI (p + cs.length + cs2.length) := a3
          refine Ok.cve (e_emit htx a3' (by omega)) (Ok.bd ?_)
          rw [nI_1]
          have ec : ∀ S c, depS S = w → noS S → eX (kdT b n) (vlT b n) (plI b n) true t S c = eX (kdT b n) (vlT b n) (plI b n) false t2 S (c ++ (cs ++ cs2 ++ [(opk K0, 0)])) := fun S c hS hc => by
            rw [hsp S c hS hc, ee S _ hc, if_neg c4]
            show eX (kdT b n) (vlT b n) (plI b n) true (t1 + 1) (K0 :: S) (c ++ cs) = _
            rw [a9 (K0 :: S) _ (by rw [depS_op (by omega)]; exact hS) (by trivial), eX_popS ht2 hK]
            simp
          refine ih N (y + 1) t2 (cs ++ cs2 ++ [(opk K0, 0)]) _ (by omega) (by omega) (by omega) (by omega) (a2.em htx emS_fr (by rw [emS_8, nIt (by omega)]; omega)) ?_ ?_ ?_ ?_ ?_ ec
          · rw [emS_8]; exact congrArg nI (by simp; omega)
          · rw [enc_app, enc_app]
            refine seg.app (seg.app ?_ ?_) ?_
            · refine hsg.same (fun q h1 h2 => ?_)
              rw [enc_len] at h2
              rw [emS_ne (by omega), a7 q (by omega), hf1.1 _ _ (wTk_x (by omega))]
            · rw [enc_len]
              refine a4.same (fun q h1 h2 => ?_)
              rw [enc_len] at h2
              rw [emS_ne (by omega)]
            · rw [List.length_append, enc_len, enc_len, ← Nat.add_assoc]
              exact seg.one (by rw [emS_at]; exact hv0)
          · simp; omega
          · exact ((hfr.tr (hf1.mono (fun _ _ => wTk_X) (fun _ e => e))).tr a6).tr (emS_fr.mono (fun _ _ => wEm_X) (fun _ e => e))
          · intro q hq
            rw [emS_ne (by omega), a7 q (by omega), hf1.1 _ _ (wTk_x (by omega)), hbe q hq]
        · exact Ok.t rfl (out68 s2 e _ hF (fun S c hS hc => by
            rw [hsp S c hS hc, ee S _ hc, if_neg c4]
            exact he (K0 :: S) _ (by rw [depS_op (by omega)]; exact hS) (by trivial)))
    refine Ok.i (fun c1 => ?_) (fun c1 => ?_)
    · exact more 10 (-3) (Or.inl rfl) (by decide) rfl ((hR.kd 10 (by decide) rfl rfl).mp c1) (fun k' s1 => by unfold f_X6_product_69; rw [if_pos c1]) rfl
    · have n1 : ¬ kdT b n t1 = 10 := fun e => c1 ((hR.kd 10 (by decide) rfl rfl).mpr e)
      refine Ok.i (fun c2 => ?_) (fun c2 => ?_)
      · exact more 15 (-4) (Or.inr rfl) (by decide) rfl ((hR.kd 15 (by decide) rfl rfl).mp c2) (fun k' s1 => by unfold f_X6_product_69; rw [if_neg c1]) rfl
      · have n2 : ¬ kdT b n t1 = 15 := fun e => c2 ((hR.kd 15 (by decide) rfl rfl).mpr e)
        exact Ok.t (by decide) (Ok.ret (Or.inl ⟨rfl, t1, cs, htt, hR, h8, hsg, hlen, hfr, hbe, (by omega), hsp⟩))
theorem w_prod {fE : Nat → Int32 → HS → Option (Int32 × HS)} {w : Nat} (htx : txk tx) (hT : TKC b n σc) (hw : w ≤ 6) (hU : ∀ (σ : HS) (t p : Nat), RC b n tx σc t σ → σ.1 tx 8 = nI p → p ≤ 8 + t → Ok (f_X6_unit fE tx (nI w) σ) (XR b n tx σc (fun _ => True) (fun _ => True) w t p σ)) {t p : Nat} (h : RC b n tx σc t σ) (hp : σ.1 tx 8 = nI p) (hpt : p ≤ 8 + t) : Ok (f_X6_product fE tx (nI w) σ) (XR b n tx σc noS (fun k => ¬ (k = 10 ∨ k = 15)) w t p σ) := by
  unfold f_X6_product
  refine Ok.cl (hU σ t p h hp hpt) (fun r s hq => ?_)
  rcases hq with ⟨rfl, t1, cs, a1, a2, a3, a4, a5, a6, a7, a8, a9⟩ | ⟨rfl, e, hF, he⟩
  · exact w_prod_10 htx hT hw hU hpt 402 5000 0 t1 cs s (by omega) (by omega) (by omega) a1 a2 a3 a4 a5 a6 a7 (fun S c hS hc => a9 S c hS trivial)
  · show Ok (b_X6_product_10 fE tx (f_X6_product_10 fE tx 4999) (nI w) 0 (nI 0) s) _
    unfold b_X6_product_10
    exact Ok.t rfl (Ok.t (by decide) (Ok.ret (Or.inr ⟨rfl, e, hF, fun S c hS hc => he S c hS trivial⟩)))
end XPR
section XEX
variable {b : Nat → Int32} {n tx : Nat} {σc σ : HS}
/-- an expression: behind the first one -/
theorem w_expr_10 {fE : Nat → Int32 → HS → Option (Int32 × HS)} {w : Nat} (htx : txk tx) (hT : TKC b n σc) (hw : w ≤ 6) (hU : ∀ (σ : HS) (t p : Nat), RC b n tx σc t σ → σ.1 tx 8 = nI p → p ≤ 8 + t → Ok (f_X6_product fE tx (nI w) σ) (XR b n tx σc noS (fun k => ¬ (k = 10 ∨ k = 15)) w t p σ)) {t p : Nat} (hpt : p ≤ 8 + t) : ∀ (d N y t1 : Nat) (cs : COD) (s : HS), 401 - t1 < d → d ≤ N → 2 * y + 1 ≤ t1 → t < t1 → RC b n tx σc t1 s → s.1 tx 8 = nI (p + cs.length) → seg s (tx + 11) p (enc cs) → cs.length + t ≤ t1 → frm (wX tx) wl0 σ s → (∀ q, q < p → s.1 (tx + 11) q = σ.1 (tx + 11) q) → ¬ (kdT b n t1 = 10 ∨ kdT b n t1 = 15) → (∀ S c, depS S = w → noX S → eX (kdT b n) (vlT b n) (plI b n) true t S c = eX (kdT b n) (vlT b n) (plI b n) false t1 S (c ++ cs)) → Ok (f_X6_expression_10 fE tx N (nI w) 1 (nI y) s) (XR b n tx σc noX (fun k => ¬ (k = 8 ∨ k = 9) ∧ ¬ (k = 10 ∨ k = 15)) w t p σ) := by
  have lo := htx.lo
  intro d
  induction d with
  | zero => intro N y t1 cs s h; omega
  | succ d ih =>
    intro N y t1 cs s hd hN hy htt hR h8 hsg hlen hfr hbe hkt hsp
    obtain ⟨N, rfl⟩ : ∃ q, N = q + 1 := ⟨N - 1, by omega⟩
    have ht1 := hR.2.1
    show Ok (b_X6_expression_10 fE tx (f_X6_expression_10 fE tx N) (nI w) 1 (nI y) s) _
    unfold b_X6_expression_10
    refine Ok.f (by decide) ?_
    -- a refusal goes out
    have out : ∀ (s1 : HS) (e : FA) (v0 : Int32), FLT tx σc e s1 → (∀ S c, depS S = w → noX S → eX (kdT b n) (vlT b n) (plI b n) true t S c = .error e) → Ok (f_X6_expression_84 fE tx (f_X6_expression_10 fE tx N) (nI w) 0 (nI y) v0 s1) (XR b n tx σc noX (fun k => ¬ (k = 8 ∨ k = 9) ∧ ¬ (k = 10 ∨ k = 15)) w t p σ) := by
      intro s1 e v0 hF he
      unfold f_X6_expression_84
      refine Ok.cv (hF.em htx) (fun s2 hF2 => ?_)
      refine Ok.bd ?_
      obtain ⟨N1, rfl⟩ : ∃ q, N = q + 1 := ⟨N - 1, by omega⟩
      show Ok (b_X6_expression_10 fE tx (f_X6_expression_10 fE tx N1) (nI w) 0 (nI y + 1) s2) _
      unfold b_X6_expression_10
      exact Ok.t rfl (Ok.t (by decide) (Ok.ret (Or.inr ⟨rfl, e, hF2, he⟩)))
    have out68 : ∀ (s1 : HS) (e : FA) (z : Int32), FLT tx σc e s1 → (∀ S c, depS S = w → noX S → eX (kdT b n) (vlT b n) (plI b n) true t S c = .error e) → Ok (f_X6_expression_68 fE tx (f_X6_expression_10 fE tx N) (nI w) (nI y) z s1) (XR b n tx σc noX (fun k => ¬ (k = 8 ∨ k = 9) ∧ ¬ (k = 10 ∨ k = 15)) w t p σ) := by
      intro s1 e z hF he
      unfold f_X6_expression_68 f_X6_expression_69
      exact Ok.i (fun _ => out s1 e _ hF he) (fun _ => out s1 e _ hF he)
    -- one more, behind the sign
    have more : ∀ (K0 : Nat) (v0 : Int32), (K0 = 8 ∨ K0 = 9) → K0 < 40 → vK K0 = true → kdT b n t1 = K0 → (∀ k' : Int32 → Int32 → Int32 → HS → Option (Int32 × HS), ∀ s1 : HS, f_X6_expression_69 fE tx k' (nI w) (nI y) (s.1 1 6) 1 s1 = f_X6_expression_84 fE tx k' (nI w) 1 (nI y) v0 s1) → v0.toInt = encI (opk K0, 0) → Ok (f_X6_expression_32 fE tx (f_X6_expression_10 fE tx N) (nI w) 1 (nI y) s) (XR b n tx σc noX (fun k => ¬ (k = 8 ∨ k = 9) ∧ ¬ (k = 10 ∨ k = 15)) w t p σ) := by
      intro K0 v0 hK h40 hv hk h69 hv0
      have ee : ∀ S c, noX S → eX (kdT b n) (vlT b n) (plI b n) false t1 S c = (advS (plI b n) t1 >>= fun t2 => eX (kdT b n) (vlT b n) (plI b n) true t2 (K0 :: S) c) := fun S c hS => by
        have eo : outS false S c = (S, c) := by
          cases S with
          | nil => rfl
          | cons w1 S1 => exact if_pos (Or.inl hS)
        rw [eX_f ht1, if_neg (by omega), if_pos (by omega), eo, hk]; rfl
      unfold f_X6_expression_32
      rw [nIt (by omega)]
      refine Ok.t (by omega) (Ok.bd ?_)
      refine Ok.cl (w_take (K0 := K0) (d := s.1 1 6) lo hT h40 hv (by rw [hR.2.2.2.2.1, hk]) (by omega) (by omega) hR) (fun r s1 hq => ?_)
      rw [tk_cases, if_pos (by exact hk)] at hq
      unfold advS at hq ee
      by_cases c4 : t1 = 400
      · rw [if_pos c4] at hq
        obtain ⟨rfl, hF⟩ := hq
        exact Ok.t rfl (out68 s1 _ _ hF (fun S c hS hc => by rw [hsp S c hS hc, ee S _ hc, if_pos c4]; rfl))
      · rw [if_neg c4] at hq
        obtain ⟨rfl, -, h4, -, hR1, -, hf1⟩ := hq
        refine Ok.f (by decide) ?_
        have h81 : s1.1 tx 8 = nI (p + cs.length) := by rw [hf1.1 tx 8 (wTk_x lo)]; exact h8
        refine Ok.cl (hU s1 (t1 + 1) (p + cs.length) hR1 h81 (by omega)) (fun r s2 hq => ?_)
        rcases hq with ⟨rfl, t2, cs2, a1, a2, a3, a4, a5, a6, a7, a8, a9⟩ | ⟨rfl, e, hF, he⟩
        · refine Ok.f (by decide) ?_
          rw [h69]
          unfold f_X6_expression_84
          have ht2 := a2.2.1
          have a3' : s2.1 tx 8 = nI (p + cs.length + cs2.length) := a3
          refine Ok.cve (e_emit htx a3' (by omega)) (Ok.bd ?_)
          rw [nI_1]
          have ec : ∀ S c, depS S = w → noX S → eX (kdT b n) (vlT b n) (plI b n) true t S c = eX (kdT b n) (vlT b n) (plI b n) false t2 S (c ++ (cs ++ cs2 ++ [(opk K0, 0)])) := fun S c hS hc => by
            rw [hsp S c hS hc, ee S _ hc, if_neg c4]
            show eX (kdT b n) (vlT b n) (plI b n) true (t1 + 1) (K0 :: S) (c ++ cs) = _
            rw [a9 (K0 :: S) _ (by rw [depS_op (by omega)]; exact hS) (by exact Or.inr hK), eX_popW ht2 hK a8]
            simp
          refine ih N (y + 1) t2 (cs ++ cs2 ++ [(opk K0, 0)]) _ (by omega) (by omega) (by omega) (by omega) (a2.em htx emS_fr (by rw [emS_8, nIt (by omega)]; omega)) ?_ ?_ ?_ ?_ ?_ a8 ec
          · rw [emS_8]; exact congrArg nI (by simp; omega)
          · rw [enc_app, enc_app]
            refine seg.app (seg.app ?_ ?_) ?_
            · refine hsg.same (fun q h1 h2 => ?_)
              rw [enc_len] at h2
              rw [emS_ne (by omega), a7 q (by omega), hf1.1 _ _ (wTk_x (by omega))]
            · rw [enc_len]
              refine a4.same (fun q h1 h2 => ?_)
              rw [enc_len] at h2
              rw [emS_ne (by omega)]
            · rw [List.length_append, enc_len, enc_len, ← Nat.add_assoc]
              exact seg.one (by rw [emS_at]; exact hv0)
          · simp; omega
          · exact ((hfr.tr (hf1.mono (fun _ _ => wTk_X) (fun _ e => e))).tr a6).tr (emS_fr.mono (fun _ _ => wEm_X) (fun _ e => e))
          · intro q hq
            rw [emS_ne (by omega), a7 q (by omega), hf1.1 _ _ (wTk_x (by omega)), hbe q hq]
        · exact Ok.t rfl (out68 s2 e _ hF (fun S c hS hc => by
            rw [hsp S c hS hc, ee S _ hc, if_neg c4]
            exact he (K0 :: S) _ (by rw [depS_op (by omega)]; exact hS) (by exact Or.inr hK)))
    refine Ok.i (fun c1 => ?_) (fun c1 => ?_)
    · exact more 8 (-1) (Or.inl rfl) (by decide) rfl ((hR.kd 8 (by decide) rfl rfl).mp c1) (fun k' s1 => by unfold f_X6_expression_69; rw [if_pos c1]) rfl
    · have n1 : ¬ kdT b n t1 = 8 := fun e => c1 ((hR.kd 8 (by decide) rfl rfl).mpr e)
      refine Ok.i (fun c2 => ?_) (fun c2 => ?_)
      · exact more 9 (-2) (Or.inr rfl) (by decide) rfl ((hR.kd 9 (by decide) rfl rfl).mp c2) (fun k' s1 => by unfold f_X6_expression_69; rw [if_neg c1]) rfl
      · have n2 : ¬ kdT b n t1 = 9 := fun e => c2 ((hR.kd 9 (by decide) rfl rfl).mpr e)
        exact Ok.t (by decide) (Ok.ret (Or.inl ⟨rfl, t1, cs, htt, hR, h8, hsg, hlen, hfr, hbe, ⟨by omega, hkt⟩, hsp⟩))
theorem w_expr {fE : Nat → Int32 → HS → Option (Int32 × HS)} {w : Nat} (htx : txk tx) (hT : TKC b n σc) (hw : w ≤ 6) (hU : ∀ (σ : HS) (t p : Nat), RC b n tx σc t σ → σ.1 tx 8 = nI p → p ≤ 8 + t → Ok (f_X6_product fE tx (nI w) σ) (XR b n tx σc noS (fun k => ¬ (k = 10 ∨ k = 15)) w t p σ)) {t p : Nat} (h : RC b n tx σc t σ) (hp : σ.1 tx 8 = nI p) (hpt : p ≤ 8 + t) : Ok (g_X6_expression fE tx (nI w) σ) (XR b n tx σc noX (fun k => ¬ (k = 8 ∨ k = 9) ∧ ¬ (k = 10 ∨ k = 15)) w t p σ) := by
  unfold g_X6_expression
  refine Ok.cl (hU σ t p h hp hpt) (fun r s hq => ?_)
  rcases hq with ⟨rfl, t1, cs, a1, a2, a3, a4, a5, a6, a7, a8, a9⟩ | ⟨rfl, e, hF, he⟩
  · exact w_expr_10 htx hT hw hU hpt 402 5000 0 t1 cs s (by omega) (by omega) (by omega) a1 a2 a3 a4 a5 a6 a7 a8 (fun S c hS hc => a9 S c hS (noX_S hc))
  · show Ok (b_X6_expression_10 fE tx (f_X6_expression_10 fE tx 4999) (nI w) 0 (nI 0) s) _
    unfold b_X6_expression_10
    exact Ok.t rfl (Ok.t (by decide) (Ok.ret (Or.inr ⟨rfl, e, hF, fun S c hS hc => he S c hS (noX_S hc)⟩)))
end XEX
section XTOP
variable {b : Nat → Int32} {n tx : Nat} {σc σ : HS}
theorem w_ex (htx : txk tx) (hT : TKC b n σc) : ∀ (m w : Nat), 7 ≤ w + m → w ≤ 6 → ∀ (σ : HS) (t p : Nat), RC b n tx σc t σ → σ.1 tx 8 = nI p → p ≤ 8 + t → Ok (f_X6_expression m tx (nI w) σ) (XR b n tx σc noX (fun k => ¬ (k = 8 ∨ k = 9) ∧ ¬ (k = 10 ∨ k = 15)) w t p σ) := by
  intro m
  induction m with
  | zero => intro w h1 h2; omega
  | succ m ih =>
    intro w h1 h2 σ t p h hp hpt
    show Ok (g_X6_expression (f_X6_expression m) tx (nI w) σ) _
    exact w_expr htx hT h2 (fun σ t p h hp hpt => w_prod htx hT h2 (fun σ t p h hp hpt => w_unit htx hT h2 (fun σ t p hw h hp hpt => ih (w + 1) (by omega) (by omega) σ t p h hp hpt) h hp hpt) h hp hpt) h hp hpt
/-- what a whole expression leaves -/
def KX (b : Nat → Int32) (n tx : Nat) (σc : HS) (t p : Nat) (σ : HS) (a : Nat × COD) (s : HS) : Prop := t < a.1 ∧ RC b n tx σc a.1 s ∧ s.1 tx 8 = nI (p + a.2.length) ∧ seg s (tx + 11) p (enc a.2) ∧ a.2.length + t ≤ a.1 ∧ frm (wX tx) wl0 σ s ∧ (∀ q, q < p → s.1 (tx + 11) q = σ.1 (tx + 11) q)
theorem w_exS (htx : txk tx) (hT : TKC b n σc) {t p : Nat} (h : RC b n tx σc t σ) (hp : σ.1 tx 8 = nI p) (hpt : p ≤ 8 + t) : Ok (f_X6_expression 8 tx 0 σ) (PostC (FLT tx σc) (exS (kdT b n) (vlT b n) (plI b n) t) (KX b n tx σc t p σ)) := by
  rw [nI0]
  refine (w_ex htx hT 8 0 (by omega) (by omega) σ t p h hp hpt).mono (fun r s hq => ?_)
  unfold exS
  rcases hq with ⟨rfl, t1, cs, a1, a2, a3, a4, a5, a6, a7, a8, a9⟩ | ⟨rfl, e, hF, he⟩
  · refine PostC.ok (a := (t1, cs)) ?_ ⟨a1, a2, a3, a4, a5, a6, a7⟩
    rw [a9 [] [] rfl trivial, eX_f a2.2.1, if_neg (fun h => absurd h.2 (by decide)), if_neg a8.1, if_neg a8.2, if_neg (by decide)]
    rfl
  · exact PostC.err (he [] [] rfl trivial) hF
end XTOP
/-! the class's laws -/
def brL (x : COD × COD × COD) : Nat := x.1.length + x.2.1.length + x.2.2.length + 3
def layO (p : Nat) (x : COD × COD × COD) : List Int := enc x.1 ++ enc x.2.1 ++ [-5, ((p + brL x : Nat) : Int)] ++ enc x.2.2 ++ [-6]
def layB : Nat → List (COD × COD × COD) → List Int
  | _, [] => []
  | p, x :: l => layO p x ++ layB (p + brL x) l
def layL (p : Nat) (L : LAWT) : List Int := layB p L.1 ++ enc L.2 ++ [-6]
theorem layO_len {p : Nat} {x : COD × COD × COD} : (layO p x).length = brL x := by unfold layO brL; simp [enc_len]; omega
theorem layB_snoc {x : COD × COD × COD} : ∀ (l : List (COD × COD × COD)) (p : Nat), layB p (l ++ [x]) = layB p l ++ layO (p + (layB p l).length) x := by
  intro l
  induction l with
  | nil => intro p; show layO p x ++ [] = [] ++ layO (p + 0) x; simp
  | cons y l ih =>
    intro p
    show layO p y ++ layB (p + brL y) (l ++ [x]) = (layO p y ++ layB (p + brL y) l) ++ layO _ x
    rw [ih, List.append_assoc]
    congr 3
    show p + brL y + _ = p + (layO p y ++ layB (p + brL y) l).length
    rw [List.length_append, layO_len]; omega
theorem set_mid {A B : List Int} {x y : Int} : (A ++ x :: B).set A.length y = A ++ y :: B := by
  induction A with
  | nil => rfl
  | cons a A ih => show a :: ((A ++ x :: B).set A.length y) = _; rw [ih]; rfl
section LAWC
variable {b : Nat → Int32} {n tx : Nat} {σc σ : HS}
/-- since σ, where the code's size was p, just l has been put down -/
def CD (tx : Nat) (σ : HS) (p : Nat) (l : List Int) (s : HS) : Prop := frm (wX tx) wl0 σ s ∧ s.1 tx 8 = nI (p + l.length) ∧ seg s (tx + 11) p l ∧ ∀ q, q < p → s.1 (tx + 11) q = σ.1 (tx + 11) q
theorem CD.nil {p : Nat} (h : σ.1 tx 8 = nI p) : CD tx σ p [] σ := ⟨frm.rf, h, seg.nil, fun _ _ => rfl⟩
theorem CD.tk {p : Nat} {l : List Int} {s s1 : HS} (h : CD tx σ p l s) (lo : 30 ≤ tx) (hf : frm wTk wl0 s s1) : CD tx σ p l s1 := ⟨h.1.tr (hf.mono (fun _ _ => wTk_X) (fun _ e => e)), by rw [hf.1 tx 8 (wTk_x lo)]; exact h.2.1, h.2.2.1.same (fun q _ _ => hf.1 _ _ (wTk_x (by omega))), fun q hq => by rw [hf.1 _ _ (wTk_x (by omega))]; exact h.2.2.2 q hq⟩
theorem CD.em {p : Nat} {l : List Int} {s : HS} {x : Int32} {v : Int} (h : CD tx σ p l s) (hv : x.toInt = v) : CD tx σ p (l ++ [v]) (emS tx (p + l.length) x s) := ⟨h.1.tr (emS_fr.mono (fun _ _ => wEm_X) (fun _ e => e)), by rw [emS_8]; exact congrArg nI (by simp; omega), seg.app (h.2.2.1.same (fun q _ h2 => emS_ne (by omega))) (seg.one (by rw [emS_at]; exact hv)), fun q hq => by rw [emS_ne (by omega)]; exact h.2.2.2 q hq⟩
theorem CD.add {p : Nat} {l m : List Int} {s s1 : HS} (h : CD tx σ p l s) (h1 : CD tx s (p + l.length) m s1) : CD tx σ p (l ++ m) s1 := ⟨h.1.tr h1.1, by rw [h1.2.1]; exact congrArg nI (by simp; omega), seg.app (h.2.2.1.same (fun q _ h2 => h1.2.2.2 q (by omega))) h1.2.2.1, fun q hq => by rw [h1.2.2.2 q (by omega)]; exact h.2.2.2 q hq⟩
theorem KX.cd {t p : Nat} {a : Nat × COD} {s : HS} (h : KX b n tx σc t p σ a s) : CD tx σ p (enc a.2) s := ⟨h.2.2.2.2.2.1, by rw [enc_len]; exact h.2.2.1, h.2.2.2.1, h.2.2.2.2.2.2⟩
theorem CD.set {p k : Nat} {l : List Int} {s : HS} {x : Int32} {v : Int} (h : CD tx σ p l s) (hk : k < l.length) (hv : x.toInt = v) : CD tx σ p (l.set k v) (hI s (tx + 11) (p + k) x) := by
  refine ⟨h.1.I (by unfold wX; simp), ?_, ?_, ?_⟩
  · rw [rI_i (by omega), List.length_set]; exact h.2.1
  · intro i hi
    rw [List.length_set] at hi
    by_cases e : i = k
    · subst e
      rw [rI_s, hv, List.getD_eq_getElem?_getD, List.getElem?_set_self (by omega)]; rfl
    · rw [rI_k (by omega), List.getD_eq_getElem?_getD, List.getElem?_set_ne (by omega), ← List.getD_eq_getElem?_getD]
      exact h.2.2.1 i hi
  · intro q hq
    rw [rI_k (by omega)]; exact h.2.2.2 q hq
theorem w_cond (htx : txk tx) (hT : TKC b n σc) {t p : Nat} (h : RC b n tx σc t σ) (hp : σ.1 tx 8 = nI p) (hpt : p ≤ 8 + t) : Ok (f_X6_condition tx σ) (PostC (FLT tx σc) (condS (kdT b n) (vlT b n) (plI b n) t) (fun a s => t < a.1 ∧ RC b n tx σc a.1 s ∧ CD tx σ p (layO p a.2) s ∧ brL a.2 + t < a.1)) := by
  have lo := htx.lo
  have ht := h.2.1
  unfold f_X6_condition condS
  refine PB (w_take (K0 := 28) (d := 8) lo hT (by decide) rfl rfl (by decide) (by decide) h) (fun t1 s1 _ h1 => ?_)
  obtain ⟨rfl, -, -, r1, -, f1⟩ := h1
  have d1 := (CD.nil hp).tk lo f1
  refine PB (w_exS htx hT r1 d1.2.1 (by simp; omega)) (fun a s2 _ h2 => ?_)
  have d2 := d1.add h2.cd
  rw [List.nil_append] at d2
  have l2 := h2.2.2.2.2.1
  refine PB (w_take (K0 := 13) (d := 60) lo hT (by decide) rfl rfl (by decide) (by decide) h2.2.1) (fun t3 s3 _ h3 => ?_)
  obtain ⟨rfl, -, -, r3, -, f3⟩ := h3
  have d3 := d2.tk lo f3
  refine PB (w_exS htx hT r3 d3.2.1 (by rw [enc_len]; omega)) (fun a4 s4 _ h4 => ?_)
  have d4 := d3.add h4.cd
  have l4 := h4.2.2.2.2.1
  refine PB (w_take (K0 := 29) (d := 9) lo hT (by decide) rfl rfl (by decide) (by decide) h4.2.1) (fun t5 s5 _ h5 => ?_)
  obtain ⟨rfl, -, -, r5, -, f5⟩ := h5
  have d5 := d4.tk lo f5
  have t5 := r5.2.1
  have n5 : (enc a.2 ++ enc a4.2).length = a.2.length + a4.2.length := by rw [List.length_append, enc_len, enc_len]
  refine Ok.cve (e_emit htx d5.2.1 (by omega)) (Ok.bd ?_)
  have d6 := d5.em (x := -5) (v := -5) rfl
  have r6 := r5.em htx (emS_fr (p := p + (enc a.2 ++ enc a4.2).length) (x := -5)) (by rw [emS_8, nIt (by omega)]; omega)
  rw [d6.2.1]
  have n6 : (enc a.2 ++ enc a4.2 ++ [(-5 : Int)]).length = a.2.length + a4.2.length + 1 := by rw [List.length_append, n5]; rfl
  refine Ok.cve (e_emit htx d6.2.1 (by omega)) ?_
  have d7 := d6.em (x := 0) (v := 0) rfl
  have r7 := r6.em htx (emS_fr (p := p + (enc a.2 ++ enc a4.2 ++ [(-5 : Int)]).length) (x := 0)) (by rw [emS_8, nIt (by omega)]; omega)
  have n7 : (enc a.2 ++ enc a4.2 ++ [(-5 : Int)] ++ [0]).length = a.2.length + a4.2.length + 2 := by rw [List.length_append, n6]; rfl
  refine PB (w_exS htx hT r7 d7.2.1 (by omega)) (fun a8 s8 _ h8 => ?_)
  have d8 := d7.add h8.cd
  have l8 := h8.2.2.2.2.1
  refine PB (w_take (K0 := 30) (d := 10) lo hT (by decide) rfl rfl (by decide) (by decide) h8.2.1) (fun t9 s9 _ h9 => ?_)
  obtain ⟨rfl, -, -, r9, -, f9⟩ := h9
  have d9 := d8.tk lo f9
  have t9 := r9.2.1
  have n9 : (enc a.2 ++ enc a4.2 ++ [(-5 : Int)] ++ [0] ++ enc a8.2).length = a.2.length + a4.2.length + 2 + a8.2.length := by rw [List.length_append, n7, enc_len]
  refine Ok.cve (e_emit htx d9.2.1 (by omega)) ?_
  have d10 := d9.em (x := -6) (v := -6) rfl
  have r10 := r9.em htx (emS_fr (p := p + (enc a.2 ++ enc a4.2 ++ [(-5 : Int)] ++ [0] ++ enc a8.2).length) (x := -6)) (by rw [emS_8, nIt (by omega)]; omega)
  rw [htx.al, nIt (by omega), d10.2.1]
  refine Ok.t (by omega) (Ok.t (by omega) (Ok.bd (Ok.ret (PostC.ok (a := (a8.1 + 1, a.2, a4.2, a8.2)) rfl ⟨by omega, ?_, ?_, ?_⟩))))
  · refine ⟨r10.1.I (wP_tx (by omega) (by omega)), r10.2.1, r10.2.2.1, ?_, ?_, ?_⟩
    · rw [rI_i (by omega)]; exact r10.2.2.2.1
    · rw [rI_i (by omega)]; exact r10.2.2.2.2.1
    · rw [rI_i (by omega)]; exact r10.2.2.2.2.2
  · rw [Int.toNat_natCast]
    have n10 : (enc a.2 ++ enc a4.2 ++ [(-5 : Int)] ++ [0] ++ enc a8.2 ++ [-6]).length = brL (a.2, a4.2, a8.2) := by rw [List.length_append, n9]; unfold brL; simp; omega
    have d11 := d10.set (k := (enc a.2 ++ enc a4.2 ++ [(-5 : Int)]).length) (x := nI (p + (enc a.2 ++ enc a4.2 ++ [(-5 : Int)] ++ [0] ++ enc a8.2 ++ [-6]).length)) (v := ((p + brL (a.2, a4.2, a8.2) : Nat) : Int)) (by rw [n10, n6]; unfold brL; simp; omega) (by rw [n10]; unfold brL; exact nIt (by simp; omega))
    have e : (enc a.2 ++ enc a4.2 ++ [(-5 : Int)] ++ [0] ++ enc a8.2 ++ [-6]).set (enc a.2 ++ enc a4.2 ++ [(-5 : Int)]).length ((p + brL (a.2, a4.2, a8.2) : Nat) : Int) = layO p (a.2, a4.2, a8.2) := by
      rw [show enc a.2 ++ enc a4.2 ++ [(-5 : Int)] ++ [0] ++ enc a8.2 ++ [-6] = (enc a.2 ++ enc a4.2 ++ [(-5 : Int)]) ++ 0 :: (enc a8.2 ++ [-6]) by simp, set_mid]
      unfold layO
      simp
    rw [e] at d11
    exact d11
  · show brL (a.2, a4.2, a8.2) + t < a8.1 + 1
    unfold brL
    simp only
    omega
end LAWC
/-! the class's statements -/
section STC
variable {b : Nat → Int32} {n tx : Nat} {σc σ : HS}
theorem RC.wr {t a k : Nat} {v : Int32} (h : RC b n tx σc t σ) (lo : 30 ≤ tx) (ha : tx ≤ a) (hb : a ≤ tx + 12) (h8 : a ≠ tx ∨ k ≠ 8) : RC b n tx σc t (hI σ a k v) := by
  refine ⟨h.1.I (wP_tx ha hb), h.2.1, h.2.2.1, ?_, ?_, ?_⟩
  · rw [rI_i (by omega)]; exact h.2.2.2.1
  · rw [rI_i (by omega)]; exact h.2.2.2.2.1
  · by_cases e : tx = a
    · subst e; rw [rI_k (by omega)]; exact h.2.2.2.2.2
    · rw [rI_i e]; exact h.2.2.2.2.2
theorem LTR.wr {a k : Nat} {v : Int32} {lt : FA} (h : LTR σ lt) (ha : a ≠ 1) : LTR (hI σ a k v) lt := by
  unfold LTR
  rw [rI_i (Ne.symm ha), rI_i (Ne.symm ha)]; exact h
theorem NMS.wr {a k nc : Nat} {ns : Nat → Int64} {v : Int32} (h : NMS σ nc ns) (ha : a ≠ 1) : NMS (hI σ a k v) nc ns := by
  unfold NMS
  rw [rI_i (Ne.symm ha)]; exact h
/-- what an answer is told of the state by, where only the reader's own places were written -/
def wRd (a k : Nat) : Bool := a == 1 && (k == 3 || k == 4 || k == 5 || k == 6 || k == 7 || k == 9)
theorem wNm_Rd {a k : Nat} (h : wRd a k = false) : wNm a k = false := by
  unfold wRd at h
  unfold wNm
  cases e : (a == 1) with
  | false => rfl
  | true => rw [e] at h; simp at h ⊢; omega
theorem wTk_Rd {a k : Nat} (h : wRd a k = false) : wTk a k = false := wTk_Nm (wNm_Rd h)
theorem wRd_x {a k : Nat} (h : 30 ≤ a) : wRd a k = false := by unfold wRd; rw [show (a == 1) = false by simp; omega]; rfl
def wTh (tx i a k : Nat) : Bool := wRd a k || (a == tx && k == 0) || ((a == tx + 1 || a == tx + 2 || a == tx + 3) && k == i)
theorem wRd_Th {i a k : Nat} (h : wTh tx i a k = false) : wRd a k = false := by unfold wTh at h; simp only [Bool.or_eq_false_iff] at h; exact h.1.1
theorem wTh_w {i a : Nat} (h : a = tx + 1 ∨ a = tx + 2 ∨ a = tx + 3) : wTh tx i a i = true := by
  unfold wTh
  rcases h with rfl | rfl | rfl <;> simp
theorem w_thing {t nT nc : Nat} {ns : Nat → Int64} {lt : FA} (htx : txk tx) (hT : TKC b n σc) (h : RC b n tx σc t σ) (hl : LTR σ lt) (hn : NMS σ nc ns) (h12 : nT < 7 → nc < 12) (h0 : σ.1 tx 0 = nI nT) (h7 : nT ≤ 7) : Ok (f_X6_tellingThing tx σ) (PostC (FLT tx σc) (thingS (kdT b n) (vlT b n) (plI b n) (nmT b n) nT t nc ns lt) (fun a s => t < a.1 ∧ RC b n tx σc a.1 s ∧ LTR s a.2.2 ∧ NMS s (nc + 1) (upN ns nc (nmT b n (t + 1))) ∧ nT < 7 ∧ s.1 tx 0 = nI (nT + 1) ∧ (s.1 (tx + 1) nT).toInt = a.2.1.1 ∧ (s.1 (tx + 2) nT).toInt = a.2.1.2.1 ∧ (s.1 (tx + 3) nT).toInt = a.2.1.2.2 ∧ frm (wTh tx nT) wlP σ s)) := by
  have lo := htx.lo
  unfold f_X6_tellingThing thingS
  refine Ok.bd ?_
  rw [h0, nIt (by omega)]
  by_cases c7 : nT < 7
  · rw [if_pos c7]
    refine Ok.t (by omega) ?_
    refine PB (w_take (K0 := 20) (d := 0) lo hT (by decide) rfl rfl (by decide) (by decide) h) (fun t1 s1 _ h1 => ?_)
    obtain ⟨rfl, -, -, r1, -, f1⟩ := h1
    refine PB (w_name lo hT r1 (hl.fr f1 rfl rfl) (hn.fr f1 rfl rfl) (h12 c7)) (fun a2 s2 _ h2 => ?_)
    obtain ⟨e2, -, r2, l2, n2, f2⟩ := h2
    refine PB (w_number (x1 := 1) (x2 := 9) lo hT (by rw [e2]; exact r2) l2) (fun a3 s3 _ h3 => ?_)
    obtain ⟨e3, -, -, -, r3, l3, v3, f3⟩ := h3
    rw [Int.toNat_natCast]
    refine Ok.t (by omega) (Ok.bd ?_)
    generalize hs4 : hI s3 (tx + 1) nT (s3.1 1 7) = s4
    have r4 : RC b n tx σc a3.1 s4 := by rw [← hs4, e3]; exact r3.wr lo (by omega) (by omega) (Or.inl (by omega))
    have l4 : LTR s4 a3.2.2 := by rw [← hs4]; exact l3.wr (by omega)
    refine PB (w_number (x1 := 0) (x2 := 9) lo hT r4 l4) (fun a5 s5 _ h5 => ?_)
    obtain ⟨e5, -, -, -, r5, l5, v5, f5⟩ := h5
    refine Ok.t (by omega) (Ok.bd ?_)
    generalize hs6 : hI s5 (tx + 2) nT (s5.1 1 7) = s6
    have r6 : RC b n tx σc a5.1 s6 := by rw [← hs6, e5]; exact r5.wr lo (by omega) (by omega) (Or.inl (by omega))
    have l6 : LTR s6 a5.2.2 := by rw [← hs6]; exact l5.wr (by omega)
    refine PB (w_number (x1 := 0) (x2 := 9) lo hT r6 l6) (fun a7 s7 _ h7 => ?_)
    obtain ⟨e7, -, -, -, r7, l7, v7, f7⟩ := h7
    refine Ok.t (by omega) (Ok.bd ?_)
    generalize hs8 : hI s7 (tx + 3) nT (s7.1 1 7) = s8
    have r8 : RC b n tx σc a7.1 s8 := by rw [← hs8, e7]; exact r7.wr lo (by omega) (by omega) (Or.inl (by omega))
    have l8 : LTR s8 a7.2.2 := by rw [← hs8]; exact l7.wr (by omega)
    -- all that has been written since
    have F2 : frm wRd wlP σ s2 := (f1.mono (fun _ _ => wTk_Rd) (fun _ _ => rfl)).tr f2
    have F4 : frm (wTh tx nT) wlP σ s4 := by rw [← hs4]; exact ((F2.tr (f3.mono (fun _ _ => wNm_Rd) (fun _ _ => rfl))).mono (fun _ _ => wRd_Th) (fun _ e => e)).I (wTh_w (Or.inl rfl))
    have F6 : frm (wTh tx nT) wlP σ s6 := by rw [← hs6]; exact (F4.tr (f5.mono (fun _ _ e => wNm_Rd (wRd_Th e)) (fun _ _ => rfl))).I (wTh_w (Or.inr (Or.inl rfl)))
    have F8 : frm (wTh tx nT) wlP σ s8 := by rw [← hs8]; exact (F6.tr (f7.mono (fun _ _ e => wNm_Rd (wRd_Th e)) (fun _ _ => rfl))).I (wTh_w (Or.inr (Or.inr rfl)))
    have g7 : frm wRd wl0 s6 s7 := f7.mono (fun _ _ => wNm_Rd) (fun _ e => e)
    have g5 : frm wRd wl0 s4 s5 := f5.mono (fun _ _ => wNm_Rd) (fun _ e => e)
    have N4 : NMS s4 (nc + 1) (upN ns nc (nmT b n (t + 1))) := by rw [← hs4]; exact (n2.fr f3 rfl rfl).wr (by omega)
    have N6 : NMS s6 (nc + 1) (upN ns nc (nmT b n (t + 1))) := by rw [← hs6]; exact (N4.fr f5 rfl rfl).wr (by omega)
    have N8 : NMS s8 (nc + 1) (upN ns nc (nmT b n (t + 1))) := by rw [← hs8]; exact (N6.fr f7 rfl rfl).wr (by omega)
    have Z8 : s8.1 tx 0 = nI nT := by
      rw [← hs8, rI_i (by omega), g7.1 _ _ (wRd_x lo), ← hs6, rI_i (by omega), g5.1 _ _ (wRd_x lo), ← hs4, rI_i (by omega), (f3.mono (fun _ _ => wNm_Rd) (fun _ e => e) : frm wRd wl0 s2 s3).1 _ _ (wRd_x lo), F2.1 _ _ (wRd_x lo), h0]
    rw [Z8, nI_1]
    refine Ok.bd ?_
    generalize hs9 : hI s8 tx 0 (nI (nT + 1)) = s9
    have r9 : RC b n tx σc a7.1 s9 := by rw [← hs9]; exact r8.wr lo (by omega) (by omega) (Or.inr (by decide))
    have l9 : LTR s9 a7.2.2 := by rw [← hs9]; exact l8.wr (by omega)
    have N9 : NMS s9 (nc + 1) (upN ns nc (nmT b n (t + 1))) := by rw [← hs9]; exact N8.wr (by omega)
    have F9 : frm (wTh tx nT) wlP σ s9 := by rw [← hs9]; exact F8.I (by unfold wTh; simp)
    refine PT ?_
    refine PostC.map (w_take (K0 := 4) (d := 59) lo hT (by decide) rfl rfl (by decide) (by decide) r9) (fun t2 s _ h9 => ?_)
    obtain ⟨rfl, -, -, r, -, f9⟩ := h9
    have g9 : frm wRd wl0 s9 s := f9.mono (fun _ _ => wTk_Rd) (fun _ e => e)
    refine ⟨_, rfl, by simp only; omega, r, l9.fr f9 rfl rfl, N9.fr f9 rfl rfl, c7, ?_, ?_, ?_, ?_, F9.tr (g9.mono (fun _ _ => wRd_Th) (fun _ _ => rfl))⟩
    · rw [g9.1 _ _ (wRd_x lo), ← hs9, rI_s]
    · rw [g9.1 _ _ (wRd_x (by omega)), ← hs9, rI_i (by omega), ← hs8, rI_i (by omega), g7.1 _ _ (wRd_x (by omega)), ← hs6, rI_i (by omega), g5.1 _ _ (wRd_x (by omega)), ← hs4, rI_s]; exact v3
    · rw [g9.1 _ _ (wRd_x (by omega)), ← hs9, rI_i (by omega), ← hs8, rI_i (by omega), g7.1 _ _ (wRd_x (by omega)), ← hs6, rI_s]; exact v5
    · rw [g9.1 _ _ (wRd_x (by omega)), ← hs9, rI_i (by omega), ← hs8, rI_s]; exact v7
  · rw [if_neg c7]
    refine Ok.f (by omega) ?_
    refine PT ?_
    refine (w_refuse lo hT h (x := 2)).mono (fun r s hq => ?_)
    obtain ⟨rfl, hF⟩ := hq
    exact PostC.err rfl hF
end STC
/-! the class's patterns, rests, seed, laws -/
section STD
variable {b : Nat → Int32} {n tx : Nat} {σc σ : HS}
def wPt (tx i a k : Nat) : Bool := wRd a k || (a == tx && k == 4) || a == tx + 5 + i || (a == tx + 10 && k == i)
theorem wRd_Pt {i a k : Nat} (h : wPt tx i a k = false) : wRd a k = false := by unfold wPt at h; simp only [Bool.or_eq_false_iff] at h; exact h.1.1.1
theorem wPt_h {i k : Nat} : wPt tx i (tx + 5 + i) k = true := by unfold wPt; simp
/-- what a told pattern leaves -/
def KP (b : Nat → Int32) (n tx : Nat) (σc : HS) (t nP nc : Nat) (ns : Nat → Int64) (σ : HS) (a : Nat × Nat × (Nat → Int) × FA) (s : HS) : Prop := t < a.1 ∧ RC b n tx σc a.1 s ∧ LTR s a.2.2.2 ∧ NMS s nc ns ∧ s.1 tx 4 = nI (nP + 1) ∧ s.1 (tx + 10) nP = nI a.2.1 ∧ (1 ≤ a.2.1 ∧ a.2.1 ≤ 8) ∧ (∀ i, i < a.2.1 → (s.1 (tx + 5 + nP) i).toInt = a.2.2.1 i) ∧ frm (wPt tx nP) wlP σ s
theorem w_hts (htx : txk tx) (hT : TKC b n σc) {t nP nc : Nat} {ns : Nat → Int64} (h5 : nP < 5) : ∀ (m N k t1 : Nat) (hs : Nat → Int) (lt : FA) (s : HS), k + m = 8 → m < N → 1 ≤ k → t < t1 → RC b n tx σc t1 s → LTR s lt → NMS s nc ns → s.1 tx 4 = nI nP → (∀ i, i < k → (s.1 (tx + 5 + nP) i).toInt = hs i) → frm (wPt tx nP) wlP σ s → Ok (f_X6_tellingPattern_57 tx N (nI nP) (nI k) s) (PostC (FLT tx σc) (htsS (kdT b n) (vlT b n) (plI b n) k hs t1 lt m) (KP b n tx σc t nP nc ns σ)) := by
  have lo := htx.lo
  -- behind the heights
  have fin : ∀ (k t1 : Nat) (hs : Nat → Int) (lt : FA) (s : HS), k ≤ 8 → 1 ≤ k → t < t1 → ¬ kdT b n t1 = 2 → RC b n tx σc t1 s → LTR s lt → NMS s nc ns → s.1 tx 4 = nI nP → (∀ i, i < k → (s.1 (tx + 5 + nP) i).toInt = hs i) → frm (wPt tx nP) wlP σ s → Ok (f_X6_tellingPattern_102 tx (nI nP) (nI k) s) (PostC (FLT tx σc) (tkS (kdT b n) (plI b n) 4 t1 >>= fun t2 => .ok (t2, k, hs, lt)) (KP b n tx σc t nP nc ns σ)) := by
    intro k t1 hs lt s hk hk1 htt hkd hR hl hn h4 hh hF
    unfold f_X6_tellingPattern_102
    refine Ok.f (fun c => hkd ((hR.kd 2 (by decide) rfl rfl).mp c)) ?_
    rw [nIt (by omega), Int.toNat_natCast]
    refine Ok.t (by omega) (Ok.bd ?_)
    rw [rI_i (by omega), h4, nI_1]
    refine Ok.bd ?_
    generalize hs2 : hI (hI s (tx + 10) nP (nI k)) tx 4 (nI (nP + 1)) = s2
    have r2 : RC b n tx σc t1 s2 := by rw [← hs2]; exact (hR.wr lo (by omega) (by omega) (Or.inl (by omega))).wr lo (by omega) (by omega) (Or.inr (by decide))
    have l2 : LTR s2 lt := by rw [← hs2]; exact (hl.wr (by omega)).wr (by omega)
    have n2 : NMS s2 nc ns := by rw [← hs2]; exact (hn.wr (by omega)).wr (by omega)
    have F2 : frm (wPt tx nP) wlP σ s2 := by rw [← hs2]; exact (hF.I (by unfold wPt; simp)).I (by unfold wPt; simp)
    refine PT ?_
    refine PostC.map (w_take (K0 := 4) (d := 59) lo hT (by decide) rfl rfl (by decide) (by decide) r2) (fun t2 s3 _ h9 => ?_)
    obtain ⟨rfl, -, -, r, -, f9⟩ := h9
    have g9 : frm wRd wl0 s2 s3 := f9.mono (fun _ _ => wTk_Rd) (fun _ e => e)
    refine ⟨_, rfl, by simp only; omega, r, l2.fr f9 rfl rfl, n2.fr f9 rfl rfl, ?_, ?_, ⟨hk1, hk⟩, fun i hi => ?_, F2.tr (g9.mono (fun _ _ => wRd_Pt) (fun _ _ => rfl))⟩
    · rw [g9.1 _ _ (wRd_x lo), ← hs2, rI_s]
    · rw [g9.1 _ _ (wRd_x (by omega)), ← hs2, rI_i (by omega), rI_s]
    · rw [g9.1 _ _ (wRd_x (by omega)), ← hs2, rI_i (by omega), rI_i (by omega)]; exact hh i hi
  intro m
  induction m with
  | zero =>
    intro N k t1 hs lt s hk hN hk1 htt hR hl hn h4 hh hF
    obtain ⟨N, rfl⟩ : ∃ q, N = q + 1 := ⟨N - 1, by omega⟩
    show Ok (b_X6_tellingPattern_57 tx (f_X6_tellingPattern_57 tx N) (nI nP) (nI k) s) (PostC _ (if kdT b n t1 = 2 then .error (2, plI b n t1) else _) _)
    unfold b_X6_tellingPattern_57
    by_cases c2 : kdT b n t1 = 2
    · rw [if_pos c2]
      refine Ok.t ((hR.kd 2 (by decide) rfl rfl).mpr c2) (Ok.f (by rw [nIt (by omega)]; omega) ?_)
      unfold f_X6_tellingPattern_102
      refine Ok.t ((hR.kd 2 (by decide) rfl rfl).mpr c2) (PT ?_)
      refine (w_refuse lo hT hR (x := 2)).mono (fun r s hq => ?_)
      obtain ⟨rfl, hF⟩ := hq
      exact PostC.err rfl hF
    · rw [if_neg c2]
      exact Ok.f (fun c => c2 ((hR.kd 2 (by decide) rfl rfl).mp c)) (fin k t1 hs lt s (by omega) hk1 htt c2 hR hl hn h4 hh hF)
  | succ m ih =>
    intro N k t1 hs lt s hk hN hk1 htt hR hl hn h4 hh hF
    obtain ⟨N, rfl⟩ : ∃ q, N = q + 1 := ⟨N - 1, by omega⟩
    show Ok (b_X6_tellingPattern_57 tx (f_X6_tellingPattern_57 tx N) (nI nP) (nI k) s) (PostC _ (if kdT b n t1 = 2 then _ else _) _)
    unfold b_X6_tellingPattern_57
    by_cases c2 : kdT b n t1 = 2
    · rw [if_pos c2]
      refine Ok.t ((hR.kd 2 (by decide) rfl rfl).mpr c2) (Ok.t (by rw [nIt (by omega)]; omega) ?_)
      refine PB (w_number (x1 := 0) (x2 := 9) lo hT hR hl) (fun a s1 _ h1 => ?_)
      obtain ⟨e1, -, -, -, r1, l1, v1, f1⟩ := h1
      have g1 : frm wRd wl0 s s1 := f1.mono (fun _ _ => wNm_Rd) (fun _ e => e)
      rw [nIt (by omega), nIt (by omega), Int.toNat_natCast, Int.toNat_natCast]
      refine Ok.t (by omega) (Ok.t (by omega) (Ok.bd (Ok.bd ?_)))
      rw [nI_1]
      refine ih N (k + 1) a.1 (upI hs k a.2.1) a.2.2 _ (by omega) (by omega) (by omega) (by omega) (by rw [e1]; exact r1.wr lo (by omega) (by omega) (Or.inl (by omega))) (l1.wr (by omega)) ((hn.fr f1 rfl rfl).wr (by omega)) ?_ ?_ ((hF.tr (g1.mono (fun _ _ => wRd_Pt) (fun _ _ => rfl))).I wPt_h)
      · rw [rI_i (by omega), g1.1 _ _ (wRd_x lo)]; exact h4
      · intro i hi
        unfold upI
        by_cases e : i = k
        · rw [e, rI_s, if_pos rfl]; exact v1
        · rw [rI_k e, if_neg e, g1.1 _ _ (wRd_x (by omega))]; exact hh i (by omega)
    · rw [if_neg c2]
      exact Ok.f (fun c => c2 ((hR.kd 2 (by decide) rfl rfl).mp c)) (fin k t1 hs lt s (by omega) hk1 htt c2 hR hl hn h4 hh hF)
theorem w_pattern {t nP nc : Nat} {ns : Nat → Int64} {lt : FA} (htx : txk tx) (hT : TKC b n σc) (h : RC b n tx σc t σ) (hl : LTR σ lt) (hn : NMS σ nc ns) (h12 : nP < 5 → nc < 12) (h0 : σ.1 tx 4 = nI nP) (h7 : nP ≤ 5) : Ok (f_X6_tellingPattern tx σ) (PostC (FLT tx σc) (patS (kdT b n) (vlT b n) (plI b n) (nmT b n) nP t nc ns lt) (fun a s => nP < 5 ∧ KP b n tx σc t nP (nc + 1) (upN ns nc (nmT b n (t + 1))) σ a s)) := by
  have lo := htx.lo
  unfold f_X6_tellingPattern patS
  refine Ok.bd ?_
  rw [h0, nIt (by omega)]
  by_cases c5 : nP < 5
  · rw [if_pos c5]
    refine Ok.t (by omega) ?_
    refine PB (w_take (K0 := 21) (d := 1) lo hT (by decide) rfl rfl (by decide) (by decide) h) (fun t1 s1 _ h1 => ?_)
    obtain ⟨rfl, -, -, r1, -, f1⟩ := h1
    refine PB (w_name lo hT r1 (hl.fr f1 rfl rfl) (hn.fr f1 rfl rfl) (h12 c5)) (fun a2 s2 _ h2 => ?_)
    obtain ⟨e2, -, r2, l2, n2, f2⟩ := h2
    refine PB (w_number (x1 := 0) (x2 := 9) lo hT (by rw [e2]; exact r2) l2) (fun a3 s3 _ h3 => ?_)
    obtain ⟨e3, -, -, -, r3, l3, v3, f3⟩ := h3
    have g3 : frm wRd wl0 s2 s3 := f3.mono (fun _ _ => wNm_Rd) (fun _ e => e)
    have F2 : frm wRd wlP σ s2 := (f1.mono (fun _ _ => wTk_Rd) (fun _ _ => rfl)).tr f2
    rw [Int.toNat_natCast]
    refine Ok.t (by omega) (Ok.bd ?_)
    refine (w_hts (t := t) htx hT c5 7 5000 1 a3.1 (upI (fun _ => 0) 0 a3.2.1) a3.2.2 _ rfl (by omega) (by omega) (by omega) (by rw [e3]; exact r3.wr lo (by omega) (by omega) (Or.inl (by omega))) (l3.wr (by omega)) ((n2.fr f3 rfl rfl).wr (by omega)) ?_ ?_ (((F2.tr (g3.mono (fun _ e => fun h => h) (fun _ _ => rfl))).mono (fun _ _ => wRd_Pt) (fun _ e => e)).I wPt_h)).mono (fun r s hq => ?_)
    · rw [rI_i (by omega), g3.1 _ _ (wRd_x lo), F2.1 _ _ (wRd_x lo)]; exact h0
    · intro i hi
      have : i = 0 := by omega
      subst this
      rw [rI_s]; exact v3
    · revert hq
      cases htsS (kdT b n) (vlT b n) (plI b n) 1 (upI (fun _ => 0) 0 a3.2.1) a3.1 a3.2.2 7 with
      | error e => exact fun hq => hq
      | ok a => exact fun hq => ⟨hq.1, c5, hq.2⟩
  · rw [if_neg c5]
    refine Ok.f (by omega) (PT ?_)
    refine (w_refuse lo hT h (x := 2)).mono (fun r s hq => ?_)
    obtain ⟨rfl, hF⟩ := hq
    exact PostC.err rfl hF
theorem FLT.wr {e : FA} {a k : Nat} {v : Int32} (h : FLT tx σc e σ) (lo : 30 ≤ tx) (ha : tx ≤ a) (hb : a ≤ tx + 12) (h8 : a ≠ tx ∨ k ≠ 8) : FLT tx σc e (hI σ a k v) := by
  refine ⟨?_, ?_, h.2.2.1.I (wP_tx ha hb), ?_⟩
  · rw [rI_i (by omega)]; exact h.1
  · rw [rI_i (by omega)]; exact h.2.1
  · by_cases e : tx = a
    · subst e; rw [rI_k (by omega)]; exact h.2.2.2
    · rw [rI_i e]; exact h.2.2.2
def wOn (tx j a k : Nat) : Bool := wNm a k || (a == tx && k == j)
theorem wNm_On {j a k : Nat} (h : wOn tx j a k = false) : wNm a k = false := by unfold wOn at h; simp only [Bool.or_eq_false_iff] at h; exact h.1
/-- what RESTS or SEED leaves -/
def KO (b : Nat → Int32) (n tx : Nat) (σc : HS) (t j : Nat) (σ : HS) (a : Nat × Int × FA) (s : HS) : Prop := t < a.1 ∧ RC b n tx σc a.1 s ∧ LTR s a.2.2 ∧ (s.1 tx j).toInt = a.2.1 ∧ frm (wOn tx j) wl0 σ s
theorem w_one {t j : Nat} {K0 : Nat} {d x2 : Int32} {lt : FA} {f85 : HS → Option (Int32 × HS)} {f86 : Int32 → HS → Option (Int32 × HS)} (e85 : ∀ s, f85 s = f86 0 s) (e86 : ∀ v s, f86 v s = (Bd (hI s tx j (s.1 1 7)) fun σ1 => if v.toInt = 0 then some (0, σ1) else Cl (f_X6_take 59 σ1) fun r3 σ2 => if r3.toInt = 0 then some (0, σ2) else some (1, σ2))) (htx : txk tx) (hT : TKC b n σc) (h40 : K0 < 40) (hK : vK K0 = true) (hd : d.toInt = ckind K0) (h0 : K0 ≠ 0) (h3 : K0 ≠ 3) (hj : j ≠ 8) (h : RC b n tx σc t σ) (hl : LTR σ lt) : Ok (Cl (f_X6_take d σ) fun r8 σ7 => if r8.toInt = 0 then f85 σ7 else Cl (f_X6_takeNumber 0 x2 σ7) fun r10 σ9 => if r10.toInt = 0 then f85 σ9 else f86 1 σ9) (PostC (FLT tx σc) (oneS (kdT b n) (vlT b n) (plI b n) K0 x2.toInt t lt) (KO b n tx σc t j σ)) := by
  have lo := htx.lo
  unfold oneS
  have out : ∀ {β : Type} (x : Except FA β) (y : β → Except FA (Nat × Int × FA)) (e : FA) (s : HS), x = .error e → FLT tx σc e s → Ok (f85 s) (PostC (FLT tx σc) (x >>= y) (KO b n tx σc t j σ)) := by
    intro β x y e s hx hF
    subst hx
    rw [e85, e86]
    exact Ok.bd (Ok.t rfl (Ok.ret ⟨rfl, hF.wr lo (by omega) (by omega) (Or.inr hj)⟩))
  obtain ⟨r, s1, er, h1⟩ := w_take (K0 := K0) (d := d) lo hT h40 hK hd h0 h3 h
  refine Ok.cle er ?_
  cases ex : tkS (kdT b n) (plI b n) K0 t with
  | error e =>
    rw [ex] at h1
    obtain ⟨rfl, hF⟩ := h1
    exact Ok.t rfl (out _ _ e s1 rfl hF)
  | ok t1 =>
    rw [ex] at h1
    obtain ⟨rfl, rfl, -, -, r1, -, f1⟩ := h1
    refine Ok.f (by decide) ?_
    obtain ⟨r, s2, er2, h2⟩ := w_number (x1 := 0) (x2 := x2) lo hT r1 (hl.fr f1 rfl rfl)
    refine Ok.cle er2 ?_
    show Ok _ (PostC _ (numS (kdT b n) (vlT b n) (plI b n) 0 x2.toInt (t + 1) lt >>= _) _)
    cases ex2 : numS (kdT b n) (vlT b n) (plI b n) (Int32.toInt 0) x2.toInt (t + 1) lt with
    | error e =>
      rw [ex2] at h2
      obtain ⟨rfl, hF⟩ := h2
      exact Ok.t rfl (out _ _ e s2 ex2 hF)
    | ok a =>
      rw [ex2] at h2
      obtain ⟨rfl, e2, -, -, -, r2, l2, v2, f2⟩ := h2
      refine Ok.f (by decide) ?_
      rw [e86]
      have ex3 : numS (kdT b n) (vlT b n) (plI b n) 0 x2.toInt (t + 1) lt = .ok a := ex2
      rw [ex3]
      refine Ok.bd (Ok.f (by decide) ?_)
      have r3 : RC b n tx σc a.1 (hI s2 tx j (s2.1 1 7)) := by rw [e2]; exact r2.wr lo (by omega) (by omega) (Or.inr hj)
      have l3 : LTR (hI s2 tx j (s2.1 1 7)) a.2.2 := l2.wr (by omega)
      have F3 : frm (wOn tx j) wl0 σ (hI s2 tx j (s2.1 1 7)) := ((f1.mono (fun _ _ e => wTk_Nm (wNm_On e)) (fun _ e => e)).tr (f2.mono (fun _ _ e => wNm_On e) (fun _ e => e))).I (by unfold wOn; simp)
      show Ok _ (PostC _ (tkS (kdT b n) (plI b n) 4 a.1 >>= fun t2 => .ok (t2, a.2)) _)
      obtain ⟨r, s4, er4, h4⟩ := w_take (K0 := 4) (d := 59) lo hT (by decide) rfl rfl (by decide) (by decide) r3
      refine Ok.cle er4 ?_
      cases ex4 : tkS (kdT b n) (plI b n) (4 : Nat) a.1 with
      | error e =>
        rw [ex4] at h4
        obtain ⟨rfl, hF⟩ := h4
        refine Ok.t rfl (Ok.ret ?_)
        exact ⟨rfl, hF⟩
      | ok t2 =>
        rw [ex4] at h4
        obtain ⟨rfl, rfl, -, -, r4, -, f4⟩ := h4
        refine Ok.f (by decide) (Ok.ret ?_)
        have g4 : frm wRd wl0 (hI s2 tx j (s2.1 1 7)) s4 := f4.mono (fun _ _ => wTk_Rd) (fun _ e => e)
        refine ⟨rfl, by simp only; omega, r4, l3.fr f4 rfl rfl, ?_, F3.tr (f4.mono (fun _ _ e => wTk_Nm (wNm_On e)) (fun _ e => e))⟩
        rw [g4.1 _ _ (wRd_x lo), rI_s]; exact v2
end STD
/-! the class's laws, its statements, its reading -/
section STE
variable {b : Nat → Int32} {n tx : Nat} {σc σ : HS}
def wLw (tx k0 a k : Nat) : Bool := wX tx a k || (a == tx + 12 && k == k0)
theorem wX_Lw {k0 a k : Nat} (h : wLw tx k0 a k = false) : wX tx a k = false := by unfold wLw at h; simp only [Bool.or_eq_false_iff] at h; exact h.1
/-- what a told law leaves -/
def KL (b : Nat → Int32) (n tx : Nat) (σc : HS) (t p k0 : Nat) (σ : HS) (a : Nat × LAWT) (s : HS) : Prop := t < a.1 ∧ RC b n tx σc a.1 s ∧ s.1 tx 8 = nI (p + (layL p a.2).length) ∧ seg s (tx + 11) p (layL p a.2) ∧ (∀ q, q < p → s.1 (tx + 11) q = σ.1 (tx + 11) q) ∧ p + (layL p a.2).length ≤ 8 + a.1 ∧ s.1 (tx + 12) k0 = nI p ∧ frm (wLw tx k0) wl0 σ s
theorem w_ifs (htx : txk tx) (hT : TKC b n σc) {t p : Nat} : ∀ (m N y t1 : Nat) (brs : List (COD × COD × COD)) (s : HS), y + m = 4 → m < N → t < t1 → RC b n tx σc t1 s → CD tx σ p (layB p brs) s → p + (layB p brs).length + 1 ≤ 8 + t1 → Ok (f_X6_tellingLaw_33 tx N (nI y) s) (PostC (FLT tx σc) (ifsS (kdT b n) (vlT b n) (plI b n) m brs t1) (fun a s => t < a.1 ∧ RC b n tx σc a.1 s ∧ CD tx σ p (layL p a.2) s ∧ p + (layL p a.2).length ≤ 8 + a.1)) := by
  have lo := htx.lo
  have fin : ∀ (t1 : Nat) (brs : List (COD × COD × COD)) (s : HS), t < t1 → ¬ kdT b n t1 = 28 → RC b n tx σc t1 s → CD tx σ p (layB p brs) s → p + (layB p brs).length + 1 ≤ 8 + t1 → Ok (f_X6_tellingLaw_63 tx s) (PostC (FLT tx σc) (lastS (kdT b n) (vlT b n) (plI b n) brs t1) (fun a s => t < a.1 ∧ RC b n tx σc a.1 s ∧ CD tx σ p (layL p a.2) s ∧ p + (layL p a.2).length ≤ 8 + a.1)) := by
    intro t1 brs s htt hk hR hD hp
    unfold f_X6_tellingLaw_63 lastS
    refine Ok.f (fun c => hk ((hR.kd 28 (by decide) rfl rfl).mp c)) ?_
    refine PB (w_exS htx hT hR hD.2.1 (by omega)) (fun a s2 _ h2 => ?_)
    have d2 := hD.add h2.cd
    have l2 := h2.2.2.2.2.1
    have r2 := h2.2.1
    have n2 : (layB p brs ++ enc a.2).length = (layB p brs).length + a.2.length := by rw [List.length_append, enc_len]
    have t2 := r2.2.1
    refine Ok.cve (e_emit htx d2.2.1 (by omega)) ?_
    have d3 := d2.em (x := -6) (v := -6) rfl
    have r3 := r2.em htx (emS_fr (p := p + (layB p brs ++ enc a.2).length) (x := -6)) (by rw [emS_8, nIt (by omega)]; omega)
    refine PT ?_
    refine PostC.map (w_take (K0 := 4) (d := 59) lo hT (by decide) rfl rfl (by decide) (by decide) r3) (fun t3 s4 _ h4 => ?_)
    obtain ⟨rfl, -, -, r4, -, f4⟩ := h4
    refine ⟨_, rfl, by have := h2.1; simp only; omega, r4, d3.tk lo f4, ?_⟩
    show p + (layB p brs ++ enc a.2 ++ [-6]).length ≤ 8 + (a.1 + 1)
    rw [List.length_append, n2]
    simp only [List.length_singleton]
    omega
  intro m
  induction m with
  | zero =>
    intro N y t1 brs s hy hN htt hR hD hp
    obtain ⟨N, rfl⟩ : ∃ q, N = q + 1 := ⟨N - 1, by omega⟩
    show Ok (b_X6_tellingLaw_33 tx (f_X6_tellingLaw_33 tx N) (nI y) s) (PostC _ (if kdT b n t1 = 28 then .error (2, plI b n t1) else _) _)
    unfold b_X6_tellingLaw_33
    by_cases c : kdT b n t1 = 28
    · rw [if_pos c]
      refine Ok.t ((hR.kd 28 (by decide) rfl rfl).mpr c) (Ok.f (by rw [nIt (by omega)]; omega) ?_)
      unfold f_X6_tellingLaw_63
      refine Ok.t ((hR.kd 28 (by decide) rfl rfl).mpr c) (PT ?_)
      refine (w_refuse lo hT hR (x := 2)).mono (fun r s hq => ?_)
      obtain ⟨rfl, hF⟩ := hq
      exact PostC.err rfl hF
    · rw [if_neg c]
      exact Ok.f (fun e => c ((hR.kd 28 (by decide) rfl rfl).mp e)) (fin t1 brs s htt c hR hD hp)
  | succ m ih =>
    intro N y t1 brs s hy hN htt hR hD hp
    obtain ⟨N, rfl⟩ : ∃ q, N = q + 1 := ⟨N - 1, by omega⟩
    show Ok (b_X6_tellingLaw_33 tx (f_X6_tellingLaw_33 tx N) (nI y) s) (PostC _ (if kdT b n t1 = 28 then _ else _) _)
    unfold b_X6_tellingLaw_33
    by_cases c : kdT b n t1 = 28
    · rw [if_pos c]
      refine Ok.t ((hR.kd 28 (by decide) rfl rfl).mpr c) (Ok.t (by rw [nIt (by omega)]; omega) ?_)
      refine PB (w_cond htx hT hR hD.2.1 (by omega)) (fun a s2 _ h2 => ?_)
      obtain ⟨a1, a2, a3, a4⟩ := h2
      have d2 := hD.add a3
      rw [← layB_snoc] at d2
      refine Ok.bd ?_
      rw [nI_1]
      refine ih N (y + 1) a.1 (brs ++ [a.2]) s2 (by omega) (by omega) (by omega) a2 d2 ?_
      rw [layB_snoc, List.length_append, layO_len]
      omega
    · rw [if_neg c]
      exact Ok.f (fun e => c ((hR.kd 28 (by decide) rfl rfl).mp e)) (fin t1 brs s htt c hR hD hp)
theorem w_law {t p k0 : Nat} {x2 : Int32} (htx : txk tx) (hT : TKC b n σc) (h : RC b n tx σc t σ) (hp : σ.1 tx 8 = nI p) (hpt : p ≤ 8 + t) (hk : k0 < 4) (hx : x2.toInt = (k0 : Int) + 2) : Ok (f_X6_tellingLaw tx x2 σ) (PostC (FLT tx σc) (lawS (kdT b n) (vlT b n) (plI b n) (22 + k0 : Nat) t) (KL b n tx σc t p k0 σ)) := by
  have lo := htx.lo
  have ht := h.2.1
  have ek : (x2 - 2).toInt = (k0 : Int) := by rw [i32_sub (by rw [hx, show (2 : Int32).toInt = 2 from rfl]; omega), hx, show (2 : Int32).toInt = 2 from rfl]; omega
  unfold f_X6_tellingLaw lawS
  rw [ek, Int.toNat_natCast, hp]
  refine Ok.t (by omega) (Ok.bd ?_)
  generalize hs1 : hI σ (tx + 12) k0 (nI p) = s1
  have r1 : RC b n tx σc t s1 := by rw [← hs1]; exact h.wr lo (by omega) (by omega) (Or.inl (by omega))
  have p1 : s1.1 tx 8 = nI p := by rw [← hs1, rI_i (by omega)]; exact hp
  refine PB (w_take (K0 := 22 + k0) (d := x2) lo hT (by omega) (by unfold vK; rw [decide_eq_true (show 20 ≤ 22 + k0 by omega)]; simp) (by rw [hx]; unfold ckind; rw [if_pos (by omega)]; omega) (by omega) (by omega) r1) (fun t2 s2 _ h2 => ?_)
  obtain ⟨rfl, -, -, r2, -, f2⟩ := h2
  have d2 := (CD.nil p1).tk lo f2
  refine PB (w_take (K0 := 5) (d := 61) lo hT (by decide) rfl rfl (by decide) (by decide) r2) (fun t3 s3 _ h3 => ?_)
  obtain ⟨rfl, -, -, r3, -, f3⟩ := h3
  have d3 := d2.tk lo f3
  rw [nI0]
  refine (w_ifs (t := t) (σ := s1) (p := p) htx hT 4 5000 0 (t + 1 + 1) [] s3 rfl (by omega) (by omega) r3 d3 (by show p + 0 + 1 ≤ _; omega)).mono (fun r s hq => ?_)
  revert hq
  cases ifsS (kdT b n) (vlT b n) (plI b n) 4 [] (t + 1 + 1) with
  | error e => exact fun hq => hq
  | ok a =>
    rintro ⟨h1, h2, h3, h4, h5⟩
    refine ⟨h1, h2, h3, h4.2.1, h4.2.2.1, fun q hq => ?_, h5, ?_, ?_⟩
    · rw [h4.2.2.2 q hq, ← hs1, rI_i (by omega)]
    · rw [h4.1.1 (tx + 12) k0 (by unfold wX; simp), ← hs1, rI_s]
    · have : frm (wLw tx k0) wl0 σ s1 := by rw [← hs1]; exact frm.rf.I (by unfold wLw; simp)
      exact this.tr (h4.1.mono (fun _ _ => wX_Lw) (fun _ e => e))
/-! what the class's text holds -/
def lawO (k : Nat) (o : Option LAWT) : LAWT := o.getD ([], if k = 2 then [(1, 1)] else [(0, 0)])
def LWC (tx : Nat) (s : HS) (p k : Nat) (L : LAWT) : Prop := ∃ q, s.1 (tx + 12) k = nI q ∧ q + (layL q L).length ≤ p ∧ seg s (tx + 11) q (layL q L)
def DTc (tx : Nat) (s : HS) (d : Nat × (Nat → Int) × (Nat → Int) × (Nat → Int)) : Prop := s.1 tx 0 = nI d.1 ∧ d.1 ≤ 7 ∧ ∀ e, e < d.1 → (s.1 (tx + 1) e).toInt = d.2.1 e ∧ (s.1 (tx + 2) e).toInt = d.2.2.1 e ∧ (s.1 (tx + 3) e).toInt = d.2.2.2 e
def DPc (tx : Nat) (s : HS) (d : Nat × (Nat → Nat) × (Nat → Nat → Int)) : Prop := s.1 tx 4 = nI d.1 ∧ d.1 ≤ 5 ∧ ∀ p, p < d.1 → s.1 (tx + 10) p = nI (d.2.1 p) ∧ (1 ≤ d.2.1 p ∧ d.2.1 p ≤ 8) ∧ ∀ i, i < d.2.1 p → (s.1 (tx + 5 + p) i).toInt = d.2.2 p i
def DRc (tx : Nat) (s : HS) (d : Int × Int) : Prop := (s.1 tx 10).toInt = d.1 ∧ (s.1 tx 11).toInt = d.2
def DLc (tx : Nat) (s : HS) (p : Nat) (d : Nat → Option LAWT) : Prop := ∀ k, k < 4 → LWC tx s p k (lawO k (d k))
/-- between two statements -/
def TCs (b : Nat → Int32) (n tx : Nat) (σc : HS) (S : PST) (s : HS) : Prop := RC b n tx σc S.1 s ∧ NMS s S.2.1.1 S.2.1.2 ∧ LTR s S.2.2.1 ∧ (S.2.1.1 = S.2.2.2.1.1.1 + S.2.2.2.1.2.1) ∧ DTc tx s S.2.2.2.1.1 ∧ DPc tx s S.2.2.2.1.2 ∧ DRc tx s S.2.2.2.2.1 ∧ (∃ p, s.1 tx 8 = nI p ∧ p ≤ 8 + S.1 ∧ DLc tx s p S.2.2.2.2.2) ∧ s.1 1 1 = σc.1 1 1 ∧ s.1 1 2 = σc.1 1 2
theorem DTc.fr {w : Nat → Nat → Bool} {wl : Nat → Bool} {s : HS} {d : Nat × (Nat → Int) × (Nat → Int) × (Nat → Int)} (h : DTc tx σ d) (hf : frm w wl σ s) (h0 : w tx 0 = false) (h1 : ∀ e, w (tx + 1) e = false) (h2 : ∀ e, w (tx + 2) e = false) (h3 : ∀ e, w (tx + 3) e = false) : DTc tx s d := ⟨by rw [hf.1 _ _ h0]; exact h.1, h.2.1, fun e he => by rw [hf.1 _ _ (h1 e), hf.1 _ _ (h2 e), hf.1 _ _ (h3 e)]; exact h.2.2 e he⟩
theorem DPc.fr {w : Nat → Nat → Bool} {wl : Nat → Bool} {s : HS} {d : Nat × (Nat → Nat) × (Nat → Nat → Int)} (h : DPc tx σ d) (hf : frm w wl σ s) (h4 : w tx 4 = false) (h10 : ∀ e, w (tx + 10) e = false) (h5 : ∀ p e, p < 5 → w (tx + 5 + p) e = false) : DPc tx s d := ⟨by rw [hf.1 _ _ h4]; exact h.1, h.2.1, fun p hp => ⟨by rw [hf.1 _ _ (h10 p)]; exact (h.2.2 p hp).1, (h.2.2 p hp).2.1, fun i hi => by rw [hf.1 _ _ (h5 p i (by have := h.2.1; omega))]; exact (h.2.2 p hp).2.2 i hi⟩⟩
theorem DRc.fr {w : Nat → Nat → Bool} {wl : Nat → Bool} {s : HS} {d : Int × Int} (h : DRc tx σ d) (hf : frm w wl σ s) (h10 : w tx 10 = false) (h11 : w tx 11 = false) : DRc tx s d := ⟨by rw [hf.1 _ _ h10]; exact h.1, by rw [hf.1 _ _ h11]; exact h.2⟩
theorem DLc.fr {w : Nat → Nat → Bool} {wl : Nat → Bool} {s : HS} {p : Nat} {d : Nat → Option LAWT} (h : DLc tx σ p d) (hf : frm w wl σ s) (h11 : ∀ e, w (tx + 11) e = false) (h12 : ∀ e, w (tx + 12) e = false) : DLc tx s p d := fun k hk => by
  obtain ⟨q, a, c, e⟩ := h k hk
  exact ⟨q, by rw [hf.1 _ _ (h12 k)]; exact a, c, e.same (fun x _ _ => hf.1 _ _ (h11 x))⟩
theorem w_telling {S : PST} (htx : txk tx) (hT : TKC b n σc) (h : TCs b n tx σc S σ) : Ok (f_X6_telling tx σ) (PostC (FLT tx σc) (tellS (kdT b n) (vlT b n) (plI b n) (nmT b n) S) (fun S1 s => S.1 < S1.1 ∧ TCs b n tx σc S1 s)) := by
  have lo := htx.lo
  obtain ⟨hR, hN, hL, hc, hDT, hDP, hDR, ⟨p, hp, hpt, hDL⟩, hf1, hf2⟩ := h
  unfold f_X6_telling tellS
  by_cases c20 : kdT b n S.1 = 20
  · rw [if_pos c20]
    refine Ok.t ((hR.kd 20 (by decide) rfl rfl).mpr c20) (PT ?_)
    refine PostC.map (w_thing htx hT hR hL hN (fun h7 => by have := hDP.2.1; omega) hDT.1 hDT.2.1) (fun a s _ h1 => ?_)
    obtain ⟨a1, a2, a3, a4, a5, a6, a7, a8, a9, a10⟩ := h1
    refine ⟨_, rfl, a1, a2, a4, a3, by show S.2.1.1 + 1 = S.2.2.2.1.1.1 + 1 + S.2.2.2.1.2.1; omega, ?_, ?_, ?_, ⟨p, ?_, by omega, ?_⟩, ?_, ?_⟩
    · refine ⟨a6, by show S.2.2.2.1.1.1 + 1 ≤ 7; omega, fun e he => ?_⟩
      have he : e < S.2.2.2.1.1.1 + 1 := he
      show _ = upI _ _ _ e ∧ _ = upI _ _ _ e ∧ _ = upI _ _ _ e
      unfold upI
      by_cases c : e = S.2.2.2.1.1.1
      · rw [c, if_pos rfl, if_pos rfl, if_pos rfl]; exact ⟨a7, a8, a9⟩
      · rw [if_neg c, if_neg c, if_neg c]
        have wn : ∀ d, (d = 1 ∨ d = 2 ∨ d = 3) → wTh tx S.2.2.2.1.1.1 (tx + d) e = false := fun d hd => by
          unfold wTh
          rw [wRd_x (by omega)]
          simp only [Bool.false_or, Bool.or_eq_false_iff, Bool.and_eq_false_iff, beq_eq_false_iff_ne]
          exact ⟨Or.inl (by omega), Or.inr c⟩
        rw [a10.1 _ _ (wn 1 (by omega)), a10.1 _ _ (wn 2 (by omega)), a10.1 _ _ (wn 3 (by omega))]
        exact hDT.2.2 e (by omega)
    · refine hDP.fr a10 ?_ (fun e => ?_) (fun p e hp => ?_) <;> (unfold wTh; rw [wRd_x (by omega)]; simp <;> omega)
    · refine hDR.fr a10 ?_ ?_ <;> (unfold wTh; rw [wRd_x (by omega)]; simp)
    · rw [a10.1 tx 8 (by unfold wTh; rw [wRd_x (by omega)]; simp)]; exact hp
    · refine hDL.fr a10 (fun e => ?_) (fun e => ?_) <;> (unfold wTh; rw [wRd_x (by omega)]; simp)
    · rw [a10.1 1 1 (by unfold wTh wRd; simp; omega)]; exact hf1
    · rw [a10.1 1 2 (by unfold wTh wRd; simp; omega)]; exact hf2
  rw [if_neg c20]
  refine Ok.f (fun c => c20 ((hR.kd 20 (by decide) rfl rfl).mp c)) ?_
  by_cases c21 : kdT b n S.1 = 21
  · rw [if_pos c21]
    refine Ok.t ((hR.kd 21 (by decide) rfl rfl).mpr c21) (PT ?_)
    refine PostC.map (w_pattern htx hT hR hL hN (fun h7 => by have := hDT.2.1; omega) hDP.1 hDP.2.1) (fun a s _ h1 => ?_)
    obtain ⟨a0, a1, a2, a3, a4, a5, a6, a7, a8, a10⟩ := h1
    have wf : ∀ (a k : Nat), 30 ≤ a → (a = tx → k ≠ 4) → a ≠ tx + 5 + S.2.2.2.1.2.1 → (a = tx + 10 → k ≠ S.2.2.2.1.2.1) → wPt tx S.2.2.2.1.2.1 a k = false := fun a k h1 h2 h3 h4 => by
      unfold wPt
      rw [wRd_x h1]
      simp only [Bool.false_or, Bool.or_eq_false_iff, Bool.and_eq_false_iff, beq_eq_false_iff_ne]
      refine ⟨⟨?_, h3⟩, ?_⟩
      · by_cases e : a = tx
        · exact Or.inr (h2 e)
        · exact Or.inl e
      · by_cases e : a = tx + 10
        · exact Or.inr (h4 e)
        · exact Or.inl e
    refine ⟨_, rfl, a1, a2, a4, a3, by show S.2.1.1 + 1 = S.2.2.2.1.1.1 + (S.2.2.2.1.2.1 + 1); omega, ?_, ?_, ?_, ⟨p, ?_, by omega, ?_⟩, ?_, ?_⟩
    · exact hDT.fr a10 (wf _ _ lo (by omega) (by omega) (by omega)) (fun e => wf _ _ (by omega) (by omega) (by omega) (by omega)) (fun e => wf _ _ (by omega) (by omega) (by omega) (by omega)) (fun e => wf _ _ (by omega) (by omega) (by omega) (by omega))
    · refine ⟨a5, by show S.2.2.2.1.2.1 + 1 ≤ 5; omega, fun e he => ?_⟩
      have he : e < S.2.2.2.1.2.1 + 1 := he
      by_cases c : e = S.2.2.2.1.2.1
      · subst c
        show _ = nI (if _ = _ then a.2.1 else _) ∧ (1 ≤ (if _ = _ then a.2.1 else _) ∧ (if _ = _ then a.2.1 else _) ≤ 8) ∧ ∀ i, i < (if _ = _ then a.2.1 else _) → _ = (if _ = _ then a.2.2.1 else _) i
        rw [if_pos rfl, if_pos rfl]
        exact ⟨a6, a7, a8⟩
      · show _ = nI (if _ = _ then a.2.1 else _) ∧ (1 ≤ (if _ = _ then a.2.1 else _) ∧ (if _ = _ then a.2.1 else _) ≤ 8) ∧ ∀ i, i < (if _ = _ then a.2.1 else _) → _ = (if _ = _ then a.2.2.1 else _) i
        rw [if_neg c, if_neg c, a10.1 _ _ (wf (tx + 10) e (by omega) (by omega) (by omega) (by omega))]
        have := hDP.2.2 e (by omega)
        refine ⟨this.1, this.2.1, fun i hi => ?_⟩
        rw [a10.1 _ _ (wf (tx + 5 + e) i (by omega) (by omega) (by omega) (by have := hDP.2.1; omega))]
        exact this.2.2 i hi
    · exact hDR.fr a10 (wf _ _ lo (by omega) (by omega) (by omega)) (wf _ _ lo (by omega) (by omega) (by omega))
    · rw [a10.1 tx 8 (wf _ _ lo (by omega) (by omega) (by omega))]; exact hp
    · exact hDL.fr a10 (fun e => wf _ _ (by omega) (by omega) (by omega) (by omega)) (fun e => wf _ _ (by omega) (by omega) (by omega) (by omega))
    · rw [a10.1 1 1 (by unfold wPt wRd; simp; omega)]; exact hf1
    · rw [a10.1 1 2 (by unfold wPt wRd; simp; omega)]; exact hf2
  rw [if_neg c21]
  refine Ok.f (fun c => c21 ((hR.kd 21 (by decide) rfl rfl).mp c)) ?_
  obtain ⟨kk, k1, k2, k3⟩ := kd_vK b n S.1
  have ckk : (σ.1 1 6).toInt = ckind (kk : Nat) := by rw [hR.2.2.2.2.1, k3]
  have vt : ∀ k, k < 40 → (vK k && k != 20 && k != 21) = true → ((2 ≤ ckind (k : Nat) ∧ ckind (k : Nat) ≤ 5) ↔ (22 ≤ k ∧ k ≤ 25)) := by decide +kernel
  have vv := vt kk k1 (by rw [k2]; simp; omega)
  -- a statement of one number, or none
  have t53 : ¬ (22 ≤ kdT b n S.1 ∧ kdT b n S.1 ≤ 25) → Ok (f_X6_telling_53 tx σ) (PostC (FLT tx σc) (if 22 ≤ kdT b n S.1 ∧ kdT b n S.1 ≤ 25 then lawS (kdT b n) (vlT b n) (plI b n) (kdT b n S.1) S.1 >>= fun a => .ok (a.1, S.2.1, S.2.2.1, upLw S.2.2.2 (kdT b n S.1 - 22).toNat a.2) else if kdT b n S.1 = 26 then oneS (kdT b n) (vlT b n) (plI b n) 26 99 S.1 S.2.2.1 >>= fun a => .ok (a.1, S.2.1, a.2.2, (S.2.2.2.1, (a.2.1, S.2.2.2.2.1.2), S.2.2.2.2.2)) else if kdT b n S.1 = 27 then oneS (kdT b n) (vlT b n) (plI b n) 27 9999 S.1 S.2.2.1 >>= fun a => .ok (a.1, S.2.1, a.2.2, (S.2.2.2.1, (S.2.2.2.2.1.1, a.2.1), S.2.2.2.2.2)) else .error (1, plI b n S.1)) (fun S1 s => S.1 < S1.1 ∧ TCs b n tx σc S1 s)) := by
    intro hv
    rw [if_neg hv]
    have wf : ∀ (j a k : Nat), 30 ≤ a → (a = tx → k ≠ j) → wOn tx j a k = false := fun j a k h1 h2 => by
      unfold wOn
      rw [show wNm a k = false from wNm_x h1]
      simp only [Bool.false_or, Bool.and_eq_false_iff, beq_eq_false_iff_ne]
      by_cases e : a = tx
      · exact Or.inr (h2 e)
      · exact Or.inl e
    unfold f_X6_telling_53
    by_cases c26 : kdT b n S.1 = 26
    · rw [if_pos c26]
      refine Ok.t ((hR.kd 26 (by decide) rfl rfl).mpr c26) ?_
      refine PostC.map (w_one (j := 10) (K0 := 26) (d := 6) (x2 := 99) (f85 := f_X6_telling_85 tx) (f86 := f_X6_telling_86 tx) (fun _ => rfl) (fun _ _ => rfl) htx hT (by decide) rfl rfl (by decide) (by decide) (by decide) hR hL) (fun a s _ h1 => ?_)
      obtain ⟨a1, a2, a3, a4, a10⟩ := h1
      refine ⟨_, rfl, a1, a2, hN.fr a10 (by unfold wOn wNm; simp <;> omega) rfl, a3, hc, ?_, ?_, ⟨a4, ?_⟩, ⟨p, ?_, by omega, ?_⟩, ?_, ?_⟩
      · exact hDT.fr a10 (wf _ _ _ lo (by omega)) (fun e => wf _ _ _ (by omega) (by omega)) (fun e => wf _ _ _ (by omega) (by omega)) (fun e => wf _ _ _ (by omega) (by omega))
      · exact hDP.fr a10 (wf _ _ _ lo (by omega)) (fun e => wf _ _ _ (by omega) (by omega)) (fun p e _ => wf _ _ _ (by omega) (by omega))
      · rw [a10.1 tx 11 (wf _ _ _ lo (by omega))]; exact hDR.2
      · rw [a10.1 tx 8 (wf _ _ _ lo (by omega))]; exact hp
      · exact hDL.fr a10 (fun e => wf _ _ _ (by omega) (by omega)) (fun e => wf _ _ _ (by omega) (by omega))
      · rw [a10.1 1 1 (by unfold wOn wNm; simp <;> omega)]; exact hf1
      · rw [a10.1 1 2 (by unfold wOn wNm; simp <;> omega)]; exact hf2
    rw [if_neg c26]
    refine Ok.f (fun c => c26 ((hR.kd 26 (by decide) rfl rfl).mp c)) ?_
    by_cases c27 : kdT b n S.1 = 27
    · rw [if_pos c27]
      refine Ok.t ((hR.kd 27 (by decide) rfl rfl).mpr c27) ?_
      refine PostC.map (w_one (j := 11) (K0 := 27) (d := 7) (x2 := 9999) (f85 := f_X6_telling_147 tx) (f86 := f_X6_telling_148 tx) (fun _ => rfl) (fun _ _ => rfl) htx hT (by decide) rfl rfl (by decide) (by decide) (by decide) hR hL) (fun a s _ h1 => ?_)
      obtain ⟨a1, a2, a3, a4, a10⟩ := h1
      refine ⟨_, rfl, a1, a2, hN.fr a10 (by unfold wOn wNm; simp <;> omega) rfl, a3, hc, ?_, ?_, ⟨?_, a4⟩, ⟨p, ?_, by omega, ?_⟩, ?_, ?_⟩
      · exact hDT.fr a10 (wf _ _ _ lo (by omega)) (fun e => wf _ _ _ (by omega) (by omega)) (fun e => wf _ _ _ (by omega) (by omega)) (fun e => wf _ _ _ (by omega) (by omega))
      · exact hDP.fr a10 (wf _ _ _ lo (by omega)) (fun e => wf _ _ _ (by omega) (by omega)) (fun p e _ => wf _ _ _ (by omega) (by omega))
      · rw [a10.1 tx 10 (wf _ _ _ lo (by omega))]; exact hDR.1
      · rw [a10.1 tx 8 (wf _ _ _ lo (by omega))]; exact hp
      · exact hDL.fr a10 (fun e => wf _ _ _ (by omega) (by omega)) (fun e => wf _ _ _ (by omega) (by omega))
      · rw [a10.1 1 1 (by unfold wOn wNm; simp <;> omega)]; exact hf1
      · rw [a10.1 1 2 (by unfold wOn wNm; simp <;> omega)]; exact hf2
    rw [if_neg c27]
    refine Ok.f (fun c => c27 ((hR.kd 27 (by decide) rfl rfl).mp c)) (PT ?_)
    refine (w_refuse lo hT hR (x := 1)).mono (fun r s hq => ?_)
    obtain ⟨rfl, hF⟩ := hq
    exact PostC.err rfl hF
  refine Ok.i (fun c1 => t53 (by omega)) (fun c1 => ?_)
  refine Ok.i (fun c2 => t53 (by omega)) (fun c2 => ?_)
  have hk := vv.mp (by omega)
  rw [if_pos (by omega)]
  obtain ⟨k0, rfl⟩ : ∃ k0, kk = 22 + k0 := ⟨kk - 22, by omega⟩
  have ck : (σ.1 1 6).toInt = (k0 : Int) + 2 := by rw [ckk]; unfold ckind; rw [if_pos (by omega)]; omega
  refine PT ?_
  have hw := w_law (k0 := k0) htx hT hR hp hpt (by omega) ck
  rw [k3]
  refine PostC.map hw (fun a s _ h1 => ?_)
  obtain ⟨a1, a2, a3, a4, a5, a6, a7, a10⟩ := h1
  have wf : ∀ (a k : Nat), 30 ≤ a → (a = tx → k ≠ 8) → a ≠ tx + 11 → (a = tx + 12 → k ≠ k0) → wLw tx k0 a k = false := fun a k h1 h2 h3 h4 => by
    unfold wLw wX
    simp only [Bool.or_eq_false_iff, Bool.and_eq_false_iff, beq_eq_false_iff_ne]
    refine ⟨⟨⟨Or.inl (by omega), ?_⟩, h3⟩, ?_⟩
    · by_cases e : a = tx
      · exact Or.inr (h2 e)
      · exact Or.inl e
    · by_cases e : a = tx + 12
      · exact Or.inr (h4 e)
      · exact Or.inl e
  have w1 : ∀ k, (k = 1 ∨ k = 2 ∨ k = 3 ∨ k = 4 ∨ k = 9) → wLw tx k0 1 k = false := fun k hk => by
    unfold wLw wX
    rcases hk with rfl | rfl | rfl | rfl | rfl <;> simp <;> omega
  refine ⟨_, rfl, a1, a2, hN.fr a10 (w1 9 (by omega)) rfl, hL.fr a10 (w1 3 (by omega)) (w1 4 (by omega)), hc, ?_, ?_, ?_, ⟨p + (layL p a.2).length, a3, a6, ?_⟩, ?_, ?_⟩
  · exact hDT.fr a10 (wf _ _ lo (by omega) (by omega) (by omega)) (fun e => wf _ _ (by omega) (by omega) (by omega) (by omega)) (fun e => wf _ _ (by omega) (by omega) (by omega) (by omega)) (fun e => wf _ _ (by omega) (by omega) (by omega) (by omega))
  · exact hDP.fr a10 (wf _ _ lo (by omega) (by omega) (by omega)) (fun e => wf _ _ (by omega) (by omega) (by omega) (by omega)) (fun p e _ => wf _ _ (by omega) (by omega) (by omega) (by omega))
  · exact hDR.fr a10 (wf _ _ lo (by omega) (by omega) (by omega)) (wf _ _ lo (by omega) (by omega) (by omega))
  · intro k hk4
    show LWC tx s _ k (lawO k (if k = (((22 + k0 : Nat) : Int) - 22).toNat then some a.2 else S.2.2.2.2.2 k))
    rw [show (((22 + k0 : Nat) : Int) - 22).toNat = k0 by omega]
    by_cases e : k = k0
    · rw [if_pos e, e]
      exact ⟨p, a7, Nat.le_refl _, a4⟩
    · rw [if_neg e]
      obtain ⟨q, q1, q2, q3⟩ := hDL k hk4
      exact ⟨q, by rw [a10.1 _ _ (wf (tx + 12) k (by omega) (by omega) (by omega) (fun _ => e))]; exact q1, by omega, q3.same (fun x _ h => a5 x (by omega))⟩
  · rw [a10.1 1 1 (w1 1 (by omega))]; exact hf1
  · rw [a10.1 1 2 (w1 2 (by omega))]; exact hf2
end STE
/-! faults are told by numbers above 0 -/
def okF {α : Type} (x : Except FA α) : Prop := ∀ e, x = .error e → 0 < e.1
theorem okF.err {α : Type} {e : FA} (h : 0 < e.1) : okF (.error e : Except FA α) := fun e1 h1 => by cases h1; exact h
theorem okF.ok {α : Type} {a : α} : okF (.ok a : Except FA α) := fun e h => by cases h
theorem okF.bind {α β : Type} {x : Except FA α} {y : α → Except FA β} (h : okF x) (k : ∀ a, okF (y a)) : okF (x >>= y) := by
  cases x with
  | error e => exact fun e1 h1 => h e1 (by cases h1; rfl)
  | ok a => exact k a
theorem okF.ite {α : Type} {P : Prop} {dP : Decidable P} {x y : Except FA α} (h1 : okF x) (h2 : okF y) : okF (if P then x else y) := by
  by_cases c : P
  · rw [if_pos c]; exact h1
  · rw [if_neg c]; exact h2
section OKE
variable {kd vl pl : Nat → Int} {nm : Nat → Int64}
theorem okF_adv {t : Nat} : okF (advS pl t) := okF.ite (okF.err (by simp)) okF.ok
theorem okF_tk {k : Int} {t : Nat} : okF (tkS kd pl k t) := okF.ite okF_adv (okF.err (by simp))
theorem okF_num {a c : Int} {t : Nat} {lt : FA} : okF (numS kd vl pl a c t lt) := okF_tk.bind (fun _ => okF.ok)
theorem okF_name {t nc : Nat} {ns : Nat → Int64} {lt : FA} : okF (nameS kd pl nm t nc ns lt) := okF_tk.bind (fun _ => okF.ok)
theorem okF_exp : ∀ (f : Nat) (b : Bool) (t : Nat) (S : List Nat) (c : COD), okF (expF kd vl pl f b t S c) := by
  intro f
  induction f with
  | zero => intro b t S c; cases b <;> exact okF.err (by simp)
  | succ f ih =>
    intro b t S c
    cases b with
    | true => exact okF.ite (okF.ite (okF.err (by simp)) (okF_adv.bind (fun _ => ih _ _ _ _))) (okF.ite (okF_adv.bind (fun _ => ih _ _ _ _)) (okF.ite (okF_adv.bind (fun _ => ih _ _ _ _)) (okF.err (by simp))))
    | false => exact okF.ite (okF_adv.bind (fun _ => ih _ _ _ _)) (okF.ite (okF_adv.bind (fun _ => ih _ _ _ _)) (okF.ite (okF_adv.bind (fun _ => ih _ _ _ _)) (okF.ite (okF.err (by simp)) okF.ok)))
theorem okF_exS {t : Nat} : okF (exS kd vl pl t) := okF_exp _ _ _ _ _
theorem okF_last {brs : List (COD × COD × COD)} {t : Nat} : okF (lastS kd vl pl brs t) := okF_exS.bind (fun _ => okF_tk.bind (fun _ => okF.ok))
theorem okF_cond {t : Nat} : okF (condS kd vl pl t) := okF_tk.bind (fun _ => okF_exS.bind (fun _ => okF_tk.bind (fun _ => okF_exS.bind (fun _ => okF_tk.bind (fun _ => okF_exS.bind (fun _ => okF_tk.bind (fun _ => okF.ok)))))))
theorem okF_ifs : ∀ (m : Nat) (brs : List (COD × COD × COD)) (t : Nat), okF (ifsS kd vl pl m brs t) := by
  intro m
  induction m with
  | zero => intro brs t; exact okF.ite (okF.err (by simp)) okF_last
  | succ m ih => intro brs t; exact okF.ite (okF_cond.bind (fun _ => ih _ _)) okF_last
theorem okF_law {k : Int} {t : Nat} : okF (lawS kd vl pl k t) := okF_tk.bind (fun _ => okF_tk.bind (fun _ => okF_ifs _ _ _))
theorem okF_thing {nT t nc : Nat} {ns : Nat → Int64} {lt : FA} : okF (thingS kd vl pl nm nT t nc ns lt) := okF.ite (okF_tk.bind (fun _ => okF_name.bind (fun _ => okF_num.bind (fun _ => okF_num.bind (fun _ => okF_num.bind (fun _ => okF_tk.bind (fun _ => okF.ok))))))) (okF.err (by simp))
theorem okF_hts : ∀ (m k : Nat) (hs : Nat → Int) (t : Nat) (lt : FA), okF (htsS kd vl pl k hs t lt m) := by
  intro m
  induction m with
  | zero => intro k hs t lt; exact okF.ite (okF.err (by simp)) (okF_tk.bind (fun _ => okF.ok))
  | succ m ih => intro k hs t lt; exact okF.ite (okF_num.bind (fun _ => ih _ _ _ _)) (okF_tk.bind (fun _ => okF.ok))
theorem okF_pat {nP t nc : Nat} {ns : Nat → Int64} {lt : FA} : okF (patS kd vl pl nm nP t nc ns lt) := okF.ite (okF_tk.bind (fun _ => okF_name.bind (fun _ => okF_num.bind (fun _ => okF_hts _ _ _ _ _)))) (okF.err (by simp))
theorem okF_one {k most : Int} {t : Nat} {lt : FA} : okF (oneS kd vl pl k most t lt) := okF_tk.bind (fun _ => okF_num.bind (fun _ => okF_tk.bind (fun _ => okF.ok)))
theorem okF_tell {S : PST} : okF (tellS kd vl pl nm S) := okF.ite (okF_thing.bind (fun _ => okF.ok)) (okF.ite (okF_pat.bind (fun _ => okF.ok)) (okF.ite (okF_law.bind (fun _ => okF.ok)) (okF.ite (okF_one.bind (fun _ => okF.ok)) (okF.ite (okF_one.bind (fun _ => okF.ok)) (okF.err (by simp))))))
end OKE
/-- what a reading answers: the fault, its place -/
def resS (x : Except FA PST) : FA := match x with
  | .error e => e
  | .ok S => if S.2.2.1.1 = 0 then (0, -1) else S.2.2.1
section RDC
variable {b : Nat → Int32} {n tx : Nat} {σc σ : HS}
/-- what the class's reading leaves: the answer, the place; the text, where there is no fault -/
def RDc (b : Nat → Int32) (n tx : Nat) (x : Except FA PST) (r : Int32) (s : HS) : Prop := r.toInt = (resS x).1 ∧ (s.1 1 1).toInt = (resS x).2 ∧ (r.toInt = 0 → ∃ S : PST, x = .ok S ∧ S.2.2.1.1 = 0 ∧ DTc tx s S.2.2.2.1.1 ∧ DPc tx s S.2.2.2.1.2 ∧ DRc tx s S.2.2.2.2.1 ∧ ∃ p, p ≤ 408 ∧ DLc tx s p S.2.2.2.2.2)
theorem w_top (htx : txk tx) (hT : TKC b n σc) (c1 : (σc.1 1 1).toInt = -1) (c2 : (σc.1 1 2).toInt = 0) : ∀ (d N y : Nat) (S : PST) (s : HS), 401 - S.1 < d → d < N → y ≤ S.1 → TCs b n tx σc S s → Ok (f_X6_readInto_58 tx N 1 (nI y) s) (fun r s => frm (wP tx) wlP σc s ∧ RDc b n tx (topS (kdT b n) (vlT b n) (plI b n) (nmT b n) d S) r s) := by
  have lo := htx.lo
  intro d
  induction d with
  | zero => intro N y S s h; omega
  | succ d ih =>
    intro N y S s hd hN hy h
    obtain ⟨N, rfl⟩ : ∃ q, N = q + 1 := ⟨N - 1, by omega⟩
    have ht := h.1.2.1
    show Ok (b_X6_readInto_58 tx (f_X6_readInto_58 tx N) 1 (nI y) s) _
    unfold b_X6_readInto_58
    refine Ok.f (by decide) ?_
    show Ok _ (fun r s => frm (wP tx) wlP σc s ∧ RDc b n tx (if kdT b n S.1 = 0 then .ok S else tellS (kdT b n) (vlT b n) (plI b n) (nmT b n) S >>= fun s1 => topS (kdT b n) (vlT b n) (plI b n) (nmT b n) d s1) r s)
    by_cases c0 : kdT b n S.1 = 0
    · rw [if_pos c0]
      refine Ok.t ((h.1.kd 0 (by decide) rfl rfl).mpr c0) ?_
      obtain ⟨hR, hNm, hL, hc, hDT, hDP, hDR, ⟨p, hp, hpt, hDL⟩, hf1, hf2⟩ := h
      unfold f_X6_readInto_90 f_X6_readInto_120
      refine Ok.t (by rw [hf2]; exact c2) ?_
      refine Ok.i (fun e => ?_) (fun e => ?_)
      · have el : S.2.2.1.1 = 0 := by rw [← hL.1]; exact e
        have er : resS (.ok S) = (0, -1) := if_pos el
        refine Ok.ret ⟨hR.1, by rw [er, hf2]; exact c2, by rw [er, hf1]; exact c1, fun _ => ⟨S, rfl, el, hDT, hDP, hDR, p, ?_, hDL⟩⟩
        have := hR.2.2.2.2.2.2
        rw [hp, nIt (by omega)] at this
        omega
      · have el : S.2.2.1.1 ≠ 0 := by rw [← hL.1]; exact e
        have er : resS (.ok S) = S.2.2.1 := if_neg el
        refine Ok.bd (Ok.bd (Ok.ret ⟨(hR.1.I wP_1).I wP_1, ?_, ?_, fun h0 => ?_⟩))
        · rw [er, rI_k (by decide), rI_s]; exact hL.1
        · rw [er, rI_s, rI_k (by decide)]; exact hL.2 el
        · exfalso
          rw [rI_k (by decide), rI_s] at h0
          exact e h0
    · rw [if_neg c0]
      refine Ok.f (fun e => c0 ((h.1.kd 0 (by decide) rfl rfl).mp e)) (Ok.f (by rw [nIt (by omega)]; omega) ?_)
      obtain ⟨r, s1, er, h1⟩ := w_telling htx hT h
      refine Ok.cle er (Ok.bd ?_)
      rw [nI_1]
      cases ex : tellS (kdT b n) (vlT b n) (plI b n) (nmT b n) S with
      | error e =>
        rw [ex] at h1
        obtain ⟨rfl, hF⟩ := h1
        have he := okF_tell (kd := kdT b n) (vl := vlT b n) (pl := plI b n) (nm := nmT b n) (S := S) e ex
        obtain ⟨N1, rfl⟩ : ∃ q, N = q + 1 := ⟨N - 1, by omega⟩
        show Ok (b_X6_readInto_58 tx (f_X6_readInto_58 tx N1) 0 (nI (y + 1)) s1) _
        unfold b_X6_readInto_58
        refine Ok.t rfl ?_
        unfold f_X6_readInto_90 f_X6_readInto_120
        refine Ok.f (by rw [hF.1]; omega) (Ok.ret ⟨hF.2.2.1, hF.1, hF.2.1, fun h0 => ?_⟩)
        rw [hF.1] at h0
        omega
      | ok S1 =>
        rw [ex] at h1
        obtain ⟨rfl, h2, h3⟩ := h1
        exact ih N (y + 1) S1 s1 (by omega) (by omega) (by omega) h3
/-! the text told anew -/
def wClr (tx a k : Nat) : Bool := (a == tx && (k == 0 || k == 4 || k == 8 || k == 10 || k == 11)) || a == tx + 11 || a == tx + 12
theorem wEm_Clr {a k : Nat} (h : wClr tx a k = false) : wEm tx a k = false := by
  unfold wClr at h
  unfold wEm
  simp only [Bool.or_eq_false_iff, Bool.and_eq_false_iff, beq_eq_false_iff_ne] at h ⊢
  refine ⟨?_, h.1.2⟩
  rcases h.1.1 with h | h
  · exact Or.inl h
  · exact Or.inr h.1.1.2
def dfC (k : Nat) : List Int := if k = 2 then [-11, -6] else [0, -6]
theorem dfC_lay {k q : Nat} : layL q (lawO k none) = dfC k := by
  unfold lawO dfC
  by_cases c : k = 2
  · subst c; rfl
  · rw [if_neg c, if_neg c]; rfl
theorem w_clr (htx : txk tx) : ∀ (d k N : Nat) (s : HS), k + d = 4 → d < N → s.1 tx 8 = nI (2 * k) → (∀ j, j < k → s.1 (tx + 12) j = nI (2 * j) ∧ seg s (tx + 11) (2 * j) (dfC j)) → Okv (f_X10_clear_27 tx N (nI k) s) (fun s1 => s1.1 tx 8 = nI 8 ∧ (∀ j, j < 4 → s1.1 (tx + 12) j = nI (2 * j) ∧ seg s1 (tx + 11) (2 * j) (dfC j)) ∧ frm (fun a k => wEm tx a k || a == tx + 12) wl0 s s1) := by
  have lo := htx.lo
  intro d
  induction d with
  | zero =>
    intro k N s hk hN h8 hj
    obtain ⟨N, rfl⟩ : ∃ q, N = q + 1 := ⟨N - 1, by omega⟩
    obtain rfl : k = 4 := by omega
    show Okv (b_X10_clear_27 tx (f_X10_clear_27 tx N) (nI 4) s) _
    unfold b_X10_clear_27
    exact Okv.f (by decide) (Okv.ret ⟨h8, hj, frm.rf⟩)
  | succ d ih =>
    intro k N s hk hN h8 hj
    obtain ⟨N, rfl⟩ : ∃ q, N = q + 1 := ⟨N - 1, by omega⟩
    show Okv (b_X10_clear_27 tx (f_X10_clear_27 tx N) (nI k) s) _
    unfold b_X10_clear_27
    rw [nIt (by omega), Int.toNat_natCast, h8]
    refine Okv.t (by omega) (Okv.t (by omega) (Okv.bd ?_))
    generalize hs1 : hI s (tx + 12) k (nI (2 * k)) = s1
    have p1 : s1.1 tx 8 = nI (2 * k) := by rw [← hs1, rI_i (by omega)]; exact h8
    have f1 : frm (fun a k => wEm tx a k || a == tx + 12) wl0 s s1 := by rw [← hs1]; exact frm.rf.I (by simp)
    have go : ∀ v : Int32, dfC k = [v.toInt, -6] → Okv (f_X10_clear_54 tx (f_X10_clear_27 tx N) (nI k) v s1) (fun s1 => s1.1 tx 8 = nI 8 ∧ (∀ j, j < 4 → s1.1 (tx + 12) j = nI (2 * j) ∧ seg s1 (tx + 11) (2 * j) (dfC j)) ∧ frm (fun a k => wEm tx a k || a == tx + 12) wl0 s s1) := by
      intro v hv
      unfold f_X10_clear_54
      refine Okv.cve (e_emit htx p1 (by omega)) (Okv.cve (e_emit htx emS_8 (by omega)) (Okv.bd ?_))
      rw [nI_1]
      generalize hs3 : emS tx (2 * k + 1) (-6) (emS tx (2 * k) v s1) = s3
      have f3 : frm (wEm tx) wl0 s1 s3 := by rw [← hs3]; exact emS_fr.tr emS_fr
      have n12 : ∀ j, s3.1 (tx + 12) j = s1.1 (tx + 12) j := fun j => f3.1 _ _ (by unfold wEm; simp)
      refine (ih (k + 1) N s3 (by omega) (by omega) (by rw [← hs3, emS_8]; exact congrArg nI (by omega)) (fun j hj1 => ?_)).mono (fun s4 h4 => ⟨h4.1, h4.2.1, (f1.tr (f3.mono (fun a k e => by simp only [Bool.or_eq_false_iff] at e; exact e.1) (fun _ e => e))).tr h4.2.2⟩)
      by_cases e : j = k
      · subst e
        refine ⟨by rw [n12, ← hs1, rI_s], ?_⟩
        rw [hv]
        show seg s3 (tx + 11) (2 * j) ([v.toInt] ++ [-6])
        refine seg.app (seg.one ?_) (seg.one ?_)
        · rw [← hs3, emS_ne (by omega), emS_at]
        · rw [← hs3]; show ((emS tx (2 * j + 1) (-6) (emS tx (2 * j) v s1)).1 (tx + 11) (2 * j + 1)).toInt = -6; rw [emS_at]; rfl
      · have h5 := hj j (by omega)
        refine ⟨by rw [n12, ← hs1, rI_k e]; exact h5.1, h5.2.same (fun q q1 q2 => ?_)⟩
        have : (dfC j).length = 2 := by unfold dfC; split <;> rfl
        rw [← hs3, emS_ne (by omega), emS_ne (by omega), ← hs1, rI_i (by omega)]
    by_cases c : k = 2
    · refine Okv.t (by omega) (go (-11) (by unfold dfC; rw [if_pos c]; rfl))
    · refine Okv.f (by omega) (go 0 (by unfold dfC; rw [if_neg c]; rfl))
theorem w_readInto (htx : txk tx) (hC : CC σ) : Ok (f_X6_readInto tx σ) (fun r s => frm (fun a k => wP tx a k || wCut a k) (fun a => wlP a || wlCut a) σ s ∧ RDc (bC σ) (nC σ) tx (readS (kdT (bC σ) (nC σ)) (vlT (bC σ) (nC σ)) (plI (bC σ) (nC σ)) (nmT (bC σ) (nC σ))) r s) := by
  have lo := htx.lo
  unfold f_X6_readInto f_X10_clear
  refine Ok.cv (P := fun s1 => frm (wClr tx) wl0 σ s1 ∧ s1.1 tx 0 = nI 0 ∧ s1.1 tx 4 = nI 0 ∧ (s1.1 tx 10).toInt = 1 ∧ (s1.1 tx 11).toInt = 0 ∧ s1.1 tx 8 = nI 8 ∧ (∀ j, j < 4 → s1.1 (tx + 12) j = nI (2 * j) ∧ seg s1 (tx + 11) (2 * j) (dfC j))) ?_ (fun s1 h1 => ?_)
  · refine Okv.bd (Okv.bd (Okv.bd (Okv.bd (Okv.bd ?_))))
    rw [nI0]
    refine (w_clr htx 4 0 5000 _ rfl (by omega) (by rw [rI_s]) (fun j hj => absurd hj (by omega))).mono (fun s h => ?_)
    obtain ⟨h8, hl, hf⟩ := h
    have rd : ∀ k, k ≠ 8 → s.1 tx k = (hI (hI (hI (hI (hI σ tx 0 (nI 0)) tx 4 (nI 0)) tx 10 1) tx 11 (nI 0)) tx 8 (nI 0)).1 tx k := fun k hk => hf.1 tx k (by unfold wEm; simp [hk])
    refine ⟨?_, ?_, ?_, ?_, ?_, h8, hl⟩
    · refine (((((frm.rf.I ?_).I ?_).I ?_).I ?_).I ?_).tr (hf.mono (fun a k e => ?_) (fun _ e => e))
      · unfold wClr; simp
      · unfold wClr; simp
      · unfold wClr; simp
      · unfold wClr; simp
      · unfold wClr; simp
      · have e2 := wEm_Clr e
        unfold wClr at e
        simp only [Bool.or_eq_false_iff] at e
        show (wEm tx a k || a == tx + 12) = false
        rw [e2, e.2]; rfl
    · rw [rd 0 (by decide), rI_k (by decide), rI_k (by decide), rI_k (by decide), rI_k (by decide), rI_s]
    · rw [rd 4 (by decide), rI_k (by decide), rI_k (by decide), rI_k (by decide), rI_s]
    · rw [rd 10 (by decide), rI_k (by decide), rI_k (by decide), rI_s]; rfl
    · rw [rd 11 (by decide), rI_k (by decide), rI_s]; rfl
  · obtain ⟨f1, h0, h4, h10, h11, h8, hl⟩ := h1
    refine Ok.bd (Ok.bd (Ok.bd (Ok.bd (Ok.bd ?_))))
    generalize hs7 : hI (hI (hI (hI (hI s1 1 9 0) 1 2 0) 1 1 (-1)) 1 3 0) 1 4 (-1) = s7
    have f7 : frm (fun a _ => a == 1) wl0 s1 s7 := by rw [← hs7]; exact ((((frm.rf.I rfl).I rfl).I rfl).I rfl).I rfl
    have F7 : frm (wP tx) wlP σ s7 := by
      refine (f1.mono (fun a k e => ?_) (fun _ _ => rfl)).tr (f7.mono (fun a k e => ?_) (fun _ _ => rfl))
      · unfold wP at e
        unfold wClr
        simp only [Bool.or_eq_false_iff, beq_eq_false_iff_ne, ne_eq, Bool.and_eq_false_iff, decide_eq_false_iff_not] at e ⊢
        refine ⟨⟨Or.inl ?_, ?_⟩, ?_⟩ <;> omega
      · unfold wP at e
        simp only [Bool.or_eq_false_iff] at e
        exact e.1
    have hC7 : CC s7 := by
      unfold CC
      rw [F7.1 2 1 (wP_no lo (by decide) (by decide))]
      exact ⟨hC.1, fun k => by rw [F7.1 3 k (wP_no lo (by decide) (by decide))]; exact hC.2 k⟩
    have eb : bC s7 = bC σ := funext fun k => F7.1 3 k (wP_no lo (by decide) (by decide))
    have en : nC s7 = nC σ := by unfold nC; rw [F7.1 2 1 (wP_no lo (by decide) (by decide))]
    refine Ok.cv (w_X9_cut hC7) (fun s8 h8' => ?_)
    obtain ⟨f8, hT⟩ := h8'
    rw [eb, en] at hT
    refine Ok.bd ?_
    rw [rI_i (show (4 : Nat) ≠ 1 by decide)]
    refine Ok.bd ?_
    rw [nI0]
    have q8 : ∀ k, s8.1 1 k = s7.1 1 k := fun k => f8.1 1 k rfl
    have t8 : ∀ a k, 30 ≤ a → s8.1 a k = s1.1 a k := fun a k ha => by
      rw [f8.1 a k (by unfold wCut; simp; omega), f7.1 a k (by simp; omega)]
    have i8 : ∀ a k, 30 ≤ a → (hI (hI s8 1 5 (nI 0)) 1 6 (s8.1 4 (nI 0).toInt.toNat)).1 a k = s1.1 a k := fun a k ha => by
      rw [rI_i (by omega), rI_i (by omega)]; exact t8 a k ha
    have k0 : ((nI 0).toInt.toNat) = 0 := rfl
    have TC0 : TCs (bC σ) (nC σ) tx s8 (0, (0, fun _ => 0), (0, -1), dat0) (hI (hI s8 1 5 (nI 0)) 1 6 (s8.1 4 (nI 0).toInt.toNat)) := by
      refine ⟨⟨(frm.rf.I wP_1).I wP_1, by show (0 : Nat) ≤ 400; omega, fun p hp => absurd hp (by show ¬ p < 0; omega), ?_, ?_, ?_⟩, ⟨?_, by show (0 : Nat) ≤ 12; omega, fun i hi => absurd hi (by show ¬ i < 0; omega)⟩, ⟨?_, fun h => absurd rfl h⟩, rfl, ⟨?_, by show (0 : Nat) ≤ 7; omega, fun e he => absurd he (by show ¬ e < 0; omega)⟩, ⟨?_, by show (0 : Nat) ≤ 5; omega, fun e he => absurd he (by show ¬ e < 0; omega)⟩, ⟨?_, ?_⟩, ⟨8, ?_, by show 8 ≤ 8 + 0; omega, fun k hk => ⟨2 * k, ?_, ?_, ?_⟩⟩, ?_, ?_⟩
      · rw [rI_k (by decide), rI_s]
      · rw [rI_s, k0]
        exact (hT 0 (by omega) (fun p hp => absurd hp (by omega))).1
      · rw [i8 tx 8 lo, h8, nIt (by omega)]; omega
      · rw [rI_k (by decide), rI_k (by decide), q8, ← hs7, rI_k (by decide), rI_k (by decide), rI_k (by decide), rI_k (by decide), rI_s]; rfl
      · rw [rI_k (by decide), rI_k (by decide), q8, ← hs7, rI_k (by decide), rI_s]; rfl
      · rw [i8 tx 0 lo]; exact h0
      · rw [i8 tx 4 lo]; exact h4
      · rw [i8 tx 10 lo]; exact h10
      · rw [i8 tx 11 lo]; exact h11
      · rw [i8 tx 8 lo]; exact h8
      · rw [i8 _ _ (by omega)]; exact (hl k hk).1
      · show 2 * k + (layL (2 * k) (lawO k none)).length ≤ 8
        rw [dfC_lay]
        have : (dfC k).length = 2 := by unfold dfC; split <;> rfl
        omega
      · show seg _ _ _ (layL (2 * k) (lawO k none))
        rw [dfC_lay]
        exact (hl k hk).2.same (fun q _ _ => i8 _ _ (by omega))
      · rw [rI_k (by decide), rI_k (by decide)]
      · rw [rI_k (by decide), rI_k (by decide)]
    have c1 : (s8.1 1 1).toInt = -1 := by rw [q8, ← hs7, rI_k (by decide), rI_k (by decide), rI_s]; rfl
    have c2 : (s8.1 1 2).toInt = 0 := by rw [q8, ← hs7, rI_k (by decide), rI_k (by decide), rI_k (by decide), rI_s]; rfl
    refine (w_top htx hT c1 c2 402 5000 0 _ _ (by show 401 - 0 < 402; omega) (by omega) (by show (0 : Nat) ≤ 0; omega) TC0).mono (fun r s h => ⟨?_, h.2⟩)
    refine ((F7.mono (fun a k e => ?_) (fun a e => ?_)).tr (f8.mono (fun a k e => ?_) (fun a e => ?_))).tr (h.1.mono (fun a k e => ?_) (fun a e => ?_)) <;> (simp only [Bool.or_eq_false_iff] at e)
    · exact e.1
    · exact e.1
    · exact e.2
    · exact e.2
    · exact e.1
    · exact e.1
end RDC
/-! the reference's reading: primitives -/
def PostM {α : Type} (F : FA → HS → Prop) (x : Except FA α) (K : α → HS → Prop) (s : HS) : Prop := match x with
  | .error e => F e s
  | .ok a => K a s
theorem PostM.err {α : Type} {F : FA → HS → Prop} {x : Except FA α} {K : α → HS → Prop} {e : FA} {s : HS} (h : x = .error e) (hF : F e s) : PostM F x K s := by subst h; exact hF
theorem PostM.ok {α : Type} {F : FA → HS → Prop} {x : Except FA α} {K : α → HS → Prop} {a : α} {s : HS} (h : x = .ok a) (hK : K a s) : PostM F x K s := by subst h; exact hK
/-- what the reading may write, the half sd of the rows -/
def wPm (sd a k : Nat) : Bool :=
  (a == 236 && (k == 11 || k == 12 || k == 13 || k == 14 || k == 15 || k == 16 || k == 20 || k == 33 || k == 39 || k == 43)) ||
  ((a == 245 || a == 249 || a == 252 || a == 253) && k == sd) ||
  ((a == 246 || a == 247 || a == 248) && decide (7 * sd ≤ k) && decide (k < 7 * sd + 7)) ||
  (a == 250 && decide (5 * sd ≤ k) && decide (k < 5 * sd + 5)) ||
  (a == 251 && decide (40 * sd ≤ k) && decide (k < 40 * sd + 40)) ||
  ((a == 254 || a == 255) && decide (4 * sd ≤ k) && decide (k < 4 * sd + 4)) ||
  ((a == 256 || a == 257 || a == 258 || a == 259 || a == 260) && decide (130 * sd ≤ k) && decide (k < 130 * sd + 130)) ||
  ((a == 261 || a == 262) && decide (420 * sd ≤ k) && decide (k < 420 * sd + 420)) || a == 263
def wlPm (a : Nat) : Bool := a == 244
theorem pl_lt {b : Nat → Int32} {n t : Nat} (h : kdT b n t ≠ 0) : plI b n t < plI b n (t + 1) := by
  unfold plI
  have h1 : plT b n t < n := by
    by_cases c : n ≤ plT b n t
    · exact absurd (kd_end rfl c) h
    · omega
  show ((plT b n t : Nat) : Int) < ((rn isBl b n (tkE b n (plT b n t)) : Nat) : Int)
  have h2 : plT b n t < tkE b n (plT b n t) := by
    unfold tkE
    rw [if_neg (by omega)]
    split
    · rename_i hl
      have := (rn_le (p := isLt) (b := b) (n := n) (i := plT b n t + 1)).1
      rw [rn_in h1 hl]; omega
    · split
      · rename_i hl
        have := (rn_le (p := isDg) (b := b) (n := n) (i := plT b n t + 1)).1
        rw [rn_in h1 hl]; omega
      · omega
  have := (rn_le (p := isBl) (b := b) (n := n) (i := tkE b n (plT b n t))).1
  omega
section MPR
variable {b : Nat → Int32} {n sd : Nat} {σc σ : HS}
def RZ (b : Nat → Int32) (n sd : Nat) (σc : HS) (t : Nat) (s : HS) : Prop := frm (wPm sd) wlPm σc s ∧ t ≤ 400 ∧ (∀ p, p < t → kdT b n p ≠ 0) ∧ s.1 236 11 = nI t ∧ (s.1 236 13).toInt = 0
def FLM (sd : Nat) (σc : HS) (e : FA) (s : HS) : Prop := (s.1 236 13).toInt = e.1 ∧ 0 < e.1 ∧ (s.1 236 14).toInt = e.2 ∧ frm (wPm sd) wlPm σc s ∧ ∃ t, t ≤ 400 ∧ s.1 236 11 = nI t
theorem RZ.tk {t : Nat} (hT : TKA b n σc) (h : RZ b n sd σc t σ) : (σ.1 239 t).toInt = kdT b n t ∧ (σ.1 240 t).toInt = plI b n t ∧ (kdT b n t = 2 → (σ.1 241 t).toInt = vlT b n t) ∧ (kdT b n t = 1 → σ.2.1 242 t = nmT b n t) := by
  have := hT t h.2.1 h.2.2.1
  rw [h.1.1 239 t (by unfold wPm; simp), h.1.1 240 t (by unfold wPm; simp), h.1.1 241 t (by unfold wPm; simp), h.1.2.1 242 rfl]
  exact this
theorem mr_is {t : Nat} {x : Int32} (hT : TKA b n σc) (h : RZ b n sd σc t σ) : f_X12_is x σ = some (bI (decide (kdT b n t = x.toInt)), σ) := by
  have ht := h.2.1
  unfold f_X12_is
  rw [h.2.2.2.1, nIt (by omega), if_pos h.2.2.2.2, if_pos (by omega), Int.toNat_natCast, (RZ.tk hT h).1]
  by_cases c : kdT b n t = x.toInt
  · rw [if_pos c, decide_eq_true c]; rfl
  · rw [if_neg c, decide_eq_false c]; rfl
theorem mr_is_f {e : FA} {x : Int32} (h : FLM sd σc e σ) : f_X12_is x σ = some (0, σ) := by
  unfold f_X12_is
  rw [if_neg (by rw [h.1]; have := h.2.1; omega)]
theorem mr_fail_f {e : FA} {x : Int32} (h : FLM sd σc e σ) : f_X12_fail x σ = some σ := by
  unfold f_X12_fail
  rw [if_pos (by rw [h.1]; exact h.2.1)]
theorem mr_fail {t : Nat} {x : Int32} (hT : TKA b n σc) (h : RZ b n sd σc t σ) (hx : 0 < x.toInt) : Okv (f_X12_fail x σ) (FLM sd σc (x.toInt, plI b n t)) := by
  have ht := h.2.1
  unfold f_X12_fail
  refine Okv.f (by rw [h.2.2.2.2]; omega) (Okv.bd ?_)
  have a5 : (hI σ 236 13 x).1 236 11 = nI t := by rw [rI_k (by decide)]; exact h.2.2.2.1
  rw [a5, nIt (by omega), Int.toNat_natCast]
  refine Okv.t (by omega) (Okv.bd (Okv.ret ⟨?_, hx, ?_, ?_, t, ht, ?_⟩))
  · rw [rI_k (by decide), rI_s]
  · rw [rI_s, rI_i (by decide)]; exact (RZ.tk hT h).2.1
  · exact (h.1.I (by unfold wPm; simp)).I (by unfold wPm; simp)
  · rw [rI_k (by decide), rI_k (by decide)]; exact h.2.2.2.1
theorem RZ.step {t : Nat} (h : RZ b n sd σc t σ) (h4 : t < 400) (hk : kdT b n t ≠ 0) : RZ b n sd σc (t + 1) (hI σ 236 11 (nI (t + 1))) := ⟨h.1.I (by unfold wPm; simp), by omega, fun p hp => by
  by_cases e : p = t
  · rw [e]; exact hk
  · exact h.2.2.1 p (by omega), rI_s, by rw [rI_k (by decide)]; exact h.2.2.2.2⟩
theorem mr_goesOn {t : Nat} (hT : TKA b n σc) (h : RZ b n sd σc t σ) (hk : kdT b n t ≠ 0) : Okv (f_X12_goesOn σ) (PostM (FLM sd σc) (advS (plI b n) t) (fun t1 s => t1 = t + 1 ∧ t < 400 ∧ RZ b n sd σc (t + 1) s ∧ s = hI σ 236 11 (nI (t + 1)))) := by
  have ht := h.2.1
  unfold f_X12_goesOn advS
  rw [h.2.2.2.1, nIt (by omega)]
  by_cases c : t = 400
  · rw [if_pos c]
    exact Okv.t (by omega) (Okv.cv (mr_fail hT h (by decide)) (fun s hs => Okv.ret hs))
  · rw [if_neg c]
    refine Okv.f (by omega) (Okv.bd ?_)
    rw [nI_1]
    exact Okv.ret ⟨rfl, by omega, h.step (by omega) hk, rfl⟩
theorem mr_must {t : Nat} {x : Int32} {k : Int} (hT : TKA b n σc) (h : RZ b n sd σc t σ) (hx : x.toInt = k) (h0 : k ≠ 0) : Okv (f_X12_must x σ) (PostM (FLM sd σc) (tkS (kdT b n) (plI b n) k t) (fun t1 s => t1 = t + 1 ∧ t < 400 ∧ kdT b n t = k ∧ RZ b n sd σc (t + 1) s ∧ s = hI σ 236 11 (nI (t + 1)))) := by
  subst hx
  unfold f_X12_must tkS
  refine Okv.cle (mr_is hT h) ?_
  by_cases c : kdT b n t = x.toInt
  · rw [if_pos c, decide_eq_true c]
    refine Okv.f (by decide) (Okv.cv (mr_goesOn hT h (by rw [c]; exact h0)) (fun s hs => Okv.ret ?_))
    revert hs
    cases advS (plI b n) t with
    | error e => exact fun hs => hs
    | ok a => exact fun hs => ⟨hs.1, hs.2.1, c, hs.2.2⟩
  · rw [if_neg c, decide_eq_false c]
    exact Okv.t (by decide) (Okv.cv (mr_fail hT h (by decide)) (fun s hs => Okv.ret hs))
theorem mr_must_f {e : FA} {x : Int32} (h : FLM sd σc e σ) : f_X12_must x σ = some σ := by
  unfold f_X12_must
  rw [mr_is_f h]
  simp only [Cl]
  rw [if_pos (show (0 : Int32).toInt = 0 from rfl), mr_fail_f h]; rfl
/-! later faults -/
def LTM (b : Nat → Int32) (n t : Nat) (s : HS) (lt : FA) : Prop := (s.1 236 15).toInt = lt.1 ∧ (lt.1 ≠ 0 → (s.1 236 16).toInt = lt.2 ∧ lt.2 < plI b n t)
theorem RZ.wr {t a k : Nat} {v : Int32} (h : RZ b n sd σc t σ) (hw : wPm sd a k = true) (h1 : a ≠ 236 ∨ (k ≠ 11 ∧ k ≠ 13)) : RZ b n sd σc t (hI σ a k v) := by
  refine ⟨h.1.I hw, h.2.1, h.2.2.1, ?_, ?_⟩
  · by_cases e : a = 236
    · subst e; rw [rI_k (by omega)]; exact h.2.2.2.1
    · rw [rI_i (Ne.symm e)]; exact h.2.2.2.1
  · by_cases e : a = 236
    · subst e; rw [rI_k (by omega)]; exact h.2.2.2.2
    · rw [rI_i (Ne.symm e)]; exact h.2.2.2.2
theorem FLM.wr {e : FA} {a k : Nat} {v : Int32} (h : FLM sd σc e σ) (hw : wPm sd a k = true) (h1 : a ≠ 236 ∨ (k ≠ 11 ∧ k ≠ 13 ∧ k ≠ 14)) : FLM sd σc e (hI σ a k v) := by
  obtain ⟨a1, a2, a3, a4, t, ht, a5⟩ := h
  refine ⟨?_, a2, ?_, a4.I hw, t, ht, ?_⟩
  · by_cases e : a = 236
    · subst e; rw [rI_k (by omega)]; exact a1
    · rw [rI_i (Ne.symm e)]; exact a1
  · by_cases e : a = 236
    · subst e; rw [rI_k (by omega)]; exact a3
    · rw [rI_i (Ne.symm e)]; exact a3
  · by_cases e : a = 236
    · subst e; rw [rI_k (by omega)]; exact a5
    · rw [rI_i (Ne.symm e)]; exact a5
/-- token t is noted, behind which the reading may stand already (then the place noted lies below that of u) -/
theorem mr_wrong {t u : Nat} {x : Int32} {lt : FA} (hT : TKA b n σc) (h : RZ b n sd σc u σ) (htu : t ≤ u) (hl : (σ.1 236 15).toInt = lt.1 ∧ (lt.1 ≠ 0 → (σ.1 236 16).toInt = lt.2 ∧ (lt.2 < plI b n t ∨ (lt.2 = plI b n t ∧ lt.1 ≤ x.toInt)))) (hx : 0 < x.toInt) : Okv (f_X12_wrong x (nI t) σ) (fun s => RZ b n sd σc u s ∧ (s.1 236 15).toInt = (ltS (plI b n) t x.toInt lt).1 ∧ (s.1 236 16).toInt = (if lt.1 = 0 then plI b n t else lt.2) ∧ (s = σ ∨ ∃ v w, s = hI (hI σ 236 15 v) 236 16 w)) := by
  have hu := h.2.1
  have hp : (σ.1 240 t).toInt = plI b n t := by
    have := hT t (by omega) (fun p hp => h.2.2.1 p (by omega))
    rw [h.1.1 240 t (by unfold wPm; simp)]
    exact this.2.1
  unfold f_X12_wrong
  rw [nIt (by omega), Int.toNat_natCast]
  refine Okv.t (by omega) (Okv.bd ?_)
  refine Okv.f (by rw [h.2.2.2.2]; omega) ?_
  refine Okv.i (fun c => ?_) (fun c => ?_)
  · have e0 : lt.1 = 0 := by rw [← hl.1]; exact c
    unfold f_X12_wrong_46
    refine Okv.bd (Okv.bd (Okv.ret ⟨(h.wr (by unfold wPm; simp) (Or.inr (by decide))).wr (by unfold wPm; simp) (Or.inr (by decide)), ?_, ?_, Or.inr ⟨_, _, rfl⟩⟩))
    · unfold ltS; rw [if_pos e0, rI_k (by decide), rI_s]
    · rw [if_pos e0, rI_s]; exact hp
  · have e0 : lt.1 ≠ 0 := by rw [← hl.1]; exact c
    obtain ⟨l1, l2⟩ := hl.2 e0
    have fin : (fun s => RZ b n sd σc u s ∧ (s.1 236 15).toInt = (ltS (plI b n) t x.toInt lt).1 ∧ (s.1 236 16).toInt = (if lt.1 = 0 then plI b n t else lt.2) ∧ (s = σ ∨ ∃ v w, s = hI (hI σ 236 15 v) 236 16 w)) σ := by
      refine ⟨h, ?_, ?_, Or.inl rfl⟩
      · unfold ltS; rw [if_neg e0]; exact hl.1
      · rw [if_neg e0]; exact l1
    refine Okv.i (fun c1 => Okv.ret fin) (fun c1 => ?_)
    refine Okv.t (by rw [hp, l1] at *; omega) ?_
    exact Okv.f (by rw [hp, l1] at c1; rw [hl.1]; omega) (Okv.ret fin)
theorem LTM.up {t : Nat} {lt : FA} (h : LTM b n t σ lt) (hk : kdT b n t ≠ 0) : LTM b n (t + 1) σ lt := ⟨h.1, fun e => ⟨(h.2 e).1, by have := (h.2 e).2; have := pl_lt hk; omega⟩⟩
theorem LTM.eq {t : Nat} {lt : FA} {s : HS} (h : LTM b n t σ lt) (e1 : s.1 236 15 = σ.1 236 15) (e2 : s.1 236 16 = σ.1 236 16) : LTM b n t s lt := by unfold LTM; rw [e1, e2]; exact h
theorem mr_bounded_f {e : FA} {x1 x2 : Int32} (h : FLM sd σc e σ) : f_X12_bounded x1 x2 σ = some (x1, σ) := by
  unfold f_X12_bounded f_X12_bounded_15
  rw [if_pos (by rw [h.1]; exact h.2.1), mr_fail_f h]; rfl
/-- what a number taken changes -/
def wNmm (a k : Nat) : Bool := a == 236 && (k == 11 || k == 13 || k == 14 || k == 15 || k == 16)
theorem mr_bounded {t : Nat} {x1 x2 : Int32} {lt : FA} (hT : TKA b n σc) (h : RZ b n sd σc t σ) (hl : LTM b n t σ lt) : Ok (f_X12_bounded x1 x2 σ) (fun r s => PostM (FLM sd σc) (numS (kdT b n) (vlT b n) (plI b n) x1.toInt x2.toInt t lt) (fun a s => a.1 = t + 1 ∧ t < 400 ∧ kdT b n t = 2 ∧ a.2.1 = vlT b n t ∧ r.toInt = a.2.1 ∧ RZ b n sd σc (t + 1) s ∧ LTM b n (t + 1) s a.2.2 ∧ frm wNmm wl0 σ s) s) := by
  have ht := h.2.1
  have tk := RZ.tk hT h
  unfold f_X12_bounded
  refine Ok.f (by rw [h.2.2.2.2]; omega) ?_
  refine Ok.cle (mr_is hT h) ?_
  by_cases c : kdT b n t = 2
  · rw [show (decide (kdT b n t = (2 : Int32).toInt)) = true from decide_eq_true c]
    refine Ok.f (by decide) ?_
    rw [h.2.2.2.1, nIt (by omega), Int.toNat_natCast]
    refine Ok.t (by omega) (Ok.bd ?_)
    have hv := tk.2.2.1 c
    have pl1 := pl_lt (b := b) (n := n) (t := t) (by rw [c]; decide)
    -- the INT taken, behind what was noted
    have go : ∀ (s : HS) (lt1 : FA), RZ b n sd σc t s → (s.1 236 15).toInt = lt1.1 → (lt1.1 ≠ 0 → (s.1 236 16).toInt = lt1.2 ∧ lt1.2 < plI b n (t + 1)) → frm wNmm wl0 σ s → lt1 = (if vlT b n t < x1.toInt ∨ x2.toInt < vlT b n t then ltS (plI b n) t 5 lt else lt) → Ok (f_X12_bounded_51 (σ.1 241 t) s) (fun r s => PostM (FLM sd σc) (numS (kdT b n) (vlT b n) (plI b n) x1.toInt x2.toInt t lt) (fun a s => a.1 = t + 1 ∧ t < 400 ∧ kdT b n t = 2 ∧ a.2.1 = vlT b n t ∧ r.toInt = a.2.1 ∧ RZ b n sd σc (t + 1) s ∧ LTM b n (t + 1) s a.2.2 ∧ frm wNmm wl0 σ s) s) := by
      intro s lt1 hs h15 h16 hf e
      unfold f_X12_bounded_51 numS tkS
      rw [if_pos c]
      refine Ok.cv (mr_goesOn hT hs (by rw [c]; decide)) (fun s1 h1 => Ok.ret ?_)
      revert h1
      cases advS (plI b n) t with
      | error e => exact fun h1 => h1
      | ok a =>
        rintro ⟨rfl, h4, h5, h6⟩
        refine ⟨rfl, h4, c, rfl, hv, h5, ?_, ?_⟩
        · rw [← e]
          refine LTM.eq (σ := s) ⟨h15, h16⟩ ?_ ?_ <;> (rw [h6, rI_k (by decide)])
        · rw [h6]; exact hf.I rfl
    have note : (vlT b n t < x1.toInt ∨ x2.toInt < vlT b n t) → Ok (f_X12_bounded_42 (σ.1 241 t) σ) (fun r s => PostM (FLM sd σc) (numS (kdT b n) (vlT b n) (plI b n) x1.toInt x2.toInt t lt) (fun a s => a.1 = t + 1 ∧ t < 400 ∧ kdT b n t = 2 ∧ a.2.1 = vlT b n t ∧ r.toInt = a.2.1 ∧ RZ b n sd σc (t + 1) s ∧ LTM b n (t + 1) s a.2.2 ∧ frm wNmm wl0 σ s) s) := by
      intro hb
      unfold f_X12_bounded_42
      rw [h.2.2.2.1]
      refine Ok.cv (mr_wrong (t := t) (x := 5) hT h (Nat.le_refl _) ⟨hl.1, fun e => ⟨(hl.2 e).1, Or.inl (hl.2 e).2⟩⟩ (by decide)) (fun s hs => ?_)
      obtain ⟨h1, h2, h3, h4⟩ := hs
      refine go s (ltS (plI b n) t 5 lt) h1 h2 (fun e => ?_) ?_ (by rw [if_pos hb])
      · unfold ltS
        by_cases c0 : lt.1 = 0
        · rw [if_pos c0] at h3 ⊢; exact ⟨h3, pl1⟩
        · rw [if_neg c0] at h3 ⊢; exact ⟨h3, by have := (hl.2 c0).2; omega⟩
      · rcases h4 with rfl | ⟨v, w, rfl⟩
        · exact frm.rf
        · exact (frm.rf.I rfl).I rfl
    have plain : ¬ (vlT b n t < x1.toInt ∨ x2.toInt < vlT b n t) → Ok (f_X12_bounded_51 (σ.1 241 t) σ) _ := fun hb => go σ lt h hl.1 (fun e => ⟨(hl.2 e).1, by have := (hl.2 e).2; omega⟩) frm.rf (by rw [if_neg hb])
    refine Ok.i (fun c1 => note (Or.inl (by rw [← hv]; exact c1))) (fun c1 => ?_)
    rw [hv] at c1
    refine Ok.i (fun c2 => note (Or.inr (by rw [← hv]; exact c2))) (fun c2 => ?_)
    rw [hv] at c2
    exact plain (by omega)
  · rw [show (decide (kdT b n t = (2 : Int32).toInt)) = false from decide_eq_false c]
    refine Ok.t (by decide) ?_
    unfold f_X12_bounded_15
    refine Ok.cv (mr_fail (x := 1) hT h (by decide)) (fun s hs => Ok.ret (PostM.err ?_ hs))
    unfold numS tkS
    rw [if_neg c]; rfl
end MPR
/-! the reference's names, things, patterns -/
theorem ltS_2 {pl : Nat → Int} {t : Nat} {k : Int} {q : FA} : (ltS pl t k q).2 = if q.1 = 0 then pl t else q.2 := by unfold ltS; split <;> rfl
section MNM
variable {b : Nat → Int32} {n sd : Nat} {σc σ : HS}
def NMM (s : HS) (nc : Nat) (ns : Nat → Int64) : Prop := s.1 236 20 = nI nc ∧ nc ≤ 12 ∧ ∀ i, i < nc → s.2.1 244 i = ns i
theorem NMM.fr {w : Nat → Nat → Bool} {wl : Nat → Bool} {s : HS} {nc : Nat} {ns : Nat → Int64} (h : NMM σ nc ns) (hf : frm w wl σ s) (h9 : w 236 20 = false) (h7 : wl 244 = false) : NMM s nc ns := by
  unfold NMM
  rw [hf.1 236 20 h9, hf.2.1 244 h7]
  exact h
theorem NMM.wr {a k nc : Nat} {ns : Nat → Int64} {v : Int32} (h : NMM σ nc ns) (ha : a ≠ 236) : NMM (hI σ a k v) nc ns := by
  unfold NMM
  rw [rI_i (Ne.symm ha)]; exact h
theorem LTM.wr {t a k : Nat} {v : Int32} {lt : FA} (h : LTM b n t σ lt) (ha : a ≠ 236) : LTM b n t (hI σ a k v) lt := h.eq (rI_i (Ne.symm ha)) (rI_i (Ne.symm ha))
theorem mr_named {t nc : Nat} {ns : Nat → Int64} {lt : FA} (hT : TKA b n σc) (h : RZ b n sd σc t σ) (hl : LTM b n t σ lt) (hn : NMM σ nc ns) : Ok (f_X12_named σ) (fun r s => PostM (FLM sd σc) (nameS (kdT b n) (plI b n) (nmT b n) t nc ns lt) (fun a s => a.1 = t + 1 ∧ t < 400 ∧ kdT b n t = 1 ∧ r = nI t ∧ RZ b n sd σc (t + 1) s ∧ LTM b n (t + 1) s a.2 ∧ frm wNmm wl0 σ s) s) := by
  have ht := h.2.1
  have tk := RZ.tk hT h
  unfold f_X12_named
  refine Ok.bd ?_
  rw [h.2.2.2.1]
  refine Ok.cv (mr_must (x := 1) (k := 1) hT h rfl (by decide)) (fun s1 h1 => ?_)
  unfold nameS
  revert h1
  cases ex : tkS (kdT b n) (plI b n) 1 t with
  | error e =>
    intro hF
    show Ok (b_X12_named_12 (f_X12_named_12 4999) (nI t) 0 s1) _
    unfold b_X12_named_12
    exact Ok.i (fun _ => Ok.f (by rw [hF.1]; have := hF.2.1; omega) (Ok.ret hF)) (fun _ => Ok.ret hF)
  | ok t1 =>
    rintro ⟨rfl, h4, hk, hR1, hs1⟩
    have pl1 := pl_lt (b := b) (n := n) (t := t) (by rw [hk]; decide)
    have hnm : ∀ s, RZ b n sd σc (t + 1) s → s.2.1 242 t = nmT b n t := fun s hs => by
      rw [hs.1.2.1 242 rfl]
      exact (hT t ht h.2.2.1).2.2.2 hk
    have f1 : frm wNmm wl0 σ s1 := by rw [hs1]; exact frm.rf.I rfl
    have loop : ∀ (d i N : Nat) (s : HS), i + d = nc → d < N → RZ b n sd σc (t + 1) s → (s.1 236 15).toInt = (if hasN i ns (nmT b n t) = true then ltS (plI b n) t 3 lt else lt).1 → ((if hasN i ns (nmT b n t) = true then ltS (plI b n) t 3 lt else lt).1 ≠ 0 → (s.1 236 16).toInt = (if hasN i ns (nmT b n t) = true then ltS (plI b n) t 3 lt else lt).2) → frm wNmm wl0 σ s → Ok (f_X12_named_12 N (nI t) (nI i) s) (fun r s => PostM (FLM sd σc) (Except.ok (t + 1) >>= fun t1 => Except.ok (t1, if hasN nc ns (nmT b n t) = true then ltS (plI b n) t 3 lt else lt)) (fun a s => a.1 = t + 1 ∧ t < 400 ∧ kdT b n t = 1 ∧ r = nI t ∧ RZ b n sd σc (t + 1) s ∧ LTM b n (t + 1) s a.2 ∧ frm wNmm wl0 σ s) s) := by
      intro d
      induction d with
      | zero =>
        intro i N s hi hN hR h15 h16 hf
        obtain ⟨N, rfl⟩ : ∃ q, N = q + 1 := ⟨N - 1, by omega⟩
        obtain rfl : i = nc := by omega
        show Ok (b_X12_named_12 (f_X12_named_12 N) (nI t) (nI i) s) _
        unfold b_X12_named_12
        rw [hf.1 236 20 rfl, hn.1]
        refine Ok.f (by omega) (Ok.ret ?_)
        refine ⟨rfl, h4, hk, rfl, hR, ⟨h15, fun e => ⟨h16 e, ?_⟩⟩, hf⟩
        show (if hasN i ns (nmT b n t) = true then ltS (plI b n) t 3 lt else lt).2 < _
        have e : (if hasN i ns (nmT b n t) = true then ltS (plI b n) t 3 lt else lt).1 ≠ 0 := e
        by_cases c : hasN i ns (nmT b n t) = true
        · rw [if_pos c] at e ⊢
          unfold ltS at e ⊢
          by_cases c0 : lt.1 = 0
          · rw [if_pos c0]; exact pl1
          · rw [if_neg c0]; have := (hl.2 c0).2; omega
        · rw [if_neg c] at e ⊢
          have := (hl.2 e).2; omega
      | succ d ih =>
        intro i N s hi hN hR h15 h16 hf
        obtain ⟨N, rfl⟩ : ∃ q, N = q + 1 := ⟨N - 1, by omega⟩
        have hnc := hn.2.1
        show Ok (b_X12_named_12 (f_X12_named_12 N) (nI t) (nI i) s) _
        unfold b_X12_named_12
        rw [hf.1 236 20 rfl, hn.1, nIt (by omega), nIt (by omega), nIt (by omega), Int.toNat_natCast, Int.toNat_natCast]
        refine Ok.t (by omega) (Ok.t hR.2.2.2.2 (Ok.t (by omega) (Ok.t (by omega) ?_)))
        rw [hnm s hR, hf.2.1 244 rfl, hn.2.2 i (by omega)]
        simp only [f_X12_named_49, Bd, nI_1]
        refine Ok.i (fun c => ?_) (fun c => ?_)
        · rw [lgc0] at c
          have hh : hasN (i + 1) ns (nmT b n t) = true := by rw [hasN_s, c]; simp
          refine Ok.cv (mr_wrong (t := t) (u := t + 1) (x := 3) (lt := if hasN i ns (nmT b n t) = true then ltS (plI b n) t 3 lt else lt) hT hR (by omega) ⟨h15, fun e => ⟨h16 e, ?_⟩⟩ (by decide)) (fun s2 h2 => ?_)
          · by_cases c1 : hasN i ns (nmT b n t) = true
            · rw [if_pos c1] at e ⊢
              unfold ltS at e ⊢
              by_cases c0 : lt.1 = 0
              · rw [if_pos c0]; exact Or.inr ⟨rfl, (by show (3 : Int) ≤ 3; omega)⟩
              · rw [if_neg c0]; exact Or.inl (hl.2 c0).2
            · rw [if_neg c1] at e ⊢
              exact Or.inl (hl.2 e).2
          · obtain ⟨a1, a2, a3, a4⟩ := h2
            have ev : ltS (plI b n) t 3 (if hasN i ns (nmT b n t) = true then ltS (plI b n) t 3 lt else lt) = ltS (plI b n) t 3 lt := by
              by_cases c1 : hasN i ns (nmT b n t) = true
              · rw [if_pos c1]; exact ltS_idem (by decide)
              · rw [if_neg c1]
            refine ih (i + 1) N s2 (by omega) (by omega) a1 ?_ (fun e => ?_) ?_
            · rw [a2, if_pos hh]; exact congrArg Prod.fst ev
            · rw [if_pos hh] at e ⊢
              exact a3.trans ((ltS_2 (k := 3)).symm.trans (congrArg Prod.snd ev))
            · rcases a4 with rfl | ⟨v, w, rfl⟩
              · exact hf
              · exact (hf.I rfl).I rfl
        · rw [lgc0] at c
          have hh : hasN (i + 1) ns (nmT b n t) = hasN i ns (nmT b n t) := by rw [hasN_s, show (ns i == nmT b n t) = false by simpa using c, Bool.or_false]
          exact ih (i + 1) N s (by omega) (by omega) hR (by rw [hh]; exact h15) (by rw [hh]; exact h16) hf
    rw [nI0]
    refine loop nc 0 5000 s1 (by omega) (by have := hn.2.1; omega) hR1 ?_ ?_ f1
    · rw [show hasN 0 ns (nmT b n t) = false from rfl, if_neg (by decide), hs1, rI_k (by decide)]; exact hl.1
    · rw [show hasN 0 ns (nmT b n t) = false from rfl, if_neg (by decide), hs1, rI_k (by decide)]
      exact fun e => (hl.2 e).1
def wEn (a k : Nat) : Bool := a == 236 && (k == 11 || k == 13 || k == 14 || k == 20)
theorem mr_ends_f {e : FA} {x : Int32} (h : FLM sd σc e σ) : f_X12_ends x σ = some σ := by
  unfold f_X12_ends
  rw [mr_must_f h]
  simp only [Cv]
  rw [if_pos (by rw [h.1]; exact h.2.1)]
theorem mr_ends {t t0 nc : Nat} {ns : Nat → Int64} (hT : TKA b n σc) (h : RZ b n sd σc t σ) (hn : NMM σ nc ns) (h12 : nc < 12) (h0 : t0 < t) (hk : kdT b n t0 = 1) : Okv (f_X12_ends (nI t0) σ) (PostM (FLM sd σc) (tkS (kdT b n) (plI b n) 4 t) (fun t1 s => t1 = t + 1 ∧ t < 400 ∧ RZ b n sd σc (t + 1) s ∧ NMM s (nc + 1) (upN ns nc (nmT b n t0)) ∧ frm wEn wlPm σ s)) := by
  have ht := h.2.1
  unfold f_X12_ends
  refine Okv.cv (mr_must (x := 4) (k := 4) hT h rfl (by decide)) (fun s1 h1 => ?_)
  revert h1
  cases ex : tkS (kdT b n) (plI b n) 4 t with
  | error e => exact fun hF => Okv.t (by rw [hF.1]; exact hF.2.1) (Okv.ret hF)
  | ok t1 =>
    rintro ⟨rfl, h4, hk4, hR1, hs1⟩
    have f1 : frm wEn wl0 σ s1 := by rw [hs1]; exact frm.rf.I rfl
    have e20 : s1.1 236 20 = nI nc := by rw [hs1, rI_k (by decide)]; exact hn.1
    have e244 : s1.2.1 244 = σ.2.1 244 := by rw [hs1]; rfl
    have e242 : s1.2.1 242 t0 = nmT b n t0 := by
      rw [hR1.1.2.1 242 rfl]
      exact (hT t0 (by omega) (fun p hp => h.2.2.1 p (by omega))).2.2.2 hk
    refine Okv.f (by rw [hR1.2.2.2.2]; omega) ?_
    rw [nIt (by omega), e20, nIt (by omega), Int.toNat_natCast, Int.toNat_natCast]
    refine Okv.t (by omega) (Okv.t (by omega) (Okv.bd ?_))
    rw [rL_1, e20, nI_1, e242]
    refine Okv.bd (Okv.ret ⟨rfl, h4, ⟨(hR1.1.L rfl).I (by unfold wPm; simp), hR1.2.1, hR1.2.2.1, ?_, ?_⟩, ⟨rI_s, by omega, fun i hi => ?_⟩, (f1.mono (fun _ _ e => e) (fun _ _ => rfl) |>.L rfl).I rfl⟩)
    · rw [rI_k (by decide)]; exact hR1.2.2.2.1
    · rw [rI_k (by decide)]; exact hR1.2.2.2.2
    · show (hL s1 244 nc (nmT b n t0)).2.1 244 i = upN ns nc (nmT b n t0) i
      unfold upN
      by_cases c : i = nc
      · rw [c, rL_s, if_pos rfl]
      · rw [rL_k c, if_neg c, e244]; exact hn.2.2 i (by omega)
end MNM
/-! the reference's things -/
section MTH
variable {b : Nat → Int32} {n sd : Nat} {σc σ : HS}
theorem tl_w {e : FA} {a k : Nat} {v : Int32} {f : HS → Option HS} {Q : HS → Prop} (h : FLM sd σc e σ) (hw : wPm sd a k = true) (h1 : a ≠ 236) (k1 : ∀ s, FLM sd σc e s → Okv (f s) Q) : Okv (Bd (hI σ a k v) f) Q := k1 _ (h.wr hw (Or.inl h1))
def wThm (sd i a k : Nat) : Bool := (a == 236 && (k == 11 || k == 13 || k == 14 || k == 15 || k == 16 || k == 20)) || (a == 245 && k == sd) || ((a == 246 || a == 247 || a == 248) && k == 7 * sd + i)
theorem wNmm_Th {i a k : Nat} (h : wThm sd i a k = false) : wNmm a k = false := by
  unfold wThm at h
  unfold wNmm
  simp only [Bool.or_eq_false_iff] at h
  have h1 := h.1.1
  cases e : (a == 236) with
  | false => rfl
  | true => rw [e] at h1; simp at h1 ⊢; omega
theorem wEn_Th {i a k : Nat} (h : wThm sd i a k = false) : wEn a k = false := by
  unfold wThm at h
  unfold wEn
  simp only [Bool.or_eq_false_iff] at h
  have h1 := h.1.1
  cases e : (a == 236) with
  | false => rfl
  | true => rw [e] at h1; simp at h1 ⊢; omega
theorem wPm_row {a i : Nat} (ha : a = 246 ∨ a = 247 ∨ a = 248) (hi : i < 7) : wPm sd a (7 * sd + i) = true := by
  unfold wPm
  rcases ha with rfl | rfl | rfl <;> simp <;> omega
theorem mr_thing {t nT nc : Nat} {ns : Nat → Int64} {lt : FA} (hT : TKA b n σc) (hsd : sd ≤ 1) (h : RZ b n sd σc t σ) (hl : LTM b n t σ lt) (hn : NMM σ nc ns) (h12 : nc < 12) (hside : σ.1 236 19 = nI sd) (h0 : σ.1 245 sd = nI nT) (h7 : nT < 7) : Okv (f_X12_tellThing σ) (PostM (FLM sd σc) (nameS (kdT b n) (plI b n) (nmT b n) t nc ns lt >>= fun a => numS (kdT b n) (vlT b n) (plI b n) 1 9 a.1 a.2 >>= fun b1 => numS (kdT b n) (vlT b n) (plI b n) 0 9 b1.1 b1.2.2 >>= fun c => numS (kdT b n) (vlT b n) (plI b n) 0 9 c.1 c.2.2 >>= fun d => tkS (kdT b n) (plI b n) 4 d.1 >>= fun t2 => .ok (t2, (b1.2.1, c.2.1, d.2.1), d.2.2)) (fun (a : Nat × (Int × Int × Int) × FA) s => t < a.1 ∧ RZ b n sd σc a.1 s ∧ LTM b n a.1 s a.2.2 ∧ NMM s (nc + 1) (upN ns nc (nmT b n t)) ∧ s.1 245 sd = nI (nT + 1) ∧ (s.1 246 (7 * sd + nT)).toInt = a.2.1.1 ∧ (s.1 247 (7 * sd + nT)).toInt = a.2.1.2.1 ∧ (s.1 248 (7 * sd + nT)).toInt = a.2.1.2.2 ∧ frm (wThm sd nT) wlPm σ s)) := by
  have z7 : ((7 : Int32) * nI sd + nI nT) = nI (7 * sd + nT) := by
    rcases (show sd = 0 ∨ sd = 1 by omega) with rfl | rfl
    · rw [show (7 : Int32) * nI 0 = nI 0 from rfl, nI_add]
    · rw [show (7 : Int32) * nI 1 = nI 7 from rfl, nI_add]
  have hwp_246 : wPm sd 246 (7 * sd + nT) = true := wPm_row (by omega) h7
  have hwp_247 : wPm sd 247 (7 * sd + nT) = true := wPm_row (by omega) h7
  have hwp_248 : wPm sd 248 (7 * sd + nT) = true := wPm_row (by omega) h7
  unfold f_X12_tellThing
  rw [hside, nIt (by omega), Int.toNat_natCast, h0, z7]
  refine Okv.t (by omega) (Okv.bd ?_)
  rw [nIt (by omega), Int.toNat_natCast]
  refine Okv.cl (mr_named hT h hl hn) (fun r s1 h1 => ?_)
  revert h1
  cases ex1 : nameS (kdT b n) (plI b n) (nmT b n) t nc ns lt with
  | error e =>
    intro hF
    show Okv _ (FLM sd σc e)
    refine Okv.cle (mr_bounded_f hF) ?_
    refine Okv.t (by omega) ?_
    refine tl_w hF (a := 246) (k := 7 * sd + nT) (hwp_246) (by decide) (fun _ hF => ?_)
    refine Okv.cle (mr_bounded_f hF) ?_
    refine Okv.t (by omega) ?_
    refine tl_w hF (a := 247) (k := 7 * sd + nT) (hwp_247) (by decide) (fun _ hF => ?_)
    refine Okv.cle (mr_bounded_f hF) ?_
    refine Okv.t (by omega) ?_
    refine tl_w hF (a := 248) (k := 7 * sd + nT) (hwp_248) (by decide) (fun _ hF => ?_)
    refine Okv.cve (mr_ends_f hF) ?_
    exact Okv.f (by rw [hF.1]; have := hF.2.1; omega) (Okv.ret hF)
  | ok a1 =>
  rintro ⟨e1, -, hk1, rfl, r1, l1, f1⟩
  have n1 := hn.fr f1 rfl rfl
  refine Okv.cl (mr_bounded (x1 := 1) (x2 := 9) hT r1 l1) (fun v2 s2 h2 => ?_)
  show Okv _ (PostM _ (numS (kdT b n) (vlT b n) (plI b n) 1 9 a1.1 a1.2 >>= _) _)
  rw [← e1] at h2
  revert h2
  show PostM _ (numS (kdT b n) (vlT b n) (plI b n) 1 9 a1.1 a1.2) _ _ → _
  cases ex2 : numS (kdT b n) (vlT b n) (plI b n) 1 9 a1.1 a1.2 with
  | error e =>
    intro hF
    show Okv _ (FLM sd σc e)
    refine Okv.t (by omega) ?_
    refine tl_w hF (a := 246) (k := 7 * sd + nT) (hwp_246) (by decide) (fun _ hF => ?_)
    refine Okv.cle (mr_bounded_f hF) ?_
    refine Okv.t (by omega) ?_
    refine tl_w hF (a := 247) (k := 7 * sd + nT) (hwp_247) (by decide) (fun _ hF => ?_)
    refine Okv.cle (mr_bounded_f hF) ?_
    refine Okv.t (by omega) ?_
    refine tl_w hF (a := 248) (k := 7 * sd + nT) (hwp_248) (by decide) (fun _ hF => ?_)
    refine Okv.cve (mr_ends_f hF) ?_
    exact Okv.f (by rw [hF.1]; have := hF.2.1; omega) (Okv.ret hF)
  | ok a2 =>
  rintro ⟨e2, -, -, -, v2', r2, l2, f2⟩
  refine Okv.t (by omega) (Okv.bd ?_)
  generalize hs3 : hI s2 246 (7 * sd + nT) v2 = s3
  have r3 : RZ b n sd σc (a1.1 + 1) s3 := by rw [← hs3]; exact r2.wr hwp_246 (Or.inl (by decide))
  have l3 : LTM b n (a1.1 + 1) s3 a2.2.2 := by rw [← hs3]; exact l2.wr (by decide)
  refine Okv.cl (mr_bounded (x1 := 0) (x2 := 9) hT r3 l3) (fun v4 s4 h4 => ?_)
  show Okv _ (PostM _ (numS (kdT b n) (vlT b n) (plI b n) 0 9 a2.1 a2.2.2 >>= _) _)
  rw [← e2] at h4
  revert h4
  show PostM _ (numS (kdT b n) (vlT b n) (plI b n) 0 9 a2.1 a2.2.2) _ _ → _
  cases ex4 : numS (kdT b n) (vlT b n) (plI b n) 0 9 a2.1 a2.2.2 with
  | error e =>
    intro hF
    show Okv _ (FLM sd σc e)
    refine Okv.t (by omega) ?_
    refine tl_w hF (a := 247) (k := 7 * sd + nT) (hwp_247) (by decide) (fun _ hF => ?_)
    refine Okv.cle (mr_bounded_f hF) ?_
    refine Okv.t (by omega) ?_
    refine tl_w hF (a := 248) (k := 7 * sd + nT) (hwp_248) (by decide) (fun _ hF => ?_)
    refine Okv.cve (mr_ends_f hF) ?_
    exact Okv.f (by rw [hF.1]; have := hF.2.1; omega) (Okv.ret hF)
  | ok a4 =>
  rintro ⟨e4, -, -, -, v4', r4, l4, f4⟩
  refine Okv.t (by omega) (Okv.bd ?_)
  generalize hs5 : hI s4 247 (7 * sd + nT) v4 = s5
  have r5 : RZ b n sd σc (a2.1 + 1) s5 := by rw [← hs5]; exact r4.wr hwp_247 (Or.inl (by decide))
  have l5 : LTM b n (a2.1 + 1) s5 a4.2.2 := by rw [← hs5]; exact l4.wr (by decide)
  refine Okv.cl (mr_bounded (x1 := 0) (x2 := 9) hT r5 l5) (fun v6 s6 h6 => ?_)
  show Okv _ (PostM _ (numS (kdT b n) (vlT b n) (plI b n) 0 9 a4.1 a4.2.2 >>= _) _)
  rw [← e4] at h6
  revert h6
  show PostM _ (numS (kdT b n) (vlT b n) (plI b n) 0 9 a4.1 a4.2.2) _ _ → _
  cases ex6 : numS (kdT b n) (vlT b n) (plI b n) 0 9 a4.1 a4.2.2 with
  | error e =>
    intro hF
    show Okv _ (FLM sd σc e)
    refine Okv.t (by omega) ?_
    refine tl_w hF (a := 248) (k := 7 * sd + nT) (hwp_248) (by decide) (fun _ hF => ?_)
    refine Okv.cve (mr_ends_f hF) ?_
    exact Okv.f (by rw [hF.1]; have := hF.2.1; omega) (Okv.ret hF)
  | ok a6 =>
  rintro ⟨e6, -, -, -, v6', r6, l6, f6⟩
  refine Okv.t (by omega) (Okv.bd ?_)
  generalize hs7 : hI s6 248 (7 * sd + nT) v6 = s7
  have r7 : RZ b n sd σc (a4.1 + 1) s7 := by rw [← hs7]; exact r6.wr hwp_248 (Or.inl (by decide))
  have l7 : LTM b n (a4.1 + 1) s7 a6.2.2 := by rw [← hs7]; exact l6.wr (by decide)
  have F1 : frm (wThm sd nT) wl0 σ s1 := f1.mono (fun _ _ => wNmm_Th) (fun _ e => e)
  have F3 : frm (wThm sd nT) wl0 σ s3 := by rw [← hs3]; exact (F1.tr (f2.mono (fun _ _ => wNmm_Th) (fun _ e => e))).I (by unfold wThm; simp)
  have F5 : frm (wThm sd nT) wl0 σ s5 := by rw [← hs5]; exact (F3.tr (f4.mono (fun _ _ => wNmm_Th) (fun _ e => e))).I (by unfold wThm; simp)
  have F7 : frm (wThm sd nT) wl0 σ s7 := by rw [← hs7]; exact (F5.tr (f6.mono (fun _ _ => wNmm_Th) (fun _ e => e))).I (by unfold wThm; simp)
  have n7 : NMM s7 nc ns := by rw [← hs7]; exact ((by rw [← hs5]; exact ((by rw [← hs3]; exact (n1.fr f2 rfl rfl).wr (by decide) : NMM s3 nc ns).fr f4 rfl rfl).wr (by decide) : NMM s5 nc ns).fr f6 rfl rfl).wr (by decide)
  refine Okv.cv (mr_ends (t0 := t) hT r7 n7 h12 (by omega) hk1) (fun s8 h8 => ?_)
  show Okv _ (PostM _ (tkS (kdT b n) (plI b n) 4 a6.1 >>= _) _)
  rw [← e6] at h8
  revert h8
  cases ex8 : tkS (kdT b n) (plI b n) 4 a6.1 with
  | error e =>
    intro hF
    show Okv _ (FLM sd σc e)
    exact Okv.f (by rw [hF.1]; have := hF.2.1; omega) (Okv.ret hF)
  | ok t8 =>
  rintro ⟨rfl, -, r8, n8, f8⟩
  have F8 : frm (wThm sd nT) wlPm σ s8 := (F7.mono (fun _ _ e => e) (fun _ _ => rfl)).tr (f8.mono (fun _ _ => wEn_Th) (fun _ e => e))
  have side8 : s8.1 236 19 = nI sd := by rw [F8.1 236 19 (by unfold wThm; simp)]; exact hside
  have c8 : s8.1 245 sd = nI nT := by
    have q : ∀ {s s' : HS}, frm wNmm wl0 s s' → s'.1 245 sd = s.1 245 sd := fun h => h.1 245 sd rfl
    rw [f8.1 245 sd rfl, ← hs7, rI_i (by decide), q f6, ← hs5, rI_i (by decide), q f4, ← hs3, rI_i (by decide), q f2, q f1]; exact h0
  refine Okv.t r8.2.2.2.2 ?_
  rw [side8, nIt (by omega), Int.toNat_natCast]
  refine Okv.t (by omega) (Okv.t (by omega) (Okv.bd ?_))
  rw [c8, nI_1]
  refine Okv.ret ?_
  have rd : ∀ a, a = 246 ∨ a = 247 ∨ a = 248 → (hI s8 245 sd (nI (nT + 1))).1 a (7 * sd + nT) = s7.1 a (7 * sd + nT) := fun a ha => by
    rw [rI_i (by omega), f8.1 _ _ (by unfold wEn; rcases ha with rfl | rfl | rfl <;> rfl)]
  have qn : ∀ {s s' : HS} (a : Nat), a ≠ 236 → frm wNmm wl0 s s' → s'.1 a (7 * sd + nT) = s.1 a (7 * sd + nT) := fun a ha h => h.1 _ _ (by unfold wNmm; simp [ha])
  refine ⟨by show t < a6.1 + 1; omega, r8.wr (by unfold wPm; simp) (Or.inl (by decide)), ?_, ⟨?_, n8.2.1, n8.2.2⟩, rI_s, ?_, ?_, ?_, F8.I (by unfold wThm; simp)⟩
  · have hk6 : kdT b n a6.1 = 4 := by
      unfold tkS at ex8
      by_cases c : kdT b n a6.1 = 4
      · exact c
      · rw [if_neg c] at ex8; exact absurd ex8 (by simp)
    have l7' : LTM b n a6.1 s7 a6.2.2 := by rw [e6]; exact l7
    refine (l7'.up (by rw [hk6]; decide)).eq ?_ ?_
    · rw [rI_i (by decide), f8.1 _ _ rfl]
    · rw [rI_i (by decide), f8.1 _ _ rfl]
  · rw [rI_i (by decide)]; exact n8.1
  · rw [rd 246 (by omega), ← hs7, rI_i (by decide), qn 246 (by decide) f6, ← hs5, rI_i (by decide), qn 246 (by decide) f4, ← hs3, rI_s]; exact v2'
  · rw [rd 247 (by omega), ← hs7, rI_i (by decide), qn 247 (by decide) f6, ← hs5, rI_s]; exact v4'
  · rw [rd 248 (by omega), ← hs7, rI_s]; exact v6'
end MTH
/-! the reference's patterns, rests, seed -/
section MBS
variable {α β : Type} {F1 F : FA → HS → Prop} {x : Except FA α} {y : α → Except FA β}
theorem MB {K : α → HS → Prop} {K' : β → HS → Prop} {f : Option HS} {g : HS → Option HS} (h : Okv f (PostM F1 x K)) (ke : ∀ e s, F1 e s → Okv (g s) (F e)) (k : ∀ a s, x = .ok a → K a s → Okv (g s) (PostM F (y a) K')) : Okv (Cv f g) (PostM F (x >>= y) K') := by
  obtain ⟨s, rfl, h⟩ := h
  cases x with
  | error e => exact ke e s h
  | ok a => exact k a s rfl h
theorem MBl {K : Int32 → α → HS → Prop} {K' : β → HS → Prop} {f : Option (Int32 × HS)} {g : Int32 → HS → Option HS} (h : Ok f (fun r s => PostM F1 x (K r) s)) (ke : ∀ r e s, F1 e s → Okv (g r s) (F e)) (k : ∀ r a s, x = .ok a → K r a s → Okv (g r s) (PostM F (y a) K')) : Okv (Cl f g) (PostM F (x >>= y) K') := by
  obtain ⟨r, s, rfl, h⟩ := h
  cases x with
  | error e => exact ke r e s h
  | ok a => exact k r a s rfl h
theorem MC {K : α → HS → Prop} {K' : Int32 → β → HS → Prop} {f : Option HS} {g : HS → Option (Int32 × HS)} (h : Okv f (PostM F1 x K)) (ke : ∀ e s, F1 e s → Ok (g s) (fun _ s => F e s)) (k : ∀ a s, x = .ok a → K a s → Ok (g s) (fun r s => PostM F (y a) (K' r) s)) : Ok (Cv f g) (fun r s => PostM F (x >>= y) (K' r) s) := by
  obtain ⟨s, rfl, h⟩ := h
  cases x with
  | error e => exact ke e s h
  | ok a => exact k a s rfl h
theorem MCl {K : Int32 → α → HS → Prop} {K' : Int32 → β → HS → Prop} {f : Option (Int32 × HS)} {g : Int32 → HS → Option (Int32 × HS)} (h : Ok f (fun r s => PostM F1 x (K r) s)) (ke : ∀ r e s, F1 e s → Ok (g r s) (fun _ s => F e s)) (k : ∀ r a s, x = .ok a → K r a s → Ok (g r s) (fun r s => PostM F (y a) (K' r) s)) : Ok (Cl f g) (fun r s => PostM F (x >>= y) (K' r) s) := by
  obtain ⟨r, s, rfl, h⟩ := h
  cases x with
  | error e => exact ke r e s h
  | ok a => exact k r a s rfl h
end MBS
section MPT
variable {b : Nat → Int32} {n sd : Nat} {σc σ : HS}
def wPtm (sd i a k : Nat) : Bool := (a == 236 && (k == 11 || k == 13 || k == 14 || k == 15 || k == 16 || k == 20)) || (a == 249 && k == sd) || (a == 250 && k == 5 * sd + i) || (a == 251 && decide (8 * (5 * sd + i) ≤ k) && decide (k < 8 * (5 * sd + i) + 8))
theorem wNmm_Pt {i a k : Nat} (h : wPtm sd i a k = false) : wNmm a k = false := by
  unfold wPtm at h
  unfold wNmm
  simp only [Bool.or_eq_false_iff] at h
  have h1 := h.1.1.1
  cases e : (a == 236) with
  | false => rfl
  | true => rw [e] at h1; simp at h1 ⊢; omega
theorem wEn_Pt {i a k : Nat} (h : wPtm sd i a k = false) : wEn a k = false := by
  unfold wPtm at h
  unfold wEn
  simp only [Bool.or_eq_false_iff] at h
  have h1 := h.1.1.1
  cases e : (a == 236) with
  | false => rfl
  | true => rw [e] at h1; simp at h1 ⊢; omega
theorem z8m : ∀ z, z < 10 → (8 : Int32) * nI z = nI (8 * z) := by decide +kernel
theorem z5m : ∀ z, z < 2 → (5 : Int32) * nI z = nI (5 * z) := by decide +kernel
theorem mr_hts_f {e : FA} {N : Nat} {y1 y2 : Int32} (h : FLM sd σc e σ) : f_X12_tellPattern_45 (N + 1) y1 y2 σ = some σ := by
  show b_X12_tellPattern_45 (f_X12_tellPattern_45 N) y1 y2 σ = some σ
  unfold b_X12_tellPattern_45 f_X12_tellPattern_120
  rw [if_neg (by rw [h.1]; have := h.2.1; omega), mr_ends_f h]
  simp only [Cv]
  rw [if_neg (by rw [h.1]; have := h.2.1; omega)]
/-- what a told pattern leaves -/
def KPm (b : Nat → Int32) (n sd : Nat) (σc : HS) (t nP nc : Nat) (ns : Nat → Int64) (σ : HS) (a : Nat × Nat × (Nat → Int) × FA) (s : HS) : Prop := t < a.1 ∧ RZ b n sd σc a.1 s ∧ LTM b n a.1 s a.2.2.2 ∧ NMM s nc ns ∧ s.1 249 sd = nI (nP + 1) ∧ s.1 250 (5 * sd + nP) = nI a.2.1 ∧ (1 ≤ a.2.1 ∧ a.2.1 ≤ 8) ∧ (∀ i, i < a.2.1 → (s.1 251 (8 * (5 * sd + nP) + i)).toInt = a.2.2.1 i) ∧ frm (wPtm sd nP) wlPm σ s
theorem mr_hts (hT : TKA b n σc) (hsd : sd ≤ 1) {t nP nc : Nat} {ns : Nat → Int64} (h5 : nP < 5) (h12 : nc < 12) (hk1 : kdT b n t = 1) : ∀ (m N k t1 : Nat) (hs : Nat → Int) (lt : FA) (s : HS), k + m = 8 → m + 1 < N → 1 ≤ k → t < t1 → RZ b n sd σc t1 s → LTM b n t1 s lt → NMM s nc ns → s.1 236 19 = nI sd → s.1 249 sd = nI nP → s.1 250 (5 * sd + nP) = nI k → (∀ i, i < k → (s.1 251 (8 * (5 * sd + nP) + i)).toInt = hs i) → frm (wPtm sd nP) wlPm σ s → Okv (f_X12_tellPattern_45 N (nI (5 * sd + nP)) (nI t) s) (PostM (FLM sd σc) (htsS (kdT b n) (vlT b n) (plI b n) k hs t1 lt m) (KPm b n sd σc t nP (nc + 1) (upN ns nc (nmT b n t)) σ)) := by
  have fin : ∀ (k t1 : Nat) (hs : Nat → Int) (lt : FA) (s : HS), k ≤ 8 → 1 ≤ k → t < t1 → RZ b n sd σc t1 s → LTM b n t1 s lt → NMM s nc ns → s.1 236 19 = nI sd → s.1 249 sd = nI nP → s.1 250 (5 * sd + nP) = nI k → (∀ i, i < k → (s.1 251 (8 * (5 * sd + nP) + i)).toInt = hs i) → frm (wPtm sd nP) wlPm σ s → Okv (f_X12_tellPattern_120 (nI t) s) (PostM (FLM sd σc) (tkS (kdT b n) (plI b n) 4 t1 >>= fun t2 => .ok (t2, k, hs, lt)) (KPm b n sd σc t nP (nc + 1) (upN ns nc (nmT b n t)) σ)) := by
    intro k t1 hs lt s hk hk1' htt hR hl hn hsi h249 h250 hh hF
    unfold f_X12_tellPattern_120
    refine MB (mr_ends (t0 := t) hT hR hn h12 htt hk1) (fun e s hF => Okv.f (by rw [hF.1]; have := hF.2.1; omega) (Okv.ret hF)) (fun t2 s4 ex h4 => ?_)
    obtain ⟨rfl, h400, r4, n4, f4⟩ := h4
    have hk4 : kdT b n t1 = 4 := by
      unfold tkS at ex
      by_cases c : kdT b n t1 = 4
      · exact c
      · rw [if_neg c] at ex; exact absurd ex (by simp)
    refine Okv.t r4.2.2.2.2 ?_
    rw [f4.1 236 19 rfl, hsi, nIt (by omega), Int.toNat_natCast]
    refine Okv.t (by omega) (Okv.t (by omega) (Okv.bd ?_))
    rw [f4.1 249 sd rfl, h249, nI_1]
    refine Okv.ret ?_
    show KPm b n sd σc t nP (nc + 1) (upN ns nc (nmT b n t)) σ (t1 + 1, k, hs, lt) _
    refine ⟨by show t < t1 + 1; omega, r4.wr (by unfold wPm; simp) (Or.inl (by decide)), ?_, ⟨?_, n4.2.1, n4.2.2⟩, rI_s, ?_, ⟨hk1', hk⟩, fun i hi => ?_, (hF.tr (f4.mono (fun _ _ => wEn_Pt) (fun _ e => e))).I (by unfold wPtm; simp)⟩
    · refine ((hl.up (by rw [hk4]; decide)).eq ?_ ?_ : LTM b n (t1 + 1) _ lt)
      · rw [rI_i (by decide), f4.1 _ _ rfl]
      · rw [rI_i (by decide), f4.1 _ _ rfl]
    · rw [rI_i (by decide)]; exact n4.1
    · rw [rI_i (by decide), f4.1 _ _ rfl]; exact h250
    · rw [rI_i (by decide), f4.1 _ _ rfl]; exact hh i hi
  intro m
  induction m with
  | zero =>
    intro N k t1 hs lt s hk hN hk1' htt hR hl hn hsi h249 h250 hh hF
    obtain ⟨N, rfl⟩ : ∃ q, N = q + 1 := ⟨N - 1, by omega⟩
    show Okv (b_X12_tellPattern_45 (f_X12_tellPattern_45 N) (nI (5 * sd + nP)) (nI t) s) (PostM _ (if kdT b n t1 = 2 then .error (2, plI b n t1) else _) _)
    unfold b_X12_tellPattern_45
    refine Okv.t hR.2.2.2.2 (Okv.cle (mr_is hT hR) ?_)
    by_cases c2 : kdT b n t1 = 2
    · rw [if_pos c2, show (decide (kdT b n t1 = (2 : Int32).toInt)) = true from decide_eq_true c2, nIt (by omega), Int.toNat_natCast, h250, nIt (by omega)]
      refine Okv.f (by decide) (Okv.t (by omega) (Okv.t (by omega) ?_))
      refine Okv.cv (mr_fail (x := 2) hT hR (by decide)) (fun s2 hF2 => ?_)
      unfold f_X12_tellPattern_76
      exact Okv.t (by rw [hF2.1]; exact hF2.2.1) (Okv.ret hF2)
    · rw [if_neg c2, show (decide (kdT b n t1 = (2 : Int32).toInt)) = false from decide_eq_false c2]
      exact Okv.t (by decide) (fin k t1 hs lt s (by omega) hk1' htt hR hl hn hsi h249 h250 hh hF)
  | succ m ih =>
    intro N k t1 hs lt s hk hN hk1' htt hR hl hn hsi h249 h250 hh hF
    obtain ⟨N, rfl⟩ : ∃ q, N = q + 1 + 1 := ⟨N - 2, by omega⟩
    show Okv (b_X12_tellPattern_45 (f_X12_tellPattern_45 (N + 1)) (nI (5 * sd + nP)) (nI t) s) (PostM _ (if kdT b n t1 = 2 then _ else _) _)
    unfold b_X12_tellPattern_45
    refine Okv.t hR.2.2.2.2 (Okv.cle (mr_is hT hR) ?_)
    by_cases c2 : kdT b n t1 = 2
    · rw [if_pos c2, show (decide (kdT b n t1 = (2 : Int32).toInt)) = true from decide_eq_true c2]
      refine Okv.f (by decide) ?_
      unfold f_X12_tellPattern_76
      rw [nIt (by omega), Int.toNat_natCast, h250, nIt (by omega), z8m _ (by omega), nI_add, nIt (by omega), Int.toNat_natCast]
      refine Okv.t (by omega) (Okv.f (by omega) (Okv.f (by rw [hR.2.2.2.2]; omega) (Okv.t (by omega) ?_)))
      have hw : wPm sd 251 (8 * (5 * sd + nP) + k) = true := by unfold wPm; simp; omega
      have hw2 : wPm sd 250 (5 * sd + nP) = true := by unfold wPm; simp; omega
      refine MBl (mr_bounded (x1 := 0) (x2 := 9) hT hR hl) (fun r e s hF => ?_) (fun r a s1 _ h1 => ?_)
      · exact Okv.t (by omega) (tl_w hF hw (by decide) (fun s hF => Okv.t (by omega) (Okv.t (by omega) (tl_w hF hw2 (by decide) (fun s hF => ⟨_, mr_hts_f hF, hF⟩)))))
      · obtain ⟨e1, -, -, -, v1, r1, l1, f1⟩ := h1
        refine Okv.t (by omega) (Okv.bd (Okv.t (by omega) (Okv.t (by omega) (Okv.bd ?_))))
        rw [rI_i (show (250 : Nat) ≠ 251 by decide), f1.1 250 _ rfl, h250, nI_1]
        refine ih (N + 1) (k + 1) a.1 (upI hs k a.2.1) a.2.2 _ (by omega) (by omega) (by omega) (by omega) (by rw [e1]; exact (r1.wr hw (Or.inl (by decide))).wr hw2 (Or.inl (by decide))) (by rw [e1]; exact (l1.wr (by decide)).wr (by decide)) (((hn.fr f1 rfl rfl).wr (by decide)).wr (by decide)) ?_ ?_ rI_s ?_ (((hF.tr (f1.mono (fun _ _ => wNmm_Pt) (fun _ _ => rfl))).I (by unfold wPtm; simp; omega)).I (by unfold wPtm; simp))
        · rw [rI_i (by decide), rI_i (by decide), f1.1 236 19 rfl]; exact hsi
        · rw [rI_i (by decide), rI_i (by decide), f1.1 249 sd rfl]; exact h249
        · intro i hi
          rw [rI_i (by decide)]
          unfold upI
          by_cases e : i = k
          · rw [e, rI_s, if_pos rfl]; exact v1
          · rw [rI_k (by omega), if_neg e, f1.1 251 _ rfl]; exact hh i (by omega)
    · rw [if_neg c2, show (decide (kdT b n t1 = (2 : Int32).toInt)) = false from decide_eq_false c2]
      exact Okv.t (by decide) (fin k t1 hs lt s (by omega) hk1' htt hR hl hn hsi h249 h250 hh hF)
theorem mr_pattern {t nP nc : Nat} {ns : Nat → Int64} {lt : FA} (hT : TKA b n σc) (hsd : sd ≤ 1) (h : RZ b n sd σc t σ) (hl : LTM b n t σ lt) (hn : NMM σ nc ns) (h12 : nc < 12) (hside : σ.1 236 19 = nI sd) (h0 : σ.1 249 sd = nI nP) (h5 : nP < 5) : Okv (f_X12_tellPattern σ) (PostM (FLM sd σc) (nameS (kdT b n) (plI b n) (nmT b n) t nc ns lt >>= fun a => numS (kdT b n) (vlT b n) (plI b n) 0 9 a.1 a.2 >>= fun b1 => htsS (kdT b n) (vlT b n) (plI b n) 1 (upI (fun _ => 0) 0 b1.2.1) b1.1 b1.2.2 7) (KPm b n sd σc t nP (nc + 1) (upN ns nc (nmT b n t)) σ)) := by
  unfold f_X12_tellPattern
  rw [hside, nIt (by omega), Int.toNat_natCast, h0, z5m sd (by omega), nI_add]
  refine Okv.t (by omega) (Okv.bd ?_)
  rw [z8m _ (by omega), nIt (by omega), nIt (by omega), Int.toNat_natCast, Int.toNat_natCast]
  have hw : wPm sd 251 (8 * (5 * sd + nP)) = true := by unfold wPm; simp; omega
  have hw2 : wPm sd 250 (5 * sd + nP) = true := by unfold wPm; simp; omega
  refine MBl (mr_named hT h hl hn) (fun r e s hF => ?_) (fun r a1 s1 _ h1 => ?_)
  · refine Okv.cle (mr_bounded_f hF) ?_
    exact Okv.t (by omega) (tl_w hF hw (by decide) (fun s hF => Okv.t (by omega) (tl_w hF hw2 (by decide) (fun s hF => ⟨_, mr_hts_f hF, hF⟩))))
  · obtain ⟨e1, -, hk1, rfl, r1, l1, f1⟩ := h1
    refine MBl (mr_bounded (x1 := 0) (x2 := 9) hT (by rw [e1]; exact r1) (by rw [e1]; exact l1)) (fun r e s hF => ?_) (fun r a2 s2 _ h2 => ?_)
    · exact Okv.t (by omega) (tl_w hF hw (by decide) (fun s hF => Okv.t (by omega) (tl_w hF hw2 (by decide) (fun s hF => ⟨_, mr_hts_f hF, hF⟩))))
    · obtain ⟨e2, -, -, -, v2, r2, l2, f2⟩ := h2
      refine Okv.t (by omega) (Okv.bd (Okv.t (by omega) (Okv.bd ?_)))
      have F2 : frm wNmm wl0 σ s2 := f1.tr f2
      refine mr_hts (t := t) hT hsd h5 h12 hk1 7 5000 1 a2.1 (upI (fun _ => 0) 0 a2.2.1) a2.2.2 _ rfl (by omega) (by omega) (by omega) (by rw [e2]; exact (r2.wr hw (Or.inl (by decide))).wr hw2 (Or.inl (by decide))) (by rw [e2]; exact (l2.wr (by decide)).wr (by decide)) (((hn.fr F2 rfl rfl).wr (by decide)).wr (by decide)) ?_ ?_ rI_s ?_ (((F2.mono (fun _ _ => wNmm_Pt) (fun _ _ => rfl)).I (by unfold wPtm; simp)).I (by unfold wPtm; simp))
      · rw [rI_i (by decide), rI_i (by decide), F2.1 236 19 rfl]; exact hside
      · rw [rI_i (by decide), rI_i (by decide), F2.1 249 sd rfl]; exact h0
      · intro i hi
        have : i = 0 := by omega
        subst this
        rw [rI_i (by decide), Nat.add_zero, rI_s]; exact v2
theorem mr_told {t : Nat} {x1 x2 : Int32} {lt : FA} (hT : TKA b n σc) (h : RZ b n sd σc t σ) (hk : kdT b n t ≠ 0) (hl : LTM b n t σ lt) : Ok (f_X12_toldInt x1 x2 σ) (fun r s => PostM (FLM sd σc) (advS (plI b n) t >>= fun t1 => numS (kdT b n) (vlT b n) (plI b n) x1.toInt x2.toInt t1 lt >>= fun a => tkS (kdT b n) (plI b n) 4 a.1 >>= fun t2 => .ok (t2, a.2)) (fun (a : Nat × Int × FA) s => t < a.1 ∧ RZ b n sd σc a.1 s ∧ LTM b n a.1 s a.2.2 ∧ r.toInt = a.2.1 ∧ frm wNmm wl0 σ s) s) := by
  unfold f_X12_toldInt
  refine MC (mr_goesOn hT h hk) (fun e s hF => ?_) (fun t1 s1 _ h1 => ?_)
  · exact Ok.cle (mr_bounded_f hF) (Ok.cve (mr_must_f hF) (Ok.ret hF))
  · obtain ⟨rfl, -, r1, e1⟩ := h1
    have l1 : LTM b n (t + 1) s1 lt := (hl.up hk).eq (by rw [e1, rI_k (by decide)]) (by rw [e1, rI_k (by decide)])
    have f1 : frm wNmm wl0 σ s1 := by rw [e1]; exact frm.rf.I rfl
    refine MCl (mr_bounded hT r1 l1) (fun r e s hF => ?_) (fun r a s2 _ h2 => ?_)
    · exact Ok.cve (mr_must_f hF) (Ok.ret hF)
    · obtain ⟨e2, -, -, -, v2, r2, l2, f2⟩ := h2
      rw [← e2] at r2 l2
      refine MC (mr_must (x := 4) (k := 4) hT r2 rfl (by decide)) (fun e s hF => Ok.ret hF) (fun t3 s3 _ h3 => ?_)
      obtain ⟨rfl, -, hk4, r3, e3⟩ := h3
      refine Ok.ret ?_
      show t < a.1 + 1 ∧ RZ b n sd σc (a.1 + 1) s3 ∧ LTM b n (a.1 + 1) s3 a.2.2 ∧ r.toInt = a.2.1 ∧ frm wNmm wl0 σ s3
      refine ⟨by omega, r3, ?_, v2, ?_⟩
      · exact (l2.up (by rw [hk4]; decide)).eq (by rw [e3, rI_k (by decide)]) (by rw [e3, rI_k (by decide)])
      · rw [e3]; exact (f1.tr f2).I rfl
theorem mr_room {t k most : Nat} {x2 : Int32} (hT : TKA b n σc) (h : RZ b n sd σc t σ) (hk : kdT b n t ≠ 0) (hx : x2.toInt = most) (hkm : k ≤ most) (hm : most ≤ 100) : Okv (f_X12_roomFor (nI k) x2 σ) (PostM (FLM sd σc) (if k < most then advS (plI b n) t else .error (2, plI b n t)) (fun t1 s => t1 = t + 1 ∧ t < 400 ∧ RZ b n sd σc (t + 1) s ∧ s = hI σ 236 11 (nI (t + 1)))) := by
  unfold f_X12_roomFor f_X12_roomFor_10
  rw [nIt (by omega), hx]
  by_cases c : k < most
  · rw [if_pos c]
    refine Okv.f (by omega) (Okv.t h.2.2.2.2 ?_)
    exact Okv.cv (mr_goesOn hT h hk) (fun s hs => Okv.ret hs)
  · rw [if_neg c]
    refine Okv.t (by omega) (Okv.cv (mr_fail (x := 2) hT h (by decide)) (fun s hs => ?_))
    exact Okv.f (by rw [hs.1]; have := hs.2.1; omega) (Okv.ret hs)
end MPT
/-! the reference's expressions -/
def cK (c : COD) : List Int := c.map (fun q => (q.1 : Int))
def cV (c : COD) : List Int := c.map (fun q => q.2)
theorem cK_app {c d : COD} : cK (c ++ d) = cK c ++ cK d := List.map_append
theorem cV_app {c d : COD} : cV (c ++ d) = cV c ++ cV d := List.map_append
theorem cK_len {c : COD} : (cK c).length = c.length := List.length_map _
theorem cV_len {c : COD} : (cV c).length = c.length := List.length_map _
def stk (s : HS) : List Nat → Prop
  | [] => True
  | w :: S => (s.1 263 S.length).toInt = (w : Int) ∧ stk s S
theorem stk.eq {s s' : HS} : ∀ {S : List Nat}, stk s S → (∀ i, i < S.length → s'.1 263 i = s.1 263 i) → stk s' S
  | [], _, _ => trivial
  | w :: S, h, e => ⟨by rw [e _ (by simp)]; exact h.1, stk.eq h.2 (fun i hi => e i (by simp; omega))⟩
def wfS : List Nat → Prop
  | [] => True
  | w :: S => wfS S ∧ (w = 6 ∨ ((w = 8 ∨ w = 9) ∧ noX S) ∨ ((w = 10 ∨ w = 15) ∧ noS S))
theorem wfS_len : ∀ {S : List Nat}, wfS S → (noX S → S.length ≤ 3 * depS S) ∧ (noS S → S.length ≤ 3 * depS S + 1) ∧ S.length ≤ 3 * depS S + 2
  | [], _ => ⟨fun _ => by simp, fun _ => by simp, by simp⟩
  | w :: S, h => by
    obtain ⟨h1, h2⟩ := h
    obtain ⟨a, b1, c⟩ := wfS_len h1
    rcases h2 with rfl | ⟨hw, hn⟩ | ⟨hw, hn⟩
    · rw [depS_open]
      simp only [List.length_cons]
      refine ⟨fun _ => ?_, fun _ => ?_, ?_⟩ <;> omega
    · rw [depS_op (by omega)]
      simp only [List.length_cons]
      have := a hn
      refine ⟨fun e => ?_, fun _ => ?_, ?_⟩
      · have e : w = 6 := e
        omega
      · omega
      · omega
    · rw [depS_op (by omega)]
      simp only [List.length_cons]
      have := b1 hn
      refine ⟨fun e => ?_, fun e => ?_, ?_⟩
      · have e : w = 6 := e
        omega
      · have e : w = 6 ∨ w = 8 ∨ w = 9 := e
        omega
      · omega
theorem outS_go {bs : Bool} {w : Nat} {S : List Nat} {c : COD} (h : ¬ (w = 6 ∨ (bs = true ∧ (w = 8 ∨ w = 9)))) : outS bs (w :: S) c = outS bs S (c ++ [(opk w, 0)]) := by
  show (if w = 6 ∨ (bs = true ∧ (w = 8 ∨ w = 9)) then (w :: S, c) else outS bs S (c ++ [(opk w, 0)])) = _
  rw [if_neg h]
theorem outS_st {bs : Bool} {w : Nat} {S : List Nat} {c : COD} (h : w = 6 ∨ (bs = true ∧ (w = 8 ∨ w = 9))) : outS bs (w :: S) c = (w :: S, c) := by
  show (if w = 6 ∨ (bs = true ∧ (w = 8 ∨ w = 9)) then (w :: S, c) else outS bs S (c ++ [(opk w, 0)])) = _
  rw [if_pos h]
theorem outS_wf {bs : Bool} : ∀ {S : List Nat} {c : COD}, wfS S → wfS (outS bs S c).1 ∧ depS (outS bs S c).1 = depS S ∧ (bs = false → noX (outS bs S c).1) ∧ (bs = true → noS (outS bs S c).1) ∧ (outS bs S c).2.length + (outS bs S c).1.length = c.length + S.length
  | [], c, h => ⟨trivial, rfl, fun _ => trivial, fun _ => trivial, rfl⟩
  | w :: S, c, h => by
    by_cases e : w = 6 ∨ (bs = true ∧ (w = 8 ∨ w = 9))
    · rw [outS_st e]
      refine ⟨h, rfl, fun hb => ?_, fun hb => ?_, rfl⟩
      · rcases e with e | e
        · exact e
        · rw [hb] at e; exact absurd e.1 (by decide)
      · show w = 6 ∨ w = 8 ∨ w = 9
        rcases e with e | e
        · exact Or.inl e
        · exact Or.inr e.2
    · rw [outS_go e]
      obtain ⟨a1, a2, a3, a4, a5⟩ := outS_wf (bs := bs) (c := c ++ [(opk w, 0)]) h.1
      refine ⟨a1, ?_, a3, a4, ?_⟩
      · rw [a2, depS_op (fun e6 => e (Or.inl e6))]
      · rw [a5, List.length_append]; simp; omega
section MEX
variable {b : Nat → Int32} {n sd : Nat} {σc σ : HS}
/-- the waiting operators S, the code c from q0 on -/
def XS (q0 : Nat) (S : List Nat) (c : COD) (s : HS) : Prop := s.1 236 43 = nI S.length ∧ stk s S ∧ s.1 236 39 = nI (q0 + c.length) ∧ seg s 261 q0 (cK c) ∧ seg s 262 q0 (cV c)
def wOut (sd q0 a k : Nat) : Bool := (a == 236 && (k == 39 || k == 43)) || ((a == 261 || a == 262) && decide (q0 ≤ k) && decide (k < 420 * sd + 420))
def wXm (sd q0 a k : Nat) : Bool := (a == 236 && (k == 11 || k == 12 || k == 13 || k == 14 || k == 39 || k == 43)) || ((a == 261 || a == 262) && decide (q0 ≤ k) && decide (k < 420 * sd + 420)) || a == 263
theorem wOut_X {q0 a k : Nat} (h : wXm sd q0 a k = false) : wOut sd q0 a k = false := by
  unfold wXm at h
  unfold wOut
  simp only [Bool.or_eq_false_iff] at h ⊢
  refine ⟨?_, h.1.2⟩
  have h1 := h.1.1
  cases e : (a == 236) with
  | false => rfl
  | true => rw [e] at h1; simp at h1 ⊢; omega
theorem wXm_P {q0 a k : Nat} (hq : 420 * sd ≤ q0) (h : wPm sd a k = false) : wXm sd q0 a k = false := by
  unfold wPm at h
  unfold wXm
  simp only [Bool.or_eq_false_iff] at h ⊢
  obtain ⟨⟨⟨⟨⟨⟨⟨⟨h1, -⟩, -⟩, -⟩, -⟩, -⟩, -⟩, h2⟩, h3⟩ := h
  refine ⟨⟨?_, ?_⟩, h3⟩
  · cases e : (a == 236) with
    | false => rfl
    | true => rw [e] at h1; simp at h1 ⊢; omega
  · cases e : (a == 261 || a == 262) with
    | false => rfl
    | true => rw [e] at h2; simp at h2 ⊢; omega
theorem XS.fr {q0 : Nat} {S : List Nat} {c : COD} {s : HS} (h : XS q0 S c σ) (e1 : s.1 236 43 = σ.1 236 43) (e2 : s.1 236 39 = σ.1 236 39) (e3 : s.1 261 = σ.1 261) (e4 : s.1 262 = σ.1 262) (e5 : s.1 263 = σ.1 263) : XS q0 S c s := by
  obtain ⟨a1, a2, a3, a4, a5⟩ := h
  exact ⟨e1.trans a1, a2.eq (fun i _ => by rw [e5]), e2.trans a3, a4.same (fun q _ _ => by rw [e3]), a5.same (fun q _ _ => by rw [e4])⟩
theorem XS.wr {q0 k : Nat} {S : List Nat} {c : COD} {v : Int32} (h : XS q0 S c σ) (h1 : k ≠ 43) (h2 : k ≠ 39) : XS q0 S c (hI σ 236 k v) := h.fr (rI_k (Ne.symm h1)) (rI_k (Ne.symm h2)) (hI_o (by decide)) (hI_o (by decide)) (hI_o (by decide))
/-- one instruction more -/
def emM (p : Nat) (x1 x2 : Int32) (s : HS) : HS := hI (hI (hI s 261 p x1) 262 p x2) 236 39 (nI (p + 1))
theorem e_emM {p : Nat} {x1 x2 : Int32} (h : σ.1 236 39 = nI p) (hp : p < 840) : f_X12_emit x1 x2 σ = some (emM p x1 x2 σ) := by
  unfold f_X12_emit
  rw [h, nIt (by omega), if_pos (by omega)]
  simp only [Bd]
  rw [rI_i (by decide), h, nIt (by omega), if_pos (by omega), rI_i (by decide), rI_i (by decide), h, nI_1, Int.toNat_natCast]; rfl
theorem XS.em {q0 k : Nat} {v : Int} {S : List Nat} {c : COD} {x1 x2 : Int32} (h : XS q0 S c σ) (h1 : x1.toInt = k) (h2 : x2.toInt = v) : XS q0 S (c ++ [(k, v)]) (emM (q0 + c.length) x1 x2 σ) := by
  obtain ⟨a1, a2, a3, a4, a5⟩ := h
  refine ⟨?_, a2.eq (fun i _ => ?_), ?_, ?_, ?_⟩
  · unfold emM; rw [rI_k (by decide), rI_i (by decide), rI_i (by decide)]; exact a1
  · unfold emM; rw [rI_i (by decide), rI_i (by decide), rI_i (by decide)]
  · unfold emM; rw [rI_s, List.length_append]; rfl
  · rw [cK_app]
    refine seg.app (a4.same (fun q h3 h4 => ?_)) (seg.one ?_)
    · rw [cK_len] at h4
      unfold emM; rw [rI_i (by decide), rI_i (by decide), rI_k (by omega)]
    · rw [cK_len]
      unfold emM; rw [rI_i (by decide), rI_i (by decide), rI_s]; exact h1
  · rw [cV_app]
    refine seg.app (a5.same (fun q h3 h4 => ?_)) (seg.one ?_)
    · rw [cV_len] at h4
      unfold emM; rw [rI_i (by decide), rI_k (by omega), rI_i (by decide)]
    · rw [cV_len]
      unfold emM; rw [rI_i (by decide), rI_s]; exact h2
theorem emM_fr {q0 p : Nat} {x1 x2 : Int32} (h1 : q0 ≤ p) (h2 : p < 420 * sd + 420) : frm (wOut sd q0) wl0 σ (emM p x1 x2 σ) := by
  unfold emM
  exact ((frm.rf.I (by unfold wOut; simp; omega)).I (by unfold wOut; simp; omega)).I (by unfold wOut; simp)
theorem mr_out {q0 : Nat} {bs : Bool} (hq : 420 * sd ≤ q0) (hsd : sd ≤ 1) : ∀ (S : List Nat) (N : Nat) (c : COD) (s : HS), S.length < N → S.length < 64 → q0 + c.length + S.length ≤ 420 * sd + 401 → XS q0 S c s → Okv (f_X12_comesOut_0 N (bI bs) s) (fun s' => XS q0 (outS bs S c).1 (outS bs S c).2 s' ∧ frm (wOut sd q0) wl0 s s') := by
  intro S
  induction S with
  | nil =>
    intro N c s hN h64 hp h
    obtain ⟨N, rfl⟩ : ∃ q, N = q + 1 := ⟨N - 1, by omega⟩
    show Okv (b_X12_comesOut_0 (f_X12_comesOut_0 N) (bI bs) s) _
    unfold b_X12_comesOut_0
    exact Okv.f (by rw [h.1]; decide) (Okv.ret ⟨h, frm.rf⟩)
  | cons w S ih =>
    intro N c s hN h64 hp h
    obtain ⟨N, rfl⟩ : ∃ q, N = q + 1 := ⟨N - 1, by omega⟩
    simp only [List.length_cons] at hN h64 hp
    have h43 : s.1 236 43 = nI (S.length + 1) := h.1
    have hw := h.2.1.1
    have em : nI (S.length + 1) - 1 = nI S.length := (nI_sub (a := 1) (b := S.length + 1) (by omega) (by omega)).trans (congrArg nI (by omega))
    show Okv (b_X12_comesOut_0 (f_X12_comesOut_0 N) (bI bs) s) _
    unfold b_X12_comesOut_0
    rw [h43, em, nIt (by omega), nIt (by omega), Int.toNat_natCast]
    refine Okv.t (by omega) (Okv.t (by omega) (Okv.bd ?_))
    by_cases c6 : w = 6
    · rw [outS_st (Or.inl c6)]
      exact Okv.t (by rw [hw]; omega) (Okv.ret ⟨h, frm.rf⟩)
    · refine Okv.f (by rw [hw]; omega) ?_
      have pop : ¬ (w = 6 ∨ (bs = true ∧ (w = 8 ∨ w = 9))) → Okv (f_X12_comesOut_42 (f_X12_comesOut_0 N) (bI bs) (s.1 263 S.length) s) (fun s' => XS q0 (outS bs (w :: S) c).1 (outS bs (w :: S) c).2 s' ∧ frm (wOut sd q0) wl0 s s') := by
        intro hg
        rw [outS_go hg]
        unfold f_X12_comesOut_42
        rw [h43, em]
        refine Okv.bd ?_
        generalize hs1 : hI s 236 43 (nI S.length) = s1
        have x1 : XS q0 S c s1 := by
          obtain ⟨a1, a2, a3, a4, a5⟩ := h
          rw [← hs1]
          exact ⟨rI_s, a2.2.eq (fun i _ => rI_i (by decide)), by rw [rI_k (by decide)]; exact a3, a4.same (fun q _ _ => rI_i (by decide)), a5.same (fun q _ _ => rI_i (by decide))⟩
        have f1 : frm (wOut sd q0) wl0 s s1 := by rw [← hs1]; exact frm.rf.I (by unfold wOut; simp)
        have go : ∀ v : Int32, v.toInt = (opk w : Nat) → Okv (f_X12_comesOut_84 (f_X12_comesOut_0 N) (bI bs) v s1) (fun s' => XS q0 (outS bs S (c ++ [(opk w, 0)])).1 (outS bs S (c ++ [(opk w, 0)])).2 s' ∧ frm (wOut sd q0) wl0 s s') := by
          intro v hv
          unfold f_X12_comesOut_84
          refine Okv.cve (e_emM x1.2.2.1 (by omega)) ?_
          refine (ih N (c ++ [(opk w, 0)]) _ (by omega) (by omega) (by rw [List.length_append]; simp; omega) (x1.em hv rfl)).mono (fun s' hs => ⟨hs.1, (f1.tr (emM_fr (by omega) (by omega))).tr hs.2⟩)
        refine Okv.i (fun e => go 2 ?_) (fun e1 => Okv.i (fun e => go 3 ?_) (fun e2 => Okv.i (fun e => go 4 ?_) (fun e3 => go 5 ?_)))
        · rw [hw] at e; have : w = 8 := by have : (w : Int) = 8 := e; omega
          subst this; rfl
        · rw [hw] at e; have : w = 9 := by have : (w : Int) = 9 := e; omega
          subst this; rfl
        · rw [hw] at e; have : w = 10 := by have : (w : Int) = 10 := e; omega
          subst this; rfl
        · rw [hw] at e1 e2 e3
          unfold opk
          rw [if_neg (by intro e; subst e; exact e1 rfl), if_neg (by intro e; subst e; exact e2 rfl), if_neg (by intro e; subst e; exact e3 rfl)]; rfl
      cases bs with
      | false => exact Okv.t rfl (pop (by simp; exact c6))
      | true =>
        refine Okv.f (by decide) (Okv.i (fun e => ?_) (fun e1 => Okv.i (fun e => ?_) (fun e2 => pop ?_)))
        · rw [hw] at e
          have : (w : Int) = 8 := e
          rw [outS_st (Or.inr ⟨rfl, Or.inl (by omega)⟩)]
          exact Okv.ret ⟨h, frm.rf⟩
        · rw [hw] at e
          have : (w : Int) = 9 := e
          rw [outS_st (Or.inr ⟨rfl, Or.inr (by omega)⟩)]
          exact Okv.ret ⟨h, frm.rf⟩
        · rw [hw] at e1 e2
          rintro (e | ⟨-, e | e⟩)
          · exact c6 e
          · subst e; exact e1 rfl
          · subst e; exact e2 rfl
/-! faults change little -/
def wFm (a k : Nat) : Bool := a == 236 && (k == 13 || k == 14)
def wGo (a k : Nat) : Bool := a == 236 && (k == 11 || k == 13 || k == 14)
theorem wFm_Go {a k : Nat} (h : wGo a k = false) : wFm a k = false := by
  unfold wGo at h
  unfold wFm
  cases e : (a == 236) with
  | false => rfl
  | true => rw [e] at h; simp at h ⊢; omega
theorem fr_fail {x : Int32} : ∀ s, f_X12_fail x σ = some s → frm wFm wl0 σ s := by
  intro s h
  unfold f_X12_fail at h
  split at h
  · injection h with h; subst h; exact frm.rf
  · simp only [Bd] at h
    split at h
    · injection h with h; subst h; exact (frm.rf.I rfl).I rfl
    · exact absurd h (by simp)
theorem fr_goesOn : ∀ s, f_X12_goesOn σ = some s → frm wGo wl0 σ s := by
  intro s h
  unfold f_X12_goesOn at h
  split at h
  · cases e : f_X12_fail 2 σ with
    | none => rw [e] at h; exact absurd h (by simp [Cv])
    | some s1 =>
      rw [e] at h
      simp only [Cv] at h
      injection h with h; subst h
      exact (fr_fail s1 e).mono (fun _ _ => wFm_Go) (fun _ e => e)
  · simp only [Bd] at h
    injection h with h; subst h
    exact frm.rf.I rfl
theorem Okv.fr {x : Option HS} {P Q : HS → Prop} (h : Okv x P) (k : ∀ s, x = some s → P s → Q s) : Okv x Q := by
  obtain ⟨s, e, h⟩ := h
  exact ⟨s, e, k s e h⟩
theorem mr_goesOn_f {e : FA} (h : FLM sd σc e σ) : Okv (f_X12_goesOn σ) (fun s => FLM sd σc e s ∧ frm wGo wl0 σ s) := by
  obtain ⟨a1, a2, a3, a4, t, ht, a5⟩ := h
  unfold f_X12_goesOn
  rw [a5, nIt (by omega)]
  by_cases c : t = 400
  · exact Okv.t (by omega) (Okv.cve (mr_fail_f (e := e) ⟨a1, a2, a3, a4, t, ht, a5⟩) (Okv.ret ⟨⟨a1, a2, a3, a4, t, ht, a5⟩, frm.rf⟩))
  · refine Okv.f (by omega) (Okv.bd (Okv.ret ?_))
    rw [nI_1]
    refine ⟨⟨?_, a2, ?_, a4.I (by unfold wPm; simp), t + 1, by omega, rI_s⟩, frm.rf.I rfl⟩
    · rw [rI_k (by decide)]; exact a1
    · rw [rI_k (by decide)]; exact a3
theorem XS.go {q0 : Nat} {S : List Nat} {c : COD} {s : HS} {w : Nat → Nat → Bool} {wl : Nat → Bool} (h : XS q0 S c σ) (hf : frm w wl σ s) (h1 : w 236 43 = false) (h2 : w 236 39 = false) (h3 : ∀ k, w 261 k = false) (h4 : ∀ k, w 262 k = false) (h5 : ∀ k, w 263 k = false) : XS q0 S c s := h.fr (hf.1 _ _ h1) (hf.1 _ _ h2) (funext fun k => hf.1 _ _ (h3 k)) (funext fun k => hf.1 _ _ (h4 k)) (funext fun k => hf.1 _ _ (h5 k))
theorem XS.gow {q0 : Nat} {S : List Nat} {c : COD} {s : HS} (h : XS q0 S c σ) (hf : frm wGo wl0 σ s) : XS q0 S c s := h.go hf rfl rfl (fun _ => rfl) (fun _ => rfl) (fun _ => rfl)
theorem FLM.fr {e : FA} {s : HS} {w : Nat → Nat → Bool} {wl : Nat → Bool} (h : FLM sd σc e σ) (hf : frm w wl σ s) (hw : ∀ a k, wPm sd a k = false → w a k = false) (hl : ∀ a, wlPm a = false → wl a = false) (h1 : w 236 11 = false) (h2 : w 236 13 = false) (h3 : w 236 14 = false) : FLM sd σc e s := by
  obtain ⟨a1, a2, a3, a4, t, ht, a5⟩ := h
  exact ⟨by rw [hf.1 _ _ h2]; exact a1, a2, by rw [hf.1 _ _ h3]; exact a3, a4.tr (hf.mono hw hl), t, ht, by rw [hf.1 _ _ h1]; exact a5⟩
theorem RZ.fr {t : Nat} {s : HS} {w : Nat → Nat → Bool} {wl : Nat → Bool} (h : RZ b n sd σc t σ) (hf : frm w wl σ s) (hw : ∀ a k, wPm sd a k = false → w a k = false) (hl : ∀ a, wlPm a = false → wl a = false) (h1 : w 236 11 = false) (h2 : w 236 13 = false) : RZ b n sd σc t s := ⟨h.1.tr (hf.mono hw hl), h.2.1, h.2.2.1, by rw [hf.1 _ _ h1]; exact h.2.2.2.1, by rw [hf.1 _ _ h2]; exact h.2.2.2.2⟩
end MEX
/-! the reference's expressions: the loops -/
section MEL
variable {b : Nat → Int32} {n sd : Nat} {σc σ s : HS}
theorem wOut_P {q0 a k : Nat} (hq : 420 * sd ≤ q0) (h : wPm sd a k = false) : wOut sd q0 a k = false := wOut_X (wXm_P hq h)
theorem mr_out0 {q0 : Nat} {S : List Nat} {c : COD} (hq : 420 * sd ≤ q0) (hsd : sd ≤ 1) (h64 : S.length < 64) (hp : q0 + c.length + S.length ≤ 420 * sd + 401) (h : XS q0 S c s) : Okv (f_X12_comesOut 0 s) (fun s' => XS q0 (outS false S c).1 (outS false S c).2 s' ∧ frm (wOut sd q0) wl0 s s') := mr_out (bs := false) hq hsd S 5000 c s (by omega) h64 hp h
theorem mr_out1 {q0 : Nat} {S : List Nat} {c : COD} (hq : 420 * sd ≤ q0) (hsd : sd ≤ 1) (h64 : S.length < 64) (hp : q0 + c.length + S.length ≤ 420 * sd + 401) (h : XS q0 S c s) : Okv (f_X12_comesOut 1 s) (fun s' => XS q0 (outS true S c).1 (outS true S c).2 s' ∧ frm (wOut sd q0) wl0 s s') := mr_out (bs := true) hq hsd S 5000 c s (by omega) h64 hp h
theorem mr_unit_f {e : FA} (h : FLM sd σc e s) : f_X12_unit s = some s := by
  unfold f_X12_unit f_X12_unit_88
  rw [mr_is_f h]
  simp only [Cl]
  rw [if_pos (show (0 : Int32).toInt = 0 from rfl), if_neg (by rw [h.1]; have := h.2.1; omega), mr_fail_f h]; rfl
theorem ex23_f {e : FA} {k12 : Int32 → Int32 → HS → Option HS} {N : Nat} {y : Int32} (h : FLM sd σc e s) : f_X12_expression_23 k12 (N + 1) y s = some s := by
  show b_X12_expression_23 k12 (f_X12_expression_23 k12 N) y s = some s
  unfold b_X12_expression_23
  rw [mr_is_f h]
  simp only [Cl]
  rw [if_pos (show (0 : Int32).toInt = 0 from rfl), mr_unit_f h]
  simp only [Cv]
  rw [if_pos (by rw [h.1]; exact h.2.1)]
theorem ex12_f {e : FA} {N : Nat} {y : Int32} (h : FLM sd σc e s) : f_X12_expression_12 (N + 1) y 1 s = some s := by
  show b_X12_expression_12 (f_X12_expression_12 N) y 1 s = some s
  unfold b_X12_expression_12
  rw [if_neg (by decide), if_neg (by rw [h.1]; have := h.2.1; omega)]
/-- a fault, the branches as many as they were -/
def FB (sd : Nat) (σc : HS) (v : Int32) (e : FA) (s : HS) : Prop := FLM sd σc e s ∧ s.1 236 33 = v
theorem FB.wr {e : FA} {a k : Nat} {v x : Int32} (h : FB sd σc v e s) (hw : wPm sd a k = true) (h1 : a ≠ 236 ∨ (k ≠ 11 ∧ k ≠ 13 ∧ k ≠ 14 ∧ k ≠ 33)) : FB sd σc v e (hI s a k x) := ⟨h.1.wr hw (by omega), by
  by_cases c : a = 236
  · subst c; rw [rI_k (by omega)]; exact h.2
  · rw [rI_i (Ne.symm c)]; exact h.2⟩
theorem FB.gow {e : FA} {v : Int32} {s1 : HS} (h : FLM sd σc e s1) (hf : frm wGo wl0 s s1) (hv : s.1 236 33 = v) : FB sd σc v e s1 := ⟨h, by rw [hf.1 236 33 rfl]; exact hv⟩
theorem ex46_f {e : FA} {v : Int32} {k12 : Int32 → Int32 → HS → Option HS} {N q0 : Nat} {y : Int32} {S : List Nat} {c : COD} (h : FB sd σc v e s) (hx : XS q0 S c s) (hl : S.length < 64) : Okv (f_X12_expression_46 k12 (f_X12_expression_23 k12 (N + 1)) y s) (FB sd σc v e) := by
  unfold f_X12_expression_46
  refine Okv.bd ?_
  refine Okv.cv (mr_goesOn_f (h.wr (k := 12) (by unfold wPm; simp) (Or.inr (by decide))).1) (fun s2 h2 => ?_)
  have hb2 : FB sd σc v e s2 := FB.gow h2.1 h2.2 (by rw [rI_k (by decide)]; exact h.2)
  have x2 := (hx.wr (k := 12) (v := s.1 236 12 + 1) (by decide) (by decide)).gow h2.2
  rw [x2.1, nIt (by omega)]
  refine Okv.t (by omega) (Okv.bd (Okv.bd ?_))
  have hF := (hb2.wr (a := 263) (k := (S.length : Int).toNat) (x := 6) (by unfold wPm; simp) (Or.inl (by decide)))
  exact ⟨_, ex23_f (hF.wr (a := 236) (k := 43) (by unfold wPm; simp) (Or.inr (by decide))).1, hF.wr (a := 236) (k := 43) (by unfold wPm; simp) (Or.inr (by decide))⟩
theorem ex204_f {e : FA} {v : Int32} {q0 : Nat} {S : List Nat} {c : COD} (hq : 420 * sd ≤ q0) (hsd : sd ≤ 1) (h : FB sd σc v e s) (hx : XS q0 S c s) (hl : S.length < 64) (hp : q0 + c.length + S.length ≤ 420 * sd + 401) : Okv (f_X12_expression_204 s) (FB sd σc v e) := by
  unfold f_X12_expression_204
  exact Okv.cv (mr_out0 hq hsd hl hp hx) (fun s2 h2 => Okv.ret ⟨h.1.fr h2.2 (fun _ _ => wOut_P hq) (fun _ _ => rfl) (by unfold wOut; simp) (by unfold wOut; simp) (by unfold wOut; simp), by rw [h2.2.1 236 33 (by unfold wOut; simp)]; exact h.2⟩)
theorem ex96_f {e : FA} {v : Int32} {k12 : Int32 → Int32 → HS → Option HS} {N q0 : Nat} {y : Int32} {S : List Nat} {c : COD} (hq : 420 * sd ≤ q0) (hsd : sd ≤ 1) (h : FB sd σc v e s) (hx : XS q0 S c s) (hl : S.length < 64) (hp : q0 + c.length + S.length ≤ 420 * sd + 401) : Okv (f_X12_expression_96 k12 (N + 1) y s) (FB sd σc v e) := by
  show Okv (b_X12_expression_96 k12 (f_X12_expression_96 k12 N) y s) _
  unfold b_X12_expression_96 f_X12_expression_145 f_X12_expression_186
  refine Okv.cle (mr_is_f h.1) (Okv.t rfl (Okv.cle (mr_is_f h.1) (Okv.t rfl (Okv.cle (mr_is_f h.1) (Okv.t rfl (Okv.cle (mr_is_f h.1) (Okv.t rfl (Okv.cle (mr_is_f h.1) (Okv.t rfl (Okv.t rfl ?_))))))))))
  exact Okv.i (fun _ => Okv.cve (mr_fail_f h.1) (ex204_f hq hsd h hx hl hp)) (fun _ => ex204_f hq hsd h hx hl hp)
def XM (b : Nat → Int32) (n sd : Nat) (σc σ : HS) (q0 t : Nat) (S : List Nat) (c : COD) (s : HS) : Prop := RZ b n sd σc t s ∧ XS q0 S c s ∧ s.1 236 12 = nI (depS S) ∧ wfS S ∧ depS S ≤ 6 ∧ q0 + c.length + S.length ≤ 420 * sd + t ∧ frm (wXm sd q0) wl0 σ s
def KXm (b : Nat → Int32) (n sd : Nat) (σc σ : HS) (q0 t : Nat) (a : Nat × COD) (s : HS) : Prop := t < a.1 ∧ RZ b n sd σc a.1 s ∧ s.1 236 39 = nI (q0 + a.2.length) ∧ seg s 261 q0 (cK a.2) ∧ seg s 262 q0 (cV a.2) ∧ s.1 236 12 = 0 ∧ q0 + a.2.length ≤ 420 * sd + a.1 ∧ frm (wXm sd q0) wl0 σ s
theorem XM.v {q0 t : Nat} {S : List Nat} {c : COD} (h : XM b n sd σc σ q0 t S c s) : s.1 236 33 = σ.1 236 33 := h.2.2.2.2.2.2.1 236 33 (by unfold wXm; simp)
theorem mr_goesOn2 {t : Nat} (hT : TKA b n σc) (h : RZ b n sd σc t s) (hk : kdT b n t ≠ 0) : Okv (f_X12_goesOn s) (PostM (fun e s1 => FLM sd σc e s1 ∧ frm wGo wl0 s s1) (advS (plI b n) t) (fun t1 s1 => t1 = t + 1 ∧ t < 400 ∧ RZ b n sd σc (t + 1) s1 ∧ s1 = hI s 236 11 (nI (t + 1)))) := by
  refine (mr_goesOn hT h hk).fr (fun s1 e hs => ?_)
  revert hs
  cases advS (plI b n) t with
  | error e1 => exact fun hs => ⟨hs, fr_goesOn s1 e⟩
  | ok a => exact fun hs => hs
theorem mr_fail2 {t : Nat} {x : Int32} (hT : TKA b n σc) (h : RZ b n sd σc t s) (hx : 0 < x.toInt) : Okv (f_X12_fail x s) (fun s1 => FLM sd σc (x.toInt, plI b n t) s1 ∧ frm wGo wl0 s s1) := (mr_fail hT h hx).fr (fun s1 e hs => ⟨hs, (fr_fail s1 e).mono (fun _ _ => wFm_Go) (fun _ e => e)⟩)
def unS (b : Nat → Int32) (n t : Nat) (c : COD) : Except FA (Nat × COD) := if kdT b n t = 2 then advS (plI b n) t >>= fun t1 => .ok (t1, c ++ [(0, vlT b n t)]) else if 31 ≤ kdT b n t ∧ kdT b n t ≤ 39 then advS (plI b n) t >>= fun t1 => .ok (t1, c ++ [(1, kdT b n t - 31)]) else .error (1, plI b n t)
theorem un_go {q0 t k : Nat} {v : Int} {S : List Nat} {c : COD} {x1 x2 : Int32} (hT : TKA b n σc) (hsd : sd ≤ 1) (hq : 420 * sd ≤ q0) (h : XM b n sd σc σ q0 t S c s) (hk : kdT b n t ≠ 0) (h1 : x1.toInt = k) (h2 : x2.toInt = v) : Okv (Cv (f_X12_emit x1 x2 s) fun σ3 => Cv (f_X12_goesOn σ3) fun σ5 => some σ5) (PostM (FB sd σc (σ.1 236 33)) (advS (plI b n) t >>= fun t1 => .ok (t1, c ++ [(k, v)])) (fun a s1 => a.1 = t + 1 ∧ t < 400 ∧ XM b n sd σc σ q0 (t + 1) S a.2 s1)) := by
  have ht := h.1.2.1
  have hv := h.v
  obtain ⟨hR, hx, hd, hw, h6, hb, hf⟩ := h
  refine Okv.cve (e_emM hx.2.2.1 (by omega)) ?_
  have fe : frm (wOut sd q0) wl0 s (emM (q0 + c.length) x1 x2 s) := emM_fr (by omega) (by omega)
  have r2 : RZ b n sd σc t (emM (q0 + c.length) x1 x2 s) := hR.fr fe (fun _ _ => wOut_P hq) (fun _ _ => rfl) (by unfold wOut; simp) (by unfold wOut; simp)
  have x2' := hx.em h1 h2
  refine MB (mr_goesOn2 hT r2 hk) (fun e s1 hF => Okv.ret (FB.gow hF.1 hF.2 (by rw [fe.1 236 33 (by unfold wOut; simp)]; exact hv))) (fun t1 s1 _ h3 => Okv.ret ?_)
  obtain ⟨rfl, h4, r3, e3⟩ := h3
  show t + 1 = t + 1 ∧ t < 400 ∧ XM b n sd σc σ q0 (t + 1) S (c ++ [(k, v)]) s1
  refine ⟨rfl, h4, r3, ?_, ?_, hw, h6, ?_, ?_⟩
  · rw [e3]; exact x2'.wr (by decide) (by decide)
  · rw [e3, rI_k (by decide), fe.1 236 12 (by unfold wOut; simp)]; exact hd
  · rw [List.length_append]; simp; omega
  · rw [e3]; exact (hf.tr (fe.mono (fun _ _ => wOut_X) (fun _ e => e))).I (by unfold wXm; simp)
theorem mr_unit {q0 t : Nat} {S : List Nat} {c : COD} (hT : TKA b n σc) (hsd : sd ≤ 1) (hq : 420 * sd ≤ q0) (h : XM b n sd σc σ q0 t S c s) : Okv (f_X12_unit s) (PostM (FB sd σc (σ.1 236 33)) (unS b n t c) (fun a s1 => a.1 = t + 1 ∧ t < 400 ∧ XM b n sd σc σ q0 (t + 1) S a.2 s1)) := by
  have ht := h.1.2.1
  have tk := RZ.tk hT h.1
  unfold f_X12_unit unS
  refine Okv.cle (mr_is hT h.1) ?_
  by_cases c2 : kdT b n t = 2
  · rw [if_pos c2, show (decide (kdT b n t = (2 : Int32).toInt)) = true from decide_eq_true c2, h.1.2.2.2.1, nIt (by omega), Int.toNat_natCast]
    refine Okv.f (by decide) (Okv.t (by omega) ?_)
    exact un_go (k := 0) hT hsd hq h (by rw [c2]; decide) rfl (tk.2.2.1 c2)
  · rw [if_neg c2, show (decide (kdT b n t = (2 : Int32).toInt)) = false from decide_eq_false c2, h.1.2.2.2.1, nIt (by omega), Int.toNat_natCast, tk.1]
    refine Okv.t (by decide) (Okv.t h.1.2.2.2.2 (Okv.t (by omega) ?_))
    have bad : Okv (f_X12_unit_88 s) (FB sd σc (σ.1 236 33) (1, plI b n t)) := Okv.cv (mr_fail2 (x := 1) hT h.1 (by decide)) (fun s1 hF => Okv.ret (FB.gow hF.1 hF.2 h.v))
    by_cases c3 : 31 ≤ kdT b n t ∧ kdT b n t ≤ 39
    · rw [if_pos c3]
      refine Okv.f (by omega) (Okv.t (by omega) (Okv.f (by omega) (Okv.t (by omega) ?_)))
      refine un_go (k := 1) hT hsd hq h (by omega) rfl ?_
      obtain ⟨k, k40, -, hk⟩ := kd_vK b n t
      rw [show s.1 239 t = nI k from Int32.toInt_inj.mp (by rw [tk.1, hk, nIt (by omega)]), show nI k - 31 = nI (k - 31) from nI_sub (a := 31) (b := k) (by omega) (by omega), nIt (by omega), hk]
      omega
    · rw [if_neg c3]
      exact Okv.i (fun _ => bad) (fun e1 => Okv.t (by omega) (Okv.i (fun _ => bad) (fun e2 => absurd ⟨by omega, by omega⟩ c3)))
theorem mr_ex {q0 t0 : Nat} (hT : TKA b n σc) (hsd : sd ≤ 1) (hq : 420 * sd ≤ q0) : ∀ d : Nat, d ≤ 401 →
    (∀ (t : Nat) (S : List Nat) (c : COD) (s : HS) (N M : Nat), 401 - t ≤ d → t ≤ 400 → d < N → d < M → t0 ≤ t → XM b n sd σc σ q0 t S c s → Okv (f_X12_expression_23 (f_X12_expression_12 M) N 0 s) (PostM (FB sd σc (σ.1 236 33)) (eX (kdT b n) (vlT b n) (plI b n) true t S c) (KXm b n sd σc σ q0 t0))) ∧
    (∀ (t : Nat) (S : List Nat) (c : COD) (s : HS) (N M : Nat), 401 - t ≤ d → t ≤ 400 → d < N → d < M → t0 < t → XM b n sd σc σ q0 t S c s → Okv (f_X12_expression_96 (f_X12_expression_12 M) N 0 s) (PostM (FB sd σc (σ.1 236 33)) (eX (kdT b n) (vlT b n) (plI b n) false t S c) (KXm b n sd σc σ q0 t0))) := by
  intro d
  induction d with
  | zero => exact fun _ => ⟨fun t _ _ _ _ _ h1 h2 => absurd h1 (by omega), fun t _ _ _ _ _ h1 h2 => absurd h1 (by omega)⟩
  | succ d ih =>
    intro hd
    obtain ⟨ihA, ihB⟩ := ih (by omega)
    constructor
    · intro t S c s N M h1 h2 hN hM ht h
      obtain ⟨N, rfl⟩ : ∃ q, N = q + 1 + 1 := ⟨N - 2, by omega⟩
      have hlen := (wfS_len h.2.2.2.1).2.2
      have h6 := h.2.2.2.2.1
      have hb := h.2.2.2.2.2.1
      show Okv (b_X12_expression_23 (f_X12_expression_12 M) (f_X12_expression_23 (f_X12_expression_12 M) (N + 1)) 0 s) _
      unfold b_X12_expression_23
      refine Okv.cle (mr_is hT h.1) ?_
      rw [eX_t h2]
      by_cases c6 : kdT b n t = 6
      · rw [if_pos c6, show (decide (kdT b n t = (6 : Int32).toInt)) = true from decide_eq_true c6, h.2.2.1, nIt (by omega)]
        refine Okv.f (by decide) ?_
        by_cases cd : depS S = 6
        · rw [if_pos cd]
          refine Okv.t (by omega) (Okv.cv (mr_fail2 (x := 2) hT h.1 (by decide)) (fun s2 hF => ?_))
          exact ex46_f (FB.gow hF.1 hF.2 h.v) (h.2.1.gow hF.2) (by omega)
        · rw [if_neg cd]
          refine Okv.f (by omega) ?_
          unfold f_X12_expression_46
          rw [h.2.2.1, nI_1]
          refine Okv.bd ?_
          generalize hs1 : hI s 236 12 (nI (depS S + 1)) = s1
          have r1 : RZ b n sd σc t s1 := by rw [← hs1]; exact h.1.wr (by unfold wPm; simp) (Or.inr (by decide))
          have x1 : XS q0 S c s1 := by rw [← hs1]; exact h.2.1.wr (by decide) (by decide)
          have f1 : frm (wXm sd q0) wl0 σ s1 := by rw [← hs1]; exact h.2.2.2.2.2.2.I (by unfold wXm; simp)
          have d1 : s1.1 236 12 = nI (depS S + 1) := by rw [← hs1]; exact rI_s
          refine MB (mr_goesOn2 hT r1 (by rw [c6]; decide)) (fun e s3 hF => ?_) (fun t1 s3 _ h3 => ?_)
          · have x3 := x1.gow hF.2
            rw [x3.1, nIt (by omega)]
            refine Okv.t (by omega) (Okv.bd (Okv.bd ?_))
            have hF' := ((FB.gow hF.1 hF.2 (f1.1 236 33 (by unfold wXm; simp))).wr (a := 263) (k := (S.length : Int).toNat) (x := 6) (by unfold wPm; simp) (Or.inl (by decide)))
            exact ⟨_, ex23_f (hF'.wr (a := 236) (k := 43) (by unfold wPm; simp) (Or.inr (by decide))).1, hF'.wr (a := 236) (k := 43) (by unfold wPm; simp) (Or.inr (by decide))⟩
          · obtain ⟨rfl, h4, r3, e3⟩ := h3
            have x3 : XS q0 S c s3 := by rw [e3]; exact x1.wr (by decide) (by decide)
            have d3 : s3.1 236 12 = nI (depS S + 1) := by rw [e3, rI_k (by decide)]; exact d1
            have f3 : frm (wXm sd q0) wl0 σ s3 := by rw [e3]; exact f1.I (by unfold wXm; simp)
            rw [x3.1, nIt (by omega), Int.toNat_natCast]
            refine Okv.t (by omega) (Okv.bd (Okv.bd ?_))
            rw [rI_i (show (236 : Nat) ≠ 263 by decide), x3.1, nI_1]
            refine ihA (t + 1) (6 :: S) c _ (N + 1) M (by omega) (by omega) (by omega) (by omega) (by omega) ⟨?_, ⟨rI_s, ⟨?_, ?_⟩, ?_, ?_, ?_⟩, ?_, ⟨h.2.2.2.1, Or.inl rfl⟩, ?_, ?_, ?_⟩
            · exact (r3.wr (by unfold wPm; simp) (Or.inl (by decide))).wr (by unfold wPm; simp) (Or.inr (by decide))
            · rw [rI_i (by decide), rI_s]; rfl
            · exact x3.2.1.eq (fun i hi => by rw [rI_i (by decide), rI_k (by omega)])
            · rw [rI_k (by decide), rI_i (by decide)]; exact x3.2.2.1
            · exact x3.2.2.2.1.same (fun q _ _ => by rw [rI_i (by decide), rI_i (by decide)])
            · exact x3.2.2.2.2.same (fun q _ _ => by rw [rI_i (by decide), rI_i (by decide)])
            · rw [rI_k (by decide), rI_i (by decide), depS_open]; exact d3
            · rw [depS_open]; omega
            · simp only [List.length_cons]; omega
            · exact (f3.I (by unfold wXm; simp)).I (by unfold wXm; simp)
      · rw [if_neg c6, show (decide (kdT b n t = (6 : Int32).toInt)) = false from decide_eq_false c6]
        refine Okv.t (by decide) ?_
        have eq : (if kdT b n t = 2 then advS (plI b n) t >>= fun t1 => eX (kdT b n) (vlT b n) (plI b n) false t1 S (c ++ [(0, vlT b n t)]) else if 31 ≤ kdT b n t ∧ kdT b n t ≤ 39 then advS (plI b n) t >>= fun t1 => eX (kdT b n) (vlT b n) (plI b n) false t1 S (c ++ [(1, kdT b n t - 31)]) else .error (1, plI b n t)) = (unS b n t c >>= fun a => eX (kdT b n) (vlT b n) (plI b n) false a.1 S a.2) := by
          unfold unS
          by_cases e2 : kdT b n t = 2
          · rw [if_pos e2, if_pos e2]
            cases advS (plI b n) t <;> rfl
          · rw [if_neg e2, if_neg e2]
            by_cases e3 : 31 ≤ kdT b n t ∧ kdT b n t ≤ 39
            · rw [if_pos e3, if_pos e3]
              cases advS (plI b n) t <;> rfl
            · rw [if_neg e3, if_neg e3]; rfl
        rw [eq]
        refine MB (mr_unit hT hsd hq h) (fun e s3 hF => Okv.t (by rw [hF.1.1]; exact hF.1.2.1) (Okv.ret hF)) (fun a s3 _ h3 => ?_)
        obtain ⟨e1, h4, hx⟩ := h3
        refine Okv.f (by rw [hx.1.2.2.2.2]; omega) ?_
        rw [e1]
        exact ihB (t + 1) S a.2 s3 5000 M (by omega) (by omega) (by omega) (by omega) (by omega) hx
    · intro t S c s N M h1 h2 hN hM ht h
      obtain ⟨N, rfl⟩ : ∃ q, N = q + 1 + 1 := ⟨N - 2, by omega⟩
      obtain ⟨M, rfl⟩ : ∃ q, M = q + 1 := ⟨M - 1, by omega⟩
      have hlen := (wfS_len h.2.2.2.1).2.2
      have h6 := h.2.2.2.2.1
      have hb := h.2.2.2.2.2.1
      have tk := RZ.tk hT h.1
      show Okv (b_X12_expression_96 (f_X12_expression_12 (M + 1)) (f_X12_expression_96 (f_X12_expression_12 (M + 1)) (N + 1)) 0 s) _
      unfold b_X12_expression_96
      refine Okv.cle (mr_is hT h.1) ?_
      rw [eX_f h2]
      -- an operator pushed
      have op : ∀ (bs : Bool) (v0 : Int32), Okv (f_X12_comesOut v0 s) (fun s' => XS q0 (outS bs S c).1 (outS bs S c).2 s' ∧ frm (wOut sd q0) wl0 s s') → ((bs = false ∧ (kdT b n t = 8 ∨ kdT b n t = 9)) ∨ (bs = true ∧ (kdT b n t = 10 ∨ kdT b n t = 15))) → Okv (f_X12_expression_234 (f_X12_expression_12 (M + 1)) 0 1 v0 s) (PostM (FB sd σc (σ.1 236 33)) (advS (plI b n) t >>= fun t1 => eX (kdT b n) (vlT b n) (plI b n) true t1 ((kdT b n t).toNat :: (outS bs S c).1) (outS bs S c).2) (KXm b n sd σc σ q0 t0)) := by
        intro bs v0 hco hk
        obtain ⟨o1, o2, o3, o4, o5⟩ := outS_wf (bs := bs) (c := c) h.2.2.2.1
        have ol := (wfS_len o1).2.2
        unfold f_X12_expression_234
        refine Okv.cv hco (fun s2 h2' => ?_)
        obtain ⟨x2, f2⟩ := h2'
        have r2 : RZ b n sd σc t s2 := h.1.fr f2 (fun _ _ => wOut_P hq) (fun _ _ => rfl) (by unfold wOut; simp) (by unfold wOut; simp)
        have d2 : s2.1 236 12 = nI (depS S) := by rw [f2.1 236 12 (by unfold wOut; simp)]; exact h.2.2.1
        generalize hS1 : (outS bs S c).1 = S1 at *
        generalize hc1 : (outS bs S c).2 = c1 at *
        rw [r2.2.2.2.1, x2.1, nIt (by omega), nIt (by omega), Int.toNat_natCast, Int.toNat_natCast]
        refine Okv.t (by omega) (Okv.t (by omega) (Okv.bd (Okv.bd ?_)))
        rw [rI_i (show (236 : Nat) ≠ 263 by decide), x2.1, nI_1]
        generalize hs4 : hI (hI s2 263 S1.length (s2.1 239 t)) 236 43 (nI (S1.length + 1)) = s4
        have r4 : RZ b n sd σc t s4 := by rw [← hs4]; exact (r2.wr (by unfold wPm; simp) (Or.inl (by decide))).wr (by unfold wPm; simp) (Or.inr (by decide))
        have x4 : XS q0 ((kdT b n t).toNat :: S1) c1 s4 := by
          rw [← hs4]
          refine ⟨rI_s, ⟨?_, x2.2.1.eq (fun i hi => by rw [rI_i (by decide), rI_k (by omega)])⟩, by rw [rI_k (by decide), rI_i (by decide)]; exact x2.2.2.1, x2.2.2.2.1.same (fun q _ _ => by rw [rI_i (by decide), rI_i (by decide)]), x2.2.2.2.2.same (fun q _ _ => by rw [rI_i (by decide), rI_i (by decide)])⟩
          rw [rI_i (by decide), rI_s, (RZ.tk hT r2).1]
          omega
        have d4 : s4.1 236 12 = nI (depS S) := by rw [← hs4, rI_k (by decide), rI_i (by decide)]; exact d2
        have f4 : frm (wXm sd q0) wl0 σ s4 := by rw [← hs4]; exact ((h.2.2.2.2.2.2.tr (f2.mono (fun _ _ => wOut_X) (fun _ e => e))).I (by unfold wXm; simp)).I (by unfold wXm; simp)
        refine MB (mr_goesOn2 hT r4 (by omega)) (fun e s5 hF => ⟨_, ex12_f hF.1, FB.gow hF.1 hF.2 (f4.1 236 33 (by unfold wXm; simp))⟩) (fun t1 s5 _ h5 => ?_)
        obtain ⟨rfl, h4, r5, e5⟩ := h5
        show Okv (b_X12_expression_12 (f_X12_expression_12 M) 0 1 s5) _
        unfold b_X12_expression_12
        refine Okv.f (by decide) (Okv.t r5.2.2.2.2 ?_)
        refine ihA (t + 1) ((kdT b n t).toNat :: S1) c1 s5 5000 M (by omega) (by omega) (by omega) (by omega) (by omega) ⟨r5, by rw [e5]; exact x4.wr (by decide) (by decide), ?_, ⟨o1, Or.inr ?_⟩, ?_, ?_, by rw [e5]; exact f4.I (by unfold wXm; simp)⟩
        · rw [e5, rI_k (by decide), d4, depS_op (by omega), o2]
        · rcases hk with ⟨hb1, hk⟩ | ⟨hb1, hk⟩
          · exact Or.inl ⟨by omega, o3 hb1⟩
          · exact Or.inr ⟨by omega, o4 hb1⟩
        · rw [depS_op (by omega), o2]; exact h6
        · simp only [List.length_cons]; omega
      -- behind a unit that no ) closes
      have t145 : Okv (f_X12_expression_145 (f_X12_expression_12 (M + 1)) 0 s) (PostM (FB sd σc (σ.1 236 33)) (if kdT b n t = 8 ∨ kdT b n t = 9 then advS (plI b n) t >>= fun t1 => eX (kdT b n) (vlT b n) (plI b n) true t1 ((kdT b n t).toNat :: (outS false S c).1) (outS false S c).2 else if kdT b n t = 10 ∨ kdT b n t = 15 then advS (plI b n) t >>= fun t1 => eX (kdT b n) (vlT b n) (plI b n) true t1 ((kdT b n t).toNat :: (outS true S c).1) (outS true S c).2 else if 0 < depS S then .error (1, plI b n t) else .ok (t, (outS false S c).2)) (KXm b n sd σc σ q0 t0)) := by
        have isk : ∀ x : Int32, ∀ k : Int, x.toInt = k → f_X12_is x s = some (bI (decide (kdT b n t = k)), s) := fun x k hx => by rw [mr_is hT h.1, hx]
        have i8 := isk 8 8 rfl
        have i9 := isk 9 9 rfl
        have i10 := isk 10 10 rfl
        have i15 := isk 15 15 rfl
        unfold f_X12_expression_145
        by_cases cw : kdT b n t = 8 ∨ kdT b n t = 9
        · rw [if_pos cw]
          have w181 : Okv (f_X12_expression_181 (f_X12_expression_12 (M + 1)) 0 s) (PostM (FB sd σc (σ.1 236 33)) (advS (plI b n) t >>= fun t1 => eX (kdT b n) (vlT b n) (plI b n) true t1 ((kdT b n t).toNat :: (outS false S c).1) (outS false S c).2) (KXm b n sd σc σ q0 t0)) := by
            unfold f_X12_expression_181 f_X12_expression_186
            rw [decide_eq_false (show ¬ kdT b n t = 10 by omega)] at i10
            rw [decide_eq_false (show ¬ kdT b n t = 15 by omega)] at i15
            exact Okv.f (by decide) (Okv.cle i10 (Okv.t (by decide) (Okv.cle i15 (Okv.t (by decide) (op false 0 (mr_out0 hq hsd (by omega) (by omega) h.2.1) (Or.inl ⟨rfl, cw⟩))))))
          by_cases c8 : kdT b n t = 8
          · rw [decide_eq_true c8] at i8
            exact Okv.cle i8 (Okv.f (by decide) w181)
          · rw [decide_eq_false c8] at i8
            rw [decide_eq_true (show kdT b n t = 9 by omega)] at i9
            exact Okv.cle i8 (Okv.t (by decide) (Okv.cle i9 (Okv.f (by decide) w181)))
        · rw [if_neg cw]
          rw [decide_eq_false (show ¬ kdT b n t = 8 by omega)] at i8
          rw [decide_eq_false (show ¬ kdT b n t = 9 by omega)] at i9
          refine Okv.cle i8 (Okv.t (by decide) (Okv.cle i9 (Okv.t (by decide) ?_)))
          by_cases cs : kdT b n t = 10 ∨ kdT b n t = 15
          · rw [if_pos cs]
            have o1 := op true 1 (mr_out1 hq hsd (by omega) (by omega) h.2.1) (Or.inr ⟨rfl, cs⟩)
            by_cases c10 : kdT b n t = 10
            · rw [decide_eq_true c10] at i10
              refine Okv.cle i10 (Okv.f (by decide) ?_)
              unfold f_X12_expression_181 f_X12_expression_186
              exact Okv.f (by decide) (Okv.cle i10 (Okv.f (by decide) o1))
            · rw [decide_eq_false c10] at i10
              rw [decide_eq_true (show kdT b n t = 15 by omega)] at i15
              refine Okv.cle i10 (Okv.t (by decide) (Okv.cle i15 (Okv.f (by decide) ?_)))
              unfold f_X12_expression_181 f_X12_expression_186
              exact Okv.f (by decide) (Okv.cle i10 (Okv.t (by decide) (Okv.cle i15 (Okv.f (by decide) o1))))
          · rw [if_neg cs]
            rw [decide_eq_false (show ¬ kdT b n t = 10 by omega)] at i10
            rw [decide_eq_false (show ¬ kdT b n t = 15 by omega)] at i15
            refine Okv.cle i10 (Okv.t (by decide) (Okv.cle i15 (Okv.t (by decide) ?_)))
            unfold f_X12_expression_186
            rw [h.2.2.1, nIt (by omega)]
            refine Okv.t rfl ?_
            by_cases cd : 0 < depS S
            · rw [if_pos cd]
              refine Okv.t (by show (0 : Int) < ((depS S : Nat) : Int); omega) (Okv.cv (mr_fail2 (x := 1) hT h.1 (by decide)) (fun s2 hF => ?_))
              exact ex204_f hq hsd (FB.gow hF.1 hF.2 h.v) (h.2.1.gow hF.2) (by omega) (by omega)
            · rw [if_neg cd]
              refine Okv.f (by show ¬ (0 : Int) < ((depS S : Nat) : Int); omega) ?_
              unfold f_X12_expression_204
              refine Okv.cv (mr_out0 hq hsd (by omega) (by omega) h.2.1) (fun s2 h2' => Okv.ret ?_)
              obtain ⟨x2, f2⟩ := h2'
              obtain ⟨o1, o2, o3, o4, o5⟩ := outS_wf (bs := false) (c := c) h.2.2.2.1
              refine ⟨ht, h.1.fr f2 (fun _ _ => wOut_P hq) (fun _ _ => rfl) (by unfold wOut; simp) (by unfold wOut; simp), x2.2.2.1, x2.2.2.2.1, x2.2.2.2.2, ?_, ?_, h.2.2.2.2.2.2.tr (f2.mono (fun _ _ => wOut_X) (fun _ e => e))⟩
              · rw [f2.1 236 12 (by unfold wOut; simp), h.2.2.1, show depS S = 0 by omega]; rfl
              · show q0 + (outS false S c).2.length ≤ 420 * sd + t
                omega
      by_cases c7 : kdT b n t = 7
      · rw [show (decide (kdT b n t = (7 : Int32).toInt)) = true from decide_eq_true c7, h.2.2.1, nIt (by omega)]
        refine Okv.f (by decide) ?_
        by_cases cd : 0 < depS S
        · rw [if_pos (show kdT b n t = 7 ∧ 0 < depS S from ⟨c7, cd⟩)]
          refine Okv.t (by show (0 : Int) < ((depS S : Nat) : Int); omega) (Okv.cv (mr_out0 hq hsd (by omega) (by omega) h.2.1) (fun s2 h2' => ?_))
          obtain ⟨x2, f2⟩ := h2'
          obtain ⟨o1, o2, o3, o4, o5⟩ := outS_wf (bs := false) (c := c) h.2.2.2.1
          have r2 : RZ b n sd σc t s2 := h.1.fr f2 (fun _ _ => wOut_P hq) (fun _ _ => rfl) (by unfold wOut; simp) (by unfold wOut; simp)
          have d2 : s2.1 236 12 = nI (depS S) := by rw [f2.1 236 12 (by unfold wOut; simp)]; exact h.2.2.1
          have F2 : frm (wXm sd q0) wl0 σ s2 := h.2.2.2.2.2.2.tr (f2.mono (fun _ _ => wOut_X) (fun _ e => e))
          have o3 := o3 rfl
          generalize hS1 : (outS false S c).1 = S1 at *
          generalize hc1 : (outS false S c).2 = c1 at *
          cases S1 with
          | nil =>
            exfalso
            have e0 : depS ([] : List Nat) = 0 := rfl
            rw [e0] at o2
            omega
          | cons w S2 =>
            have hw : w = 6 := o3
            subst hw
            rw [depS_open] at o2
            simp only [List.length_cons] at o5
            have h43 : s2.1 236 43 = nI (S2.length + 1) := x2.1
            have em : nI (S2.length + 1) - 1 = nI S2.length := (nI_sub (a := 1) (b := S2.length + 1) (by omega) (by omega)).trans (congrArg nI (by omega))
            have em2 : nI (depS S) - 1 = nI (depS S2) := (nI_sub (a := 1) (b := depS S) (by omega) (by omega)).trans (congrArg nI (by omega))
            rw [h43, em]
            refine Okv.bd (Okv.bd ?_)
            rw [rI_k (show (12 : Nat) ≠ 43 by decide), d2, em2]
            generalize hs4 : hI (hI s2 236 43 (nI S2.length)) 236 12 (nI (depS S2)) = s4
            have r4 : RZ b n sd σc t s4 := by rw [← hs4]; exact (r2.wr (by unfold wPm; simp) (Or.inr (by decide))).wr (by unfold wPm; simp) (Or.inr (by decide))
            have x4 : XS q0 S2 c1 s4 := by
              rw [← hs4]
              exact ⟨by rw [rI_k (by decide), rI_s], x2.2.1.2.eq (fun i hi => by rw [rI_i (by decide), rI_i (by decide)]), by rw [rI_k (by decide), rI_k (by decide)]; exact x2.2.2.1, x2.2.2.2.1.same (fun q _ _ => by rw [rI_i (by decide), rI_i (by decide)]), x2.2.2.2.2.same (fun q _ _ => by rw [rI_i (by decide), rI_i (by decide)])⟩
            have d4 : s4.1 236 12 = nI (depS S2) := by rw [← hs4]; exact rI_s
            have f4 : frm (wXm sd q0) wl0 σ s4 := by rw [← hs4]; exact (F2.I (by unfold wXm; simp)).I (by unfold wXm; simp)
            have l2 := (wfS_len o1.1).2.2
            show Okv _ (PostM _ (advS (plI b n) t >>= fun t1 => eX (kdT b n) (vlT b n) (plI b n) false t1 S2 c1) _)
            refine MB (mr_goesOn2 hT r4 (by rw [c7]; decide)) (fun e s5 hF => ?_) (fun t1 s5 _ h5 => ?_)
            · exact ex96_f hq hsd (FB.gow hF.1 hF.2 (f4.1 236 33 (by unfold wXm; simp))) (x4.gow hF.2) (by omega) (by omega)
            · obtain ⟨rfl, h4, r5, e5⟩ := h5
              refine ihB (t + 1) S2 c1 s5 (N + 1) (M + 1) (by omega) (by omega) (by omega) (by omega) (by omega) ⟨r5, by rw [e5]; exact x4.wr (by decide) (by decide), by rw [e5, rI_k (by decide)]; exact d4, o1.1, by omega, by omega, by rw [e5]; exact f4.I (by unfold wXm; simp)⟩
        · rw [if_neg (show ¬ (kdT b n t = 7 ∧ 0 < depS S) from fun e => cd e.2)]
          exact Okv.f (by show ¬ (0 : Int) < ((depS S : Nat) : Int); omega) t145
      · rw [show (decide (kdT b n t = (7 : Int32).toInt)) = false from decide_eq_false c7, if_neg (show ¬ (kdT b n t = 7 ∧ 0 < depS S) from fun e => c7 e.1)]
        exact Okv.t (by decide) t145
theorem mr_exS {q0 t : Nat} (hT : TKA b n σc) (hsd : sd ≤ 1) (hq : 420 * sd ≤ q0) (h : RZ b n sd σc t σ) (h39 : σ.1 236 39 = nI q0) (h12 : σ.1 236 12 = 0) (hb : q0 ≤ 420 * sd + t) : Okv (f_X12_expression σ) (PostM (FB sd σc (σ.1 236 33)) (exS (kdT b n) (vlT b n) (plI b n) t) (KXm b n sd σc σ q0 t)) := by
  have ht := h.2.1
  unfold f_X12_expression
  refine Okv.bd (Okv.bd ?_)
  rw [rI_k (show (12 : Nat) ≠ 43 by decide), h12]
  show Okv (b_X12_expression_12 (f_X12_expression_12 4999) 0 1 (hI σ 236 43 0)) _
  unfold b_X12_expression_12
  have r1 := h.wr (a := 236) (k := 43) (v := 0) (by unfold wPm; simp) (Or.inr (by decide))
  refine Okv.f (by decide) (Okv.t r1.2.2.2.2 ?_)
  refine (mr_ex (t0 := t) hT hsd hq 401 (by omega)).1 t [] [] _ 5000 4999 (by omega) ht (by omega) (by omega) (by omega) ⟨r1, ⟨rI_s, trivial, ?_, seg.nil, seg.nil⟩, ?_, trivial, by decide, by simp; omega, frm.rf.I (by unfold wXm; simp)⟩
  · rw [rI_k (by decide)]; exact h39
  · rw [rI_k (by decide)]; exact h12
theorem mr_ex_f {e : FA} {v : Int32} (h : FB sd σc v e σ) : Okv (f_X12_expression σ) (FB sd σc v e) := by
  unfold f_X12_expression
  refine Okv.bd (Okv.bd ?_)
  have hF := h.wr (a := 236) (k := 43) (x := 0) (by unfold wPm; simp) (Or.inr (by decide))
  exact ⟨_, ex12_f hF.1, hF⟩
end MEL
/-! the reference's laws -/
section MLW
variable {b : Nat → Int32} {n sd : Nat} {σc σ s : HS}
/-- the code c from cell p to cell q, within lo and hi -/
def codeAt (s : HS) (lo hi : Nat) (p q : Int32) (c : COD) : Prop := ∃ q0 : Nat, lo ≤ q0 ∧ q0 + c.length ≤ hi ∧ p = nI q0 ∧ q = nI (q0 + c.length) ∧ seg s 261 q0 (cK c) ∧ seg s 262 q0 (cV c)
theorem codeAt.mono {lo hi hi' : Nat} {p q : Int32} {c : COD} {s' : HS} (h : codeAt s lo hi p q c) (hh : hi ≤ hi') (e : ∀ k, lo ≤ k → k < hi → s'.1 261 k = s.1 261 k ∧ s'.1 262 k = s.1 262 k) : codeAt s' lo hi' p q c := by
  obtain ⟨q0, a1, a2, a3, a4, a5, a6⟩ := h
  refine ⟨q0, a1, by omega, a3, a4, a5.same (fun k h1 h2 => ?_), a6.same (fun k h1 h2 => ?_)⟩
  · rw [cK_len] at h2; exact (e k (by omega) (by omega)).1
  · rw [cV_len] at h2; exact (e k (by omega) (by omega)).2
def BRm (s : HS) (lo hi p : Nat) (x : COD × COD × COD) : Prop := s.1 256 p = 1 ∧ codeAt s lo hi (s.1 257 p) (s.1 258 p) x.1 ∧ codeAt s lo hi (s.1 258 p) (s.1 259 p) x.2.1 ∧ codeAt s lo hi (s.1 259 p) (s.1 260 p) x.2.2
def BRe (s : HS) (lo hi p : Nat) (c : COD) : Prop := s.1 256 p = 0 ∧ codeAt s lo hi (s.1 259 p) (s.1 260 p) c
theorem BRm.mono {lo hi hi' p : Nat} {x : COD × COD × COD} {s' : HS} (h : BRm s lo hi p x) (hh : hi ≤ hi') (e : ∀ k, lo ≤ k → k < hi → s'.1 261 k = s.1 261 k ∧ s'.1 262 k = s.1 262 k) (e2 : ∀ a, 256 ≤ a → a ≤ 260 → s'.1 a p = s.1 a p) : BRm s' lo hi' p x := by
  unfold BRm
  rw [e2 256 (by omega) (by omega), e2 257 (by omega) (by omega), e2 258 (by omega) (by omega), e2 259 (by omega) (by omega), e2 260 (by omega) (by omega)]
  exact ⟨h.1, h.2.1.mono hh e, h.2.2.1.mono hh e, h.2.2.2.mono hh e⟩
theorem BRe.mono {lo hi hi' p : Nat} {c : COD} {s' : HS} (h : BRe s lo hi p c) (hh : hi ≤ hi') (e : ∀ k, lo ≤ k → k < hi → s'.1 261 k = s.1 261 k ∧ s'.1 262 k = s.1 262 k) (e2 : ∀ a, 256 ≤ a → a ≤ 260 → s'.1 a p = s.1 a p) : BRe s' lo hi' p c := by
  unfold BRe
  rw [e2 256 (by omega) (by omega), e2 259 (by omega) (by omega), e2 260 (by omega) (by omega)]
  exact ⟨h.1, h.2.mono hh e⟩
/-- the law L in the branches from p on -/
def LWm (s : HS) (lo hi p : Nat) (L : LAWT) : Prop := (∀ i (h : i < L.1.length), BRm s lo hi (p + i) L.1[i]) ∧ BRe s lo hi (p + L.1.length) L.2
def wTm (sd p q a k : Nat) : Bool := wXm sd q a k || (a == 236 && k == 33) || ((a == 259 || a == 260) && k == p)
def wLm (sd p q a k : Nat) : Bool := wXm sd q a k || (a == 236 && k == 33) || ((a == 256 || a == 257 || a == 258 || a == 259 || a == 260) && decide (p ≤ k) && decide (k < 130 * sd + 130))
theorem wXm_mono {q q' a k : Nat} (h : q ≤ q') (e : wXm sd q a k = false) : wXm sd q' a k = false := by
  unfold wXm at e ⊢
  simp only [Bool.or_eq_false_iff] at e ⊢
  refine ⟨⟨e.1.1, ?_⟩, e.2⟩
  have e := e.1.2
  cases c : (a == 261 || a == 262) with
  | false => rfl
  | true => rw [c] at e; simp at e ⊢; omega
theorem wTm_L {p p0 q q0 a k : Nat} (hp : p0 ≤ p) (hp2 : p < 130 * sd + 130) (hq : q0 ≤ q) (e : wLm sd p0 q0 a k = false) : wTm sd p q a k = false := by
  unfold wLm at e
  unfold wTm
  simp only [Bool.or_eq_false_iff] at e ⊢
  refine ⟨⟨wXm_mono hq e.1.1, e.1.2⟩, ?_⟩
  have e := e.2
  by_cases c1 : a = 259
  · subst c1; simp at e ⊢; omega
  · by_cases c2 : a = 260
    · subst c2; simp at e ⊢; omega
    · simp [c1, c2]
theorem wXm_L {p0 q q0 a k : Nat} (hq : q0 ≤ q) (e : wLm sd p0 q0 a k = false) : wXm sd q a k = false := by
  unfold wLm at e
  simp only [Bool.or_eq_false_iff] at e
  exact wXm_mono hq e.1.1
theorem wXm_T {p q a k : Nat} (e : wTm sd p q a k = false) : wXm sd q a k = false := by
  unfold wTm at e
  simp only [Bool.or_eq_false_iff] at e
  exact e.1.1
theorem wL_br {a k p0 q0 : Nat} (h1 : 256 ≤ a) (h2 : a ≤ 260) (h3 : p0 ≤ k) (h4 : k < 130 * sd + 130) : wLm sd p0 q0 a k = true := by
  unfold wLm
  have : a = 256 ∨ a = 257 ∨ a = 258 ∨ a = 259 ∨ a = 260 := by omega
  rcases this with rfl | rfl | rfl | rfl | rfl <;> simp <;> omega
theorem wP_br {a k : Nat} (h1 : 256 ≤ a) (h2 : a ≤ 260) (h3 : 130 * sd ≤ k) (h4 : k < 130 * sd + 130) : wPm sd a k = true := by
  unfold wPm
  have : a = 256 ∨ a = 257 ∨ a = 258 ∨ a = 259 ∨ a = 260 := by omega
  rcases this with rfl | rfl | rfl | rfl | rfl <;> simp <;> omega
theorem mr_term_f {e : FA} {p : Nat} (h1 : 130 * sd ≤ p) (h2 : p < 130 * sd + 130) (hsd : sd ≤ 1) (h : FB sd σc (nI p) e s) : Okv (f_X12_term s) (FB sd σc (nI (p + 1)) e) := by
  unfold f_X12_term f_X12_term_24
  rw [h.2, nIt (by omega), Int.toNat_natCast]
  refine Okv.t (by omega) (Okv.bd ?_)
  have hF := h.wr (a := 259) (k := p) (x := s.1 236 39) (wP_br (by omega) (by omega) h1 h2) (Or.inl (by decide))
  refine Okv.f (by rw [hF.1.1]; have := hF.1.2.1; omega) ?_
  rw [hF.2, nIt (by omega), Int.toNat_natCast]
  refine Okv.t (by omega) (Okv.bd (Okv.bd ?_))
  have hF2 := hF.wr (a := 260) (k := p) (x := (hI s 259 p (s.1 236 39)).1 236 39) (wP_br (by omega) (by omega) h1 h2) (Or.inl (by decide))
  rw [hF2.2, nI_1]
  exact Okv.ret ⟨hF2.1.wr (by unfold wPm; simp) (Or.inr (by decide)), rI_s⟩
theorem mr_term {p q t : Nat} (hT : TKA b n σc) (hsd : sd ≤ 1) (h1 : 130 * sd ≤ p) (h2 : p < 130 * sd + 130) (hq : 420 * sd ≤ q) (h : RZ b n sd σc t s) (h33 : s.1 236 33 = nI p) (h39 : s.1 236 39 = nI q) (h12 : s.1 236 12 = 0) (hb : q ≤ 420 * sd + t) : Okv (f_X12_term s) (PostM (FB sd σc (nI (p + 1))) (exS (kdT b n) (vlT b n) (plI b n) t) (fun a s1 => t < a.1 ∧ RZ b n sd σc a.1 s1 ∧ s1.1 236 33 = nI (p + 1) ∧ s1.1 236 39 = nI (q + a.2.length) ∧ s1.1 236 12 = 0 ∧ q + a.2.length ≤ 420 * sd + a.1 ∧ codeAt s1 q (q + a.2.length) (s1.1 259 p) (s1.1 260 p) a.2 ∧ s1.1 259 p = nI q ∧ frm (wTm sd p q) wl0 s s1)) := by
  unfold f_X12_term
  rw [h33, h39, nIt (by omega), Int.toNat_natCast]
  refine Okv.t (by omega) (Okv.bd ?_)
  generalize hs1 : hI s 259 p (nI q) = s1
  have r1 : RZ b n sd σc t s1 := by rw [← hs1]; exact h.wr (wP_br (by omega) (by omega) h1 h2) (Or.inl (by decide))
  have e33 : s1.1 236 33 = nI p := by rw [← hs1, rI_i (by decide)]; exact h33
  have f1 : frm (wTm sd p q) wl0 s s1 := by rw [← hs1]; exact frm.rf.I (by unfold wTm; simp)
  refine Okv.t r1.2.2.2.2 ?_
  have mx := mr_exS (q0 := q) hT hsd hq r1 (by rw [← hs1, rI_i (by decide)]; exact h39) (by rw [← hs1, rI_i (by decide)]; exact h12) hb
  rw [e33] at mx
  have e : exS (kdT b n) (vlT b n) (plI b n) t = (exS (kdT b n) (vlT b n) (plI b n) t >>= fun a => Except.ok a) := by cases exS (kdT b n) (vlT b n) (plI b n) t <;> rfl
  rw [e]
  refine MB mx (fun e s2 hF => ?_) (fun a s2 _ hx => ?_)
  · unfold f_X12_term_24
    rw [hF.2, nIt (by omega), Int.toNat_natCast]
    refine Okv.t (by omega) (Okv.bd (Okv.bd ?_))
    have hF2 := hF.wr (a := 260) (k := p) (x := s2.1 236 39) (wP_br (by omega) (by omega) h1 h2) (Or.inl (by decide))
    rw [hF2.2, nI_1]
    exact Okv.ret ⟨hF2.1.wr (by unfold wPm; simp) (Or.inr (by decide)), rI_s⟩
  · obtain ⟨a1, a2, a3, a4, a5, a6, a7, a8⟩ := hx
    unfold f_X12_term_24
    have f33 : s2.1 236 33 = nI p := by rw [a8.1 236 33 (by unfold wXm; simp)]; exact e33
    rw [f33, nIt (by omega), Int.toNat_natCast]
    refine Okv.t (by omega) (Okv.bd (Okv.bd ?_))
    rw [rI_i (show (236 : Nat) ≠ 260 by decide), f33, nI_1, a3]
    refine Okv.ret ?_
    show t < a.1 ∧ _
    have e259 : s2.1 259 p = nI q := by rw [a8.1 259 p (by unfold wXm; simp), ← hs1, rI_s]
    refine ⟨a1, (a2.wr (wP_br (by omega) (by omega) h1 h2) (Or.inl (by decide))).wr (by unfold wPm; simp) (Or.inr (by decide)), rI_s, ?_, ?_, a7, ⟨q, Nat.le_refl _, Nat.le_refl _, ?_, ?_, ?_, ?_⟩, ?_, ?_⟩
    · rw [rI_k (by decide), rI_i (by decide)]; exact a3
    · rw [rI_k (by decide), rI_i (by decide)]; exact a6
    · rw [rI_i (by decide), rI_i (by decide)]; exact e259
    · rw [rI_i (by decide), rI_s]
    · exact a4.same (fun k _ _ => by rw [rI_i (by decide), rI_i (by decide)])
    · exact a5.same (fun k _ _ => by rw [rI_i (by decide), rI_i (by decide)])
    · rw [rI_i (by decide), rI_i (by decide)]; exact e259
    · exact ((f1.tr (a8.mono (fun _ _ => wXm_T) (fun _ e => e))).I (by unfold wTm; simp)).I (by unfold wTm; simp)
/-! faults within a law -/
theorem FB.must {e : FA} {v : Int32} {x : Int32} {f : HS → Option HS} {Q : HS → Prop} (h : FB sd σc v e s) (k : Okv (f s) Q) : Okv (Cv (f_X12_must x s) f) Q := Okv.cve (mr_must_f h.1) k
theorem law129_f {e : FA} {p : Nat} {y1 y2 : Int32} (h1 : 130 * sd ≤ p) (h2 : p < 130 * sd + 130) (hsd : sd ≤ 1) (h : FB sd σc (nI p) e s) : Okv (f_X12_tellLaw_129 y1 y2 s) (FLM sd σc e) := by
  unfold f_X12_tellLaw_129
  rw [h.2, nIt (by omega), Int.toNat_natCast]
  refine Okv.t (by omega) (Okv.bd ?_)
  refine Okv.cv (mr_term_f h1 h2 hsd (h.wr (a := 256) (k := p) (wP_br (by omega) (by omega) h1 h2) (Or.inl (by decide)))) (fun s2 hF => ?_)
  exact hF.must (Okv.t (by rw [hF.1.1]; exact hF.1.2.1) (Okv.ret hF.1))
theorem law12_f {e : FA} {N p : Nat} {y1 y2 y3 : Int32} (h1 : 130 * sd ≤ p) (h2 : p < 130 * sd + 130) (hsd : sd ≤ 1) (h : FB sd σc (nI p) e s) : Okv (f_X12_tellLaw_12 (N + 1) y1 y2 y3 s) (FLM sd σc e) := by
  show Okv (b_X12_tellLaw_12 (f_X12_tellLaw_12 N) y1 y2 y3 s) _
  unfold b_X12_tellLaw_12
  exact Okv.f (by rw [h.1.1]; have := h.1.2.1; omega) (law129_f h1 h2 hsd h)
theorem law110_f {e : FA} {N p : Nat} {y1 y2 y3 : Int32} (h1 : 130 * sd ≤ p) (h2 : p + 1 < 130 * sd + 130) (hsd : sd ≤ 1) (h : FB sd σc (nI p) e s) : Okv (f_X12_tellLaw_110 (f_X12_tellLaw_12 (N + 1)) y1 y2 y3 s) (FLM sd σc e) := by
  unfold f_X12_tellLaw_110
  refine h.must (Okv.cv (mr_term_f h1 (by omega) hsd h) (fun s2 hF => ?_))
  exact hF.must (law12_f (by omega) h2 hsd hF)
end MLW
/-! the reference's laws: the branches -/
section MLX
variable {b : Nat → Int32} {n sd : Nat} {σc σ s : HS}
/-- what stands while a law is told: j ifs told -/
def LI1 (b : Nat → Int32) (n sd : Nat) (σc σ : HS) (p0 q0 : Nat) (brs : List (COD × COD × COD)) (t q : Nat) (s : HS) : Prop := RZ b n sd σc t s ∧ s.1 236 33 = nI (p0 + brs.length) ∧ s.1 236 39 = nI q ∧ s.1 236 12 = 0 ∧ (q0 ≤ q ∧ q ≤ 420 * sd + t) ∧ (∀ i (h : i < brs.length), BRm s q0 q (p0 + i) brs[i]) ∧ frm (wLm sd p0 q0) wl0 σ s
theorem mr_must2 {t : Nat} {x : Int32} {k : Int} (hT : TKA b n σc) (h : RZ b n sd σc t s) (hx : x.toInt = k) (h0 : k ≠ 0) : Okv (f_X12_must x s) (PostM (fun e s1 => FB sd σc (s.1 236 33) e s1) (tkS (kdT b n) (plI b n) k t) (fun t1 s1 => t1 = t + 1 ∧ t < 400 ∧ kdT b n t = k ∧ RZ b n sd σc (t + 1) s1 ∧ s1 = hI s 236 11 (nI (t + 1)))) := by
  subst hx
  unfold f_X12_must tkS
  refine Okv.cle (mr_is hT h) ?_
  by_cases c : kdT b n t = x.toInt
  · rw [if_pos c, decide_eq_true c]
    refine Okv.f (by decide) (Okv.cv (mr_goesOn2 hT h (by rw [c]; exact h0)) (fun s1 hs => Okv.ret ?_))
    revert hs
    cases advS (plI b n) t with
    | error e => exact fun hs => FB.gow hs.1 hs.2 rfl
    | ok a => exact fun hs => ⟨hs.1, hs.2.1, c, hs.2.2⟩
  · rw [if_neg c, decide_eq_false c]
    exact Okv.t (by decide) (Okv.cv (mr_fail2 (x := 1) hT h (by decide)) (fun s1 hs => Okv.ret (FB.gow hs.1 hs.2 rfl)))
theorem mr_cond {p0 q0 t q N : Nat} {y1 y2 y3 : Int32} {brs : List (COD × COD × COD)} {G : COD × COD × COD → Nat → Except FA (Nat × LAWT)} {K : Nat × LAWT → HS → Prop} (hT : TKA b n σc) (hsd : sd ≤ 1) (hp0 : 130 * sd ≤ p0) (hp : p0 + brs.length + 1 < 130 * sd + 130) (hq0 : 420 * sd ≤ q0) (hk : kdT b n t = 28) (h : LI1 b n sd σc σ p0 q0 brs t q s) (next : ∀ (x : COD × COD × COD) (t' q' : Nat) (s' : HS), t + 7 ≤ t' → LI1 b n sd σc σ p0 q0 (brs ++ [x]) t' q' s' → Okv (f_X12_tellLaw_12 (N + 1) y1 y2 (y3 + 1) s') (PostM (FLM sd σc) (G x t') K)) : Okv (f_X12_tellLaw_38 (f_X12_tellLaw_12 (N + 1)) y1 y2 y3 s) (PostM (FLM sd σc) (condS (kdT b n) (vlT b n) (plI b n) t >>= fun a => G a.2 a.1) K) := by
  obtain ⟨hR, h33, h39, h12, ⟨hq1, hq2⟩, hbr, hf⟩ := h
  have ht := hR.2.1
  generalize hP : p0 + brs.length = p at *
  unfold f_X12_tellLaw_38
  refine Okv.f (by rw [hR.2.2.2.2]; omega) (Okv.bd ?_)
  unfold condS
  have e28 : tkS (kdT b n) (plI b n) 28 t = advS (plI b n) t := by unfold tkS; rw [if_pos hk]
  rw [e28]
  -- the tails when a fault came
  have T3 : ∀ (e : FA) (s8 : HS), FB sd σc (nI p) e s8 → Okv (if 0 ≤ (s8.1 236 33).toInt ∧ (s8.1 236 33).toInt < 260 then Bd (hI s8 258 (s8.1 236 33).toInt.toNat (s8.1 236 39)) fun σ10 => if (σ10.1 236 13).toInt = 0 then Cv (f_X12_expression σ10) fun σ11 => f_X12_tellLaw_110 (f_X12_tellLaw_12 (N + 1)) y1 y2 (y3 + 1) σ11 else f_X12_tellLaw_110 (f_X12_tellLaw_12 (N + 1)) y1 y2 (y3 + 1) σ10 else none) (FLM sd σc e) := by
    intro e s8 hF
    rw [hF.2, nIt (by omega), Int.toNat_natCast]
    refine Okv.t (by omega) (Okv.bd ?_)
    have hF2 := hF.wr (a := 258) (k := p) (x := s8.1 236 39) (wP_br (by omega) (by omega) (by omega) (by omega)) (Or.inl (by decide))
    exact Okv.f (by rw [hF2.1.1]; have := hF2.1.2.1; omega) (law110_f (by omega) (by omega) hsd hF2)
  show Okv _ (PostM _ ((advS (plI b n) t >>= fun t => exS (kdT b n) (vlT b n) (plI b n) t >>= fun a => tkS (kdT b n) (plI b n) 13 a.1 >>= fun t => exS (kdT b n) (vlT b n) (plI b n) t >>= fun b1 => tkS (kdT b n) (plI b n) 29 b1.1 >>= fun t => exS (kdT b n) (vlT b n) (plI b n) t >>= fun c => tkS (kdT b n) (plI b n) 30 c.1 >>= fun t => .ok (t, a.2, b1.2, c.2)) >>= fun a => G a.2 a.1) _)
  have as : ∀ {α β γ : Type} (x : Except FA α) (y : α → Except FA β) (z : β → Except FA γ), ((x >>= y) >>= z) = (x >>= fun a => y a >>= z) := fun x y z => by cases x <;> rfl
  rw [as]
  refine MB (mr_goesOn2 hT hR (by rw [hk]; decide)) (fun e s2 hF => ?_) (fun t1 s2 _ h2 => ?_)
  · have hb := FB.gow hF.1 hF.2 h33
    rw [hb.2, nIt (by omega), Int.toNat_natCast]
    refine Okv.t (by omega) (Okv.bd ?_)
    have hb2 := hb.wr (a := 256) (k := p) (x := 1) (wP_br (by omega) (by omega) (by omega) (by omega)) (Or.inl (by decide))
    rw [hb2.2, nIt (by omega), Int.toNat_natCast]
    refine Okv.t (by omega) (Okv.bd ?_)
    have hb3 := hb2.wr (a := 257) (k := p) (x := (hI s2 256 p 1).1 236 39) (wP_br (by omega) (by omega) (by omega) (by omega)) (Or.inl (by decide))
    refine Okv.cv (mr_ex_f hb3) (fun s6 hF6 => hF6.must (T3 e s6 hF6))
  obtain ⟨rfl, h4, r2, e2⟩ := h2
  have e33 : s2.1 236 33 = nI p := by rw [e2, rI_k (by decide)]; exact h33
  have e39 : s2.1 236 39 = nI q := by rw [e2, rI_k (by decide)]; exact h39
  have e12 : s2.1 236 12 = 0 := by rw [e2, rI_k (by decide)]; exact h12
  rw [e33, nIt (by omega), Int.toNat_natCast]
  refine Okv.t (by omega) (Okv.bd ?_)
  rw [rI_i (show (236 : Nat) ≠ 256 by decide), rI_i (show (236 : Nat) ≠ 256 by decide), e33, e39, nIt (by omega), Int.toNat_natCast]
  refine Okv.t (by omega) (Okv.bd ?_)
  generalize hs3 : hI (hI s2 256 p 1) 257 p (nI q) = s3
  have r3 : RZ b n sd σc (t + 1) s3 := by rw [← hs3]; exact (r2.wr (wP_br (by omega) (by omega) (by omega) (by omega)) (Or.inl (by decide))).wr (wP_br (by omega) (by omega) (by omega) (by omega)) (Or.inl (by decide))
  have g : ∀ k, s3.1 236 k = s2.1 236 k := fun k => by rw [← hs3, rI_i (by decide), rI_i (by decide)]
  have f3 : frm (wLm sd p q0) wl0 s s3 := by
    rw [← hs3, e2]
    exact ((frm.rf.I (by unfold wLm wXm; simp)).I (wL_br (by omega) (by omega) (by omega) (by omega))).I (wL_br (by omega) (by omega) (by omega) (by omega))
  -- the left side
  have mx := mr_exS (q0 := q) hT hsd (by omega) r3 (by rw [g, e39]) (by rw [g, e12]) (by omega)
  rw [g, e33] at mx
  rw [as]
  refine MB mx (fun e s6 hF6 => hF6.must (T3 e s6 hF6)) (fun a s6 _ h6 => ?_)
  obtain ⟨a1, a2, a3, a4, a5, a6, a7, a8⟩ := h6
  have e33a : s6.1 236 33 = nI p := by rw [a8.1 236 33 (by unfold wXm; simp), g, e33]
  have mm := mr_must2 (x := 13) (k := 13) hT a2 rfl (by decide)
  rw [e33a] at mm
  rw [as]
  refine MB mm (fun e s8 hF8 => T3 e s8 hF8) (fun t8 s8 _ h8 => ?_)
  obtain ⟨rfl, h48, -, r8, e8⟩ := h8
  have e33b : s8.1 236 33 = nI p := by rw [e8, rI_k (by decide)]; exact e33a
  have e39b : s8.1 236 39 = nI (q + a.2.length) := by rw [e8, rI_k (by decide)]; exact a3
  rw [e33b, e39b, nIt (by omega), Int.toNat_natCast]
  refine Okv.t (by omega) (Okv.bd ?_)
  generalize hs10 : hI s8 258 p (nI (q + a.2.length)) = s10
  have r10 : RZ b n sd σc (a.1 + 1) s10 := by rw [← hs10]; exact r8.wr (wP_br (by omega) (by omega) (by omega) (by omega)) (Or.inl (by decide))
  have g10 : ∀ k, s10.1 236 k = s8.1 236 k := fun k => by rw [← hs10, rI_i (by decide)]
  refine Okv.t r10.2.2.2.2 ?_
  -- the right side
  have mx2 := mr_exS (q0 := q + a.2.length) hT hsd (by omega) r10 (by rw [g10, e39b]) (by rw [g10, e8, rI_k (by decide)]; exact a6) (by omega)
  rw [g10, e33b] at mx2
  rw [as]
  refine MB mx2 (fun e s11 hF => law110_f (by omega) (by omega) hsd hF) (fun a' s11 _ h11 => ?_)
  obtain ⟨c1, c2, c3, c4, c5, c6, c7, c8⟩ := h11
  have e33c : s11.1 236 33 = nI p := by rw [c8.1 236 33 (by unfold wXm; simp), g10, e33b]
  unfold f_X12_tellLaw_110
  have mm2 := mr_must2 (x := 29) (k := 29) hT c2 rfl (by decide)
  rw [e33c] at mm2
  rw [as]
  refine MB mm2 (fun e s12 hF => Okv.cv (mr_term_f (by omega) (by omega) hsd hF) (fun s13 hF2 => hF2.must (law12_f (by omega) (by omega) hsd hF2))) (fun t12 s12 _ h12' => ?_)
  obtain ⟨rfl, h412, -, r12, e12'⟩ := h12'
  have g12 : ∀ k, k ≠ 11 → s12.1 236 k = s11.1 236 k := fun k hk => by rw [e12', rI_k hk]
  rw [as]
  refine MB (mr_term (p := p) (q := q + a.2.length + a'.2.length) hT hsd (by omega) (by omega) (by omega) r12 (by rw [g12 33 (by decide), e33c]) (by rw [g12 39 (by decide), c3]) (by rw [g12 12 (by decide), c6]) (by omega)) (fun e s13 hF => hF.must (law12_f (by omega) (by omega) hsd hF)) (fun a'' s13 _ h13 => ?_)
  obtain ⟨d1, d2, d3, d4, d5, d6, d7, d8, d9⟩ := h13
  have mm3 := mr_must2 (x := 30) (k := 30) hT d2 rfl (by decide)
  rw [d3] at mm3
  rw [as]
  refine MB mm3 (fun e s14 hF => law12_f (by omega) (by omega) hsd hF) (fun t14 s14 _ h14 => ?_)
  obtain ⟨rfl, h414, -, r14, e14⟩ := h14
  show Okv _ (PostM _ (G (a.2, a'.2, a''.2) (a''.1 + 1)) K)
  -- what the cells hold
  have o14 : ∀ i k, i ≠ 236 → s14.1 i k = s13.1 i k := fun i k hi => by rw [e14, rI_i hi]
  have o12 : ∀ i k, i ≠ 236 → s12.1 i k = s11.1 i k := fun i k hi => by rw [e12', rI_i hi]
  have o8 : ∀ i k, i ≠ 236 → s8.1 i k = s6.1 i k := fun i k hi => by rw [e8, rI_i hi]
  have tm : ∀ i k, 256 ≤ i → i ≤ 258 → s13.1 i k = s12.1 i k := fun i k h1 h2 => d9.1 i k (by unfold wTm wXm; simp; omega)
  have xm1 : ∀ i k, 256 ≤ i → i ≤ 260 → s11.1 i k = s10.1 i k := fun i k h1 h2 => c8.1 i k (by unfold wXm; simp; omega)
  have xm0 : ∀ i k, 256 ≤ i → i ≤ 260 → s6.1 i k = s3.1 i k := fun i k h1 h2 => a8.1 i k (by unfold wXm; simp; omega)
  have q256 : s14.1 256 p = 1 := by rw [o14 _ _ (by decide), tm _ _ (by omega) (by omega), o12 _ _ (by decide), xm1 _ _ (by omega) (by omega), ← hs10, rI_i (by decide), o8 _ _ (by decide), xm0 _ _ (by omega) (by omega), ← hs3, rI_i (by decide), rI_s]
  have q257 : s14.1 257 p = nI q := by rw [o14 _ _ (by decide), tm _ _ (by omega) (by omega), o12 _ _ (by decide), xm1 _ _ (by omega) (by omega), ← hs10, rI_i (by decide), o8 _ _ (by decide), xm0 _ _ (by omega) (by omega), ← hs3, rI_s]
  have q258 : s14.1 258 p = nI (q + a.2.length) := by rw [o14 _ _ (by decide), tm _ _ (by omega) (by omega), o12 _ _ (by decide), xm1 _ _ (by omega) (by omega), ← hs10, rI_s]
  have q259 : s14.1 259 p = nI (q + a.2.length + a'.2.length) := by rw [o14 _ _ (by decide)]; exact d8
  -- codes stay below what is written later
  have cT : ∀ i k, (i = 261 ∨ i = 262) → k < q + a.2.length + a'.2.length → s14.1 i k = s11.1 i k := fun i k hi hk => by
    rw [o14 _ _ (by omega), d9.1 i k (by unfold wTm wXm; rcases hi with rfl | rfl <;> simp <;> omega), o12 _ _ (by omega)]
  have cR : ∀ i k, (i = 261 ∨ i = 262) → k < q + a.2.length → s11.1 i k = s6.1 i k := fun i k hi hk => by
    rw [c8.1 i k (by unfold wXm; rcases hi with rfl | rfl <;> simp <;> omega), ← hs10, rI_i (by omega), o8 _ _ (by omega)]
  have cL : ∀ i k, (i = 261 ∨ i = 262) → k < q → s6.1 i k = s.1 i k := fun i k hi hk => by
    rw [a8.1 i k (by unfold wXm; rcases hi with rfl | rfl <;> simp <;> omega), ← hs3, rI_i (by omega), rI_i (by omega), e2, rI_i (by omega)]
  have lowB : ∀ i k, 256 ≤ i → i ≤ 260 → k < p → s14.1 i k = s.1 i k := fun i k h1 h2 hk => by
    rw [o14 _ _ (by omega), d9.1 i k (by unfold wTm wXm; simp; omega), o12 _ _ (by omega), xm1 _ _ h1 h2, ← hs10]
    have e1 : (hI s8 258 p (nI (q + a.2.length))).1 i k = s8.1 i k := by
      by_cases c : i = 258
      · subst c; rw [rI_k (by omega)]
      · rw [rI_i c]
    rw [e1, o8 _ _ (by omega), xm0 _ _ h1 h2, ← hs3]
    have e3 : (hI (hI s2 256 p 1) 257 p (nI q)).1 i k = s2.1 i k := by
      by_cases c : i = 257
      · subst c; rw [rI_k (by omega), rI_i (by decide)]
      · rw [rI_i c]
        by_cases c2 : i = 256
        · subst c2; rw [rI_k (by omega)]
        · rw [rI_i c2]
    rw [e3, e2, rI_i (by omega)]
  refine next (a.2, a'.2, a''.2) (a''.1 + 1) (q + a.2.length + a'.2.length + a''.2.length) s14 (by omega) ⟨r14, ?_, ?_, ?_, ⟨by omega, by omega⟩, ?_, ?_⟩
  · rw [e14, rI_k (by decide), d3, List.length_append, ← hP]; rfl
  · rw [e14, rI_k (by decide)]; exact d4
  · rw [e14, rI_k (by decide)]; exact d5
  · intro i hi
    rw [List.length_append] at hi
    simp only [List.length_singleton] at hi
    by_cases c : i < brs.length
    · rw [List.getElem_append_left c]
      refine (hbr i c).mono (by omega) (fun k h1 h2 => ?_) (fun a h1 h2 => lowB a _ h1 h2 (by omega))
      refine ⟨?_, ?_⟩
      · rw [cT 261 k (by omega) (by omega), cR 261 k (by omega) (by omega), cL 261 k (by omega) (by omega)]
      · rw [cT 262 k (by omega) (by omega), cR 262 k (by omega) (by omega), cL 262 k (by omega) (by omega)]
    · have ei : i = brs.length := by omega
      subst ei
      rw [List.getElem_append_right (Nat.le_refl _), hP]
      simp only [Nat.sub_self, List.getElem_cons_zero]
      unfold BRm
      rw [q256, q257, q258, q259]
      refine ⟨rfl, ⟨q, by omega, by show q + a.2.length ≤ _; omega, rfl, rfl, ?_, ?_⟩, ⟨q + a.2.length, by omega, by show q + a.2.length + a'.2.length ≤ _; omega, rfl, rfl, ?_, ?_⟩, ?_⟩
      · exact a4.same (fun k _ h2 => by rw [cK_len] at h2; rw [cT 261 k (by omega) (by omega), cR 261 k (by omega) (by omega)])
      · exact a5.same (fun k _ h2 => by rw [cV_len] at h2; rw [cT 262 k (by omega) (by omega), cR 262 k (by omega) (by omega)])
      · exact c4.same (fun k _ h2 => by rw [cK_len] at h2; rw [cT 261 k (by omega) (by omega)])
      · exact c5.same (fun k _ h2 => by rw [cV_len] at h2; rw [cT 262 k (by omega) (by omega)])
      · obtain ⟨z, z1, z2, z3, z4, z5, z6⟩ := d7
        rw [d8] at z3
        have zq : z = q + a.2.length + a'.2.length := by
          have := congrArg Int32.toInt z3
          rw [nIt (by omega), nIt (by omega)] at this
          omega
        subst zq
        rw [o14 260 p (by decide), z4]
        exact ⟨_, by omega, by omega, rfl, rfl, z5.same (fun k _ _ => by rw [o14 _ _ (by decide)]), z6.same (fun k _ _ => by rw [o14 _ _ (by decide)])⟩
  · have F : frm (wLm sd p q0) wl0 s s14 := by
      rw [e14]
      refine frm.I ?_ (by unfold wLm wXm; simp)
      refine frm.tr ?_ (d9.mono (fun _ _ => wTm_L (by omega) (by omega) (by omega)) (fun _ e => e))
      rw [e12']
      refine frm.I ?_ (by unfold wLm wXm; simp)
      refine frm.tr ?_ (c8.mono (fun _ _ => wXm_L (by omega)) (fun _ e => e))
      rw [← hs10]
      refine frm.I ?_ (wL_br (by omega) (by omega) (by omega) (by omega))
      rw [e8]
      refine frm.I ?_ (by unfold wLm wXm; simp)
      exact f3.tr (a8.mono (fun _ _ => wXm_L (by omega)) (fun _ e => e))
    refine hf.tr (F.mono (fun x k e => ?_) (fun _ e => e))
    unfold wLm at e ⊢
    simp only [Bool.or_eq_false_iff] at e ⊢
    refine ⟨e.1, ?_⟩
    have e := e.2
    cases c : (x == 256 || x == 257 || x == 258 || x == 259 || x == 260) with
    | false => rfl
    | true => rw [c] at e; simp at e ⊢; omega
end MLX
/-! the reference's laws: the whole of one -/
section MLZ
variable {b : Nat → Int32} {n sd : Nat} {σc σ s : HS}
theorem z4m : ∀ z, z < 2 → (4 : Int32) * nI z = nI (4 * z) := by decide +kernel
def wLw2 (sd k p q a j : Nat) : Bool := wLm sd p q a j || ((a == 254 || a == 255) && j == 4 * sd + k)
theorem wLm_w {k p q a j : Nat} (e : wLw2 sd k p q a j = false) : wLm sd p q a j = false := by
  unfold wLw2 at e
  simp only [Bool.or_eq_false_iff] at e
  exact e.1
/-- what a told law leaves -/
def KLm (b : Nat → Int32) (n sd : Nat) (σc σ : HS) (t k p0 q0 : Nat) (a : Nat × LAWT) (s : HS) : Prop := t < a.1 ∧ RZ b n sd σc a.1 s ∧ s.1 236 33 = nI (p0 + a.2.1.length + 1) ∧ s.1 236 12 = 0 ∧ 4 * (p0 + a.2.1.length + 1) ≤ 520 * sd + a.1 ∧ s.1 254 (4 * sd + k) = nI p0 ∧ s.1 255 (4 * sd + k) = nI (p0 + a.2.1.length + 1) ∧ frm (wLw2 sd k p0 q0) wl0 σ s ∧ ∃ q, s.1 236 39 = nI q ∧ q0 ≤ q ∧ q ≤ 420 * sd + a.1 ∧ LWm s q0 q p0 a.2
theorem mr_ifs {p0 q0 k t0 : Nat} (hT : TKA b n σc) (hsd : sd ≤ 1) (hp0 : 130 * sd ≤ p0) (hq0 : 420 * sd ≤ q0) (hk4 : k < 4) (hside : σ.1 236 19 = nI sd) : ∀ (m N t q : Nat) (brs : List (COD × COD × COD)) (s : HS), brs.length + m = 4 → m + 1 < N → t0 < t → 4 * (p0 + brs.length) + 2 ≤ 520 * sd + t → LI1 b n sd σc σ p0 q0 brs t q s → Okv (f_X12_tellLaw_12 N (nI k) (nI p0) (nI brs.length) s) (PostM (FLM sd σc) (ifsS (kdT b n) (vlT b n) (plI b n) m brs t) (KLm b n sd σc σ t0 k p0 q0)) := by
  have fin : ∀ (t q : Nat) (brs : List (COD × COD × COD)) (s : HS), brs.length ≤ 4 → t0 < t → 4 * (p0 + brs.length) + 2 ≤ 520 * sd + t → LI1 b n sd σc σ p0 q0 brs t q s → Okv (f_X12_tellLaw_129 (nI k) (nI p0) s) (PostM (FLM sd σc) (lastS (kdT b n) (vlT b n) (plI b n) brs t) (KLm b n sd σc σ t0 k p0 q0)) := by
    intro t q brs s h4 htt hb h
    obtain ⟨hR, h33, h39, h12, ⟨hq1, hq2⟩, hbr, hf⟩ := h
    have ht := hR.2.1
    generalize hP : p0 + brs.length = p at *
    unfold f_X12_tellLaw_129 lastS
    rw [h33, nIt (by omega), Int.toNat_natCast]
    refine Okv.t (by omega) (Okv.bd ?_)
    generalize hs1 : hI s 256 p 0 = s1
    have r1 : RZ b n sd σc t s1 := by rw [← hs1]; exact hR.wr (wP_br (by omega) (by omega) (by omega) (by omega)) (Or.inl (by decide))
    have g1 : ∀ j, s1.1 236 j = s.1 236 j := fun j => by rw [← hs1, rI_i (by decide)]
    refine MB (mr_term (p := p) (q := q) hT hsd (by omega) (by omega) (by omega) r1 (by rw [g1, h33]) (by rw [g1, h39]) (by rw [g1, h12]) (by omega)) (fun e s2 hF => hF.must (Okv.t (by rw [hF.1.1]; exact hF.1.2.1) (Okv.ret hF.1))) (fun a s2 _ h2 => ?_)
    obtain ⟨d1, d2, d3, d4, d5, d6, d7, d8, d9⟩ := h2
    refine MB (mr_must (x := 4) (k := 4) hT d2 rfl (by decide)) (fun e s3 hF => Okv.t (by rw [hF.1]; exact hF.2.1) (Okv.ret hF)) (fun t3 s3 _ h3 => ?_)
    obtain ⟨rfl, h43, -, r3, e3⟩ := h3
    have si : s3.1 236 19 = nI sd := by rw [e3, rI_k (by decide), d9.1 236 19 (by unfold wTm wXm; simp), g1, hf.1 236 19 (by unfold wLm wXm; simp)]; exact hside
    refine Okv.f (by rw [r3.2.2.2.2]; omega) ?_
    rw [si, z4m sd (by omega), nI_add, nIt (by omega), Int.toNat_natCast]
    refine Okv.t (by omega) (Okv.bd ?_)
    rw [rI_i (show (236 : Nat) ≠ 254 by decide), rI_i (show (236 : Nat) ≠ 254 by decide), si, z4m sd (by omega), nI_add, nIt (by omega), Int.toNat_natCast]
    refine Okv.t (by omega) (Okv.bd ?_)
    rw [show s3.1 236 33 = nI (p + 1) by rw [e3, rI_k (by decide)]; exact d3]
    refine Okv.ret ?_
    show KLm b n sd σc σ t0 k p0 q0 (a.1 + 1, brs, a.2) _
    have w4 : wPm sd 254 (4 * sd + k) = true := by unfold wPm; simp; omega
    have w5 : wPm sd 255 (4 * sd + k) = true := by unfold wPm; simp; omega
    -- cells behind
    have o3 : ∀ i j, i ≠ 236 → (i ≠ 254 ∧ i ≠ 255) → (hI (hI s3 254 (4 * sd + k) (nI p0)) 255 (4 * sd + k) (nI (p + 1))).1 i j = s2.1 i j := fun i j h1 h2 => by rw [rI_i (by omega), rI_i (by omega), e3, rI_i (by omega)]
    have o6 : ∀ j, j ≠ 11 → (hI (hI s3 254 (4 * sd + k) (nI p0)) 255 (4 * sd + k) (nI (p + 1))).1 236 j = s2.1 236 j := fun j h1 => by rw [rI_i (by omega), rI_i (by omega), e3, rI_k h1]
    have low : ∀ i j, (i = 261 ∨ i = 262) → j < q → s2.1 i j = s.1 i j := fun i j hi hj => by
      rw [d9.1 i j (by unfold wTm wXm; rcases hi with rfl | rfl <;> simp <;> omega), ← hs1, rI_i (by omega)]
    have lowB : ∀ i j, 256 ≤ i → i ≤ 260 → j < p → s2.1 i j = s.1 i j := fun i j h1 h2 hj => by
      rw [d9.1 i j (by unfold wTm wXm; simp; omega), ← hs1]
      by_cases c : i = 256
      · subst c; rw [rI_k (by omega)]
      · rw [rI_i c]
    refine ⟨by show t0 < a.1 + 1; omega, (r3.wr w4 (Or.inl (by decide))).wr w5 (Or.inl (by decide)), ?_, ?_, ?_, ?_, ?_, ?_, q + a.2.length, ?_, by omega, by show _ ≤ 420 * sd + (a.1 + 1); omega, fun i hi => ?_, ?_⟩
    · rw [o6 33 (by decide)]; rw [d3, ← hP]
    · rw [o6 12 (by decide)]; exact d5
    · show 4 * (p0 + brs.length + 1) ≤ 520 * sd + (a.1 + 1); omega
    · rw [rI_i (by decide), rI_s]
    · rw [rI_s, ← hP]
    · refine ((?_ : frm (wLw2 sd k p0 q0) wl0 σ s3).I (by unfold wLw2; simp)).I (by unfold wLw2; simp)
      rw [e3]
      refine frm.I ?_ (by unfold wLw2 wLm wXm; simp)
      refine frm.tr (frm.tr (hf.mono (fun _ _ => wLm_w) (fun _ e => e)) (?_ : frm (wLw2 sd k p0 q0) wl0 s s1)) (d9.mono (fun _ _ e => wTm_L (by omega) (by omega) (by omega) (wLm_w e)) (fun _ e => e))
      rw [← hs1]
      exact frm.rf.I (by unfold wLw2; rw [wL_br (by omega) (by omega) (by omega) (by omega)]; rfl)
    · rw [o6 39 (by decide)]; exact d4
    · have hi : i < brs.length := hi
      refine (hbr i hi).mono (by omega) (fun j h1 h2 => ⟨?_, ?_⟩) (fun x h1 h2 => ?_)
      · rw [o3 261 j (by decide) (by decide), low 261 j (by omega) h2]
      · rw [o3 262 j (by decide) (by decide), low 262 j (by omega) h2]
      · rw [o3 x _ (by omega) (by omega), lowB x _ h1 h2 (by omega)]
    · show BRe _ q0 (q + a.2.length) (p0 + brs.length) a.2
      rw [hP]
      unfold BRe
      rw [o3 256 p (by decide) (by decide), o3 259 p (by decide) (by decide), o3 260 p (by decide) (by decide)]
      refine ⟨?_, ?_⟩
      · rw [d9.1 256 p (by unfold wTm wXm; simp), ← hs1, rI_s]
      · obtain ⟨z, z1, z2, z3, z4, z5, z6⟩ := d7
        exact ⟨z, by omega, z2, z3, z4, z5.same (fun j _ _ => o3 261 j (by decide) (by decide)), z6.same (fun j _ _ => o3 262 j (by decide) (by decide))⟩
  intro m
  induction m with
  | zero =>
    intro N t q brs s hm hN htt hb h
    obtain ⟨N, rfl⟩ : ∃ z, N = z + 1 := ⟨N - 1, by omega⟩
    show Okv (b_X12_tellLaw_12 (f_X12_tellLaw_12 N) (nI k) (nI p0) (nI brs.length) s) (PostM _ (if kdT b n t = 28 then .error (2, plI b n t) else _) _)
    unfold b_X12_tellLaw_12
    refine Okv.t h.1.2.2.2.2 (Okv.cle (mr_is hT h.1) ?_)
    by_cases c : kdT b n t = 28
    · rw [if_pos c, show (decide (kdT b n t = (28 : Int32).toInt)) = true from decide_eq_true c, nIt (by omega)]
      refine Okv.f (by decide) (Okv.t (by omega) (Okv.cv (mr_fail (x := 2) hT h.1 (by decide)) (fun s2 hF => ?_)))
      unfold f_X12_tellLaw_38
      exact Okv.t (by rw [hF.1]; exact hF.2.1) (Okv.ret hF)
    · rw [if_neg c, show (decide (kdT b n t = (28 : Int32).toInt)) = false from decide_eq_false c]
      exact Okv.t (by decide) (fin t q brs s (by omega) htt hb h)
  | succ m ih =>
    intro N t q brs s hm hN htt hb h
    obtain ⟨N, rfl⟩ : ∃ z, N = z + 1 + 1 := ⟨N - 2, by omega⟩
    have ht := h.1.2.1
    show Okv (b_X12_tellLaw_12 (f_X12_tellLaw_12 (N + 1)) (nI k) (nI p0) (nI brs.length) s) (PostM _ (if kdT b n t = 28 then _ else _) _)
    unfold b_X12_tellLaw_12
    refine Okv.t h.1.2.2.2.2 (Okv.cle (mr_is hT h.1) ?_)
    by_cases c : kdT b n t = 28
    · rw [if_pos c, show (decide (kdT b n t = (28 : Int32).toInt)) = true from decide_eq_true c, nIt (by omega)]
      refine Okv.f (by decide) (Okv.f (by omega) ?_)
      refine mr_cond (G := fun x t' => ifsS (kdT b n) (vlT b n) (plI b n) m (brs ++ [x]) t') hT hsd hp0 (by omega) hq0 c h (fun x t' q' s' h7 h' => ?_)
      rw [nI_1]
      have := ih (N + 1) t' q' (brs ++ [x]) s' (by rw [List.length_append]; simp; omega) (by omega) (by omega) (by rw [List.length_append]; simp; omega) h'
      rw [List.length_append] at this
      exact this
    · rw [if_neg c, show (decide (kdT b n t = (28 : Int32).toInt)) = false from decide_eq_false c]
      exact Okv.t (by decide) (fin t q brs s (by omega) htt hb h)
theorem mr_law {p0 q0 k t : Nat} (hT : TKA b n σc) (hsd : sd ≤ 1) (hp0 : 130 * sd ≤ p0) (hq0 : 420 * sd ≤ q0) (hk4 : k < 4) (hside : σ.1 236 19 = nI sd) (h : RZ b n sd σc t σ) (hk : kdT b n t = ((22 + k : Nat) : Int)) (h33 : σ.1 236 33 = nI p0) (h39 : σ.1 236 39 = nI q0) (h12 : σ.1 236 12 = 0) (hp : 4 * p0 ≤ 520 * sd + t) (hq : q0 ≤ 420 * sd + t) : Okv (f_X12_tellOne_188 (nI k) σ) (PostM (FLM sd σc) (lawS (kdT b n) (vlT b n) (plI b n) (kdT b n t) t) (KLm b n sd σc σ t k p0 q0)) := by
  have ht := h.2.1
  unfold f_X12_tellOne_188 lawS
  refine Okv.f (by rw [h.2.2.2.2]; omega) ?_
  have e0 : tkS (kdT b n) (plI b n) (kdT b n t) t = advS (plI b n) t := by unfold tkS; rw [if_pos rfl]
  rw [e0]
  have tl : ∀ (e : FA) (s2 : HS), FB sd σc (nI p0) e s2 → Okv (Bd (s2.1 236 33) fun z3 => f_X12_tellLaw_12 5000 (nI k) z3 0 s2) (FLM sd σc e) := fun e s2 hF => Okv.bd (law12_f hp0 (by omega) hsd hF)
  refine MB (mr_goesOn2 hT h (by omega)) (fun e s1 hF => ?_) (fun t1 s1 _ h1 => ?_)
  · unfold f_X12_tellLaw
    have hB := FB.gow hF.1 hF.2 h33
    exact Okv.cv (hB.must (tl e s1 hB)) (fun s2 h2 => Okv.ret h2)
  · obtain ⟨rfl, h4, r1, e1⟩ := h1
    unfold f_X12_tellLaw
    have g1 : ∀ j, j ≠ 11 → s1.1 236 j = σ.1 236 j := fun j hj => by rw [e1, rI_k hj]
    have mm := mr_must2 (x := 5) (k := 5) hT r1 rfl (by decide)
    rw [g1 33 (by decide), h33] at mm
    refine Okv.cv (P := PostM (FLM sd σc) (tkS (kdT b n) (plI b n) 5 (t + 1) >>= fun t => ifsS (kdT b n) (vlT b n) (plI b n) 4 [] t) (KLm b n sd σc σ t k p0 q0)) (MB mm (fun e s2 hF => tl e s2 hF) (fun t2 s2 _ h2 => ?_)) (fun s2 h2 => Okv.ret h2)
    obtain ⟨rfl, h42, -, r2, e2⟩ := h2
    have g2 : ∀ j, j ≠ 11 → s2.1 236 j = σ.1 236 j := fun j hj => by rw [e2, rI_k hj, g1 j hj]
    refine Okv.bd ?_
    rw [g2 33 (by decide), h33]
    refine mr_ifs (t0 := t) hT hsd hp0 hq0 hk4 hside 4 5000 (t + 1 + 1) q0 [] s2 rfl (by omega) (by omega) (by simp; omega) ⟨r2, by rw [g2 33 (by decide)]; exact h33, by rw [g2 39 (by decide)]; exact h39, by rw [g2 12 (by decide)]; exact h12, ⟨by omega, by omega⟩, fun i hi => absurd hi (by simp), ?_⟩
    rw [e2, e1]
    exact (frm.rf.I (by unfold wLm wXm; simp)).I (by unfold wLm wXm; simp)
end MLZ
/-! the reference's statements -/
section MST
variable {b : Nat → Int32} {n sd : Nat} {σc σ s : HS}
def DTm (sd : Nat) (s : HS) (d : Nat × (Nat → Int) × (Nat → Int) × (Nat → Int)) : Prop := s.1 245 sd = nI d.1 ∧ d.1 ≤ 7 ∧ ∀ e, e < d.1 → (s.1 246 (7 * sd + e)).toInt = d.2.1 e ∧ (s.1 247 (7 * sd + e)).toInt = d.2.2.1 e ∧ (s.1 248 (7 * sd + e)).toInt = d.2.2.2 e
def DPm (sd : Nat) (s : HS) (d : Nat × (Nat → Nat) × (Nat → Nat → Int)) : Prop := s.1 249 sd = nI d.1 ∧ d.1 ≤ 5 ∧ ∀ p, p < d.1 → s.1 250 (5 * sd + p) = nI (d.2.1 p) ∧ (1 ≤ d.2.1 p ∧ d.2.1 p ≤ 8) ∧ ∀ i, i < d.2.1 p → (s.1 251 (8 * (5 * sd + p) + i)).toInt = d.2.2 p i
def DRm (sd : Nat) (s : HS) (d : Int × Int) : Prop := (s.1 252 sd).toInt = d.1 ∧ (s.1 253 sd).toInt = d.2
def LOm (sd : Nat) (s : HS) (hi P k : Nat) : Option LAWT → Prop
  | none => s.1 254 (4 * sd + k) = 0 ∧ s.1 255 (4 * sd + k) = 0
  | some L => ∃ p0, s.1 254 (4 * sd + k) = nI p0 ∧ s.1 255 (4 * sd + k) = nI (p0 + L.1.length + 1) ∧ 130 * sd ≤ p0 ∧ p0 + L.1.length + 1 ≤ P ∧ LWm s (420 * sd) hi p0 L
def DLm (sd : Nat) (s : HS) (hi P : Nat) (d : Nat → Option LAWT) : Prop := ∀ k, k < 4 → LOm sd s hi P k (d k)
theorem DTm.fr {w : Nat → Nat → Bool} {wl : Nat → Bool} {d : Nat × (Nat → Int) × (Nat → Int) × (Nat → Int)} (h : DTm sd σ d) (hf : frm w wl σ s) (hw : ∀ a k, 245 ≤ a → a ≤ 248 → w a k = false) : DTm sd s d := ⟨by rw [hf.1 _ _ (hw _ _ (by omega) (by omega))]; exact h.1, h.2.1, fun e he => by rw [hf.1 _ _ (hw 246 _ (by omega) (by omega)), hf.1 _ _ (hw 247 _ (by omega) (by omega)), hf.1 _ _ (hw 248 _ (by omega) (by omega))]; exact h.2.2 e he⟩
theorem DPm.fr {w : Nat → Nat → Bool} {wl : Nat → Bool} {d : Nat × (Nat → Nat) × (Nat → Nat → Int)} (h : DPm sd σ d) (hf : frm w wl σ s) (hw : ∀ a k, 249 ≤ a → a ≤ 251 → w a k = false) : DPm sd s d := ⟨by rw [hf.1 _ _ (hw _ _ (by omega) (by omega))]; exact h.1, h.2.1, fun p hp => ⟨by rw [hf.1 _ _ (hw 250 _ (by omega) (by omega))]; exact (h.2.2 p hp).1, (h.2.2 p hp).2.1, fun i hi => by rw [hf.1 _ _ (hw 251 _ (by omega) (by omega))]; exact (h.2.2 p hp).2.2 i hi⟩⟩
theorem DRm.fr {w : Nat → Nat → Bool} {wl : Nat → Bool} {d : Int × Int} (h : DRm sd σ d) (hf : frm w wl σ s) (hw : ∀ a k, 252 ≤ a → a ≤ 253 → w a k = false) : DRm sd s d := ⟨by rw [hf.1 _ _ (hw _ _ (by omega) (by omega))]; exact h.1, by rw [hf.1 _ _ (hw _ _ (by omega) (by omega))]; exact h.2⟩
theorem LWm.mono {lo hi hi' p : Nat} {L : LAWT} {s' : HS} (h : LWm s lo hi p L) (hh : hi ≤ hi') (e : ∀ a k, (a = 261 ∨ a = 262) → lo ≤ k → k < hi → s'.1 a k = s.1 a k) (e2 : ∀ a k, 256 ≤ a → a ≤ 260 → p ≤ k → k < p + L.1.length + 1 → s'.1 a k = s.1 a k) : LWm s' lo hi' p L := ⟨fun i hi => (h.1 i hi).mono hh (fun k h1 h2 => ⟨e 261 k (by omega) h1 h2, e 262 k (by omega) h1 h2⟩) (fun a h1 h2 => e2 a _ h1 h2 (by omega) (by omega)), h.2.mono hh (fun k h1 h2 => ⟨e 261 k (by omega) h1 h2, e 262 k (by omega) h1 h2⟩) (fun a h1 h2 => e2 a _ h1 h2 (by omega) (by omega))⟩
theorem codeAt.lo {lo lo' hi : Nat} {p q : Int32} {c : COD} (h : codeAt s lo hi p q c) (hl : lo' ≤ lo) : codeAt s lo' hi p q c := by
  obtain ⟨q0, a1, a2⟩ := h
  exact ⟨q0, by omega, a2⟩
theorem LWm.lo {lo lo' hi p : Nat} {L : LAWT} (h : LWm s lo hi p L) (hl : lo' ≤ lo) : LWm s lo' hi p L := ⟨fun i hi => ⟨(h.1 i hi).1, (h.1 i hi).2.1.lo hl, (h.1 i hi).2.2.1.lo hl, (h.1 i hi).2.2.2.lo hl⟩, h.2.1, h.2.2.lo hl⟩
theorem LOm.mono {hi hi' P P' k : Nat} {o : Option LAWT} {s' : HS} (h : LOm sd s hi P k o) (hh : hi ≤ hi') (hP : P ≤ P') (e4 : ∀ a, 254 ≤ a → a ≤ 255 → s'.1 a (4 * sd + k) = s.1 a (4 * sd + k)) (e : ∀ a k, (a = 261 ∨ a = 262) → 420 * sd ≤ k → k < hi → s'.1 a k = s.1 a k) (e2 : ∀ a k, 256 ≤ a → a ≤ 260 → 130 * sd ≤ k → k < P → s'.1 a k = s.1 a k) : LOm sd s' hi' P' k o := by
  cases o with
  | none => exact ⟨by rw [e4 254 (by omega) (by omega)]; exact h.1, by rw [e4 255 (by omega) (by omega)]; exact h.2⟩
  | some L =>
    obtain ⟨p0, a1, a2, a3, a4, a5⟩ := h
    exact ⟨p0, by rw [e4 254 (by omega) (by omega)]; exact a1, by rw [e4 255 (by omega) (by omega)]; exact a2, a3, by omega, a5.mono hh e (fun a k h1 h2 h3 h4 => e2 a k h1 h2 (by omega) (by omega))⟩
theorem DLm.fr {w : Nat → Nat → Bool} {wl : Nat → Bool} {hi P : Nat} {d : Nat → Option LAWT} (h : DLm sd σ hi P d) (hf : frm w wl σ s) (hw : ∀ a k, 254 ≤ a → a ≤ 262 → w a k = false) : DLm sd s hi P d := fun k hk => (h k hk).mono (Nat.le_refl _) (Nat.le_refl _) (fun a h1 h2 => hf.1 _ _ (hw _ _ (by omega) (by omega))) (fun a k h1 _ _ => hf.1 _ _ (hw _ _ (by omega) (by omega))) (fun a k h1 h2 _ _ => hf.1 _ _ (hw _ _ (by omega) (by omega)))
/-- between two statements -/
def TMs (b : Nat → Int32) (n sd : Nat) (σc : HS) (S : PST) (s : HS) : Prop := RZ b n sd σc S.1 s ∧ NMM s S.2.1.1 S.2.1.2 ∧ LTM b n S.1 s S.2.2.1 ∧ (S.2.1.1 = S.2.2.2.1.1.1 + S.2.2.2.1.2.1) ∧ DTm sd s S.2.2.2.1.1 ∧ DPm sd s S.2.2.2.1.2 ∧ DRm sd s S.2.2.2.2.1 ∧ (∃ p q, s.1 236 33 = nI p ∧ 130 * sd ≤ p ∧ 4 * p ≤ 520 * sd + S.1 ∧ s.1 236 39 = nI q ∧ 420 * sd ≤ q ∧ q ≤ 420 * sd + S.1 ∧ DLm sd s q p S.2.2.2.2.2) ∧ s.1 236 12 = 0 ∧ s.1 236 19 = nI sd
theorem PostM.map {α β : Type} {F : FA → HS → Prop} {x : Except FA α} {K : α → HS → Prop} {K' : β → HS → Prop} {y : α → Except FA β} {f : Option HS} (h : Okv f (PostM F x K)) (k : ∀ a s, x = .ok a → K a s → ∃ b, y a = .ok b ∧ K' b s) : Okv f (PostM F (x >>= y) K') := by
  obtain ⟨s, rfl, h⟩ := h
  refine ⟨s, rfl, ?_⟩
  cases x with
  | error e => exact h
  | ok a =>
    obtain ⟨b, e, h2⟩ := k a s rfl h
    show PostM F (y a) K' s
    rw [e]
    exact h2
theorem mr_told1 {S : PST} {sd : Nat} {w : Nat → Nat → Bool} {S1 : PST} {s0 s1 : HS} (h : TMs b n sd σc S s0) (hf : frm w wlPm s0 s1) (hw : ∀ k, k = 12 ∨ k = 19 ∨ k = 33 ∨ k = 39 → w 236 k = false) (hd : ∀ a k, 254 ≤ a → a ≤ 262 → w a k = false) (hS : S.1 ≤ S1.1) (hR : RZ b n sd σc S1.1 s1) (hN : NMM s1 S1.2.1.1 S1.2.1.2) (hL : LTM b n S1.1 s1 S1.2.2.1) (hc : S1.2.1.1 = S1.2.2.2.1.1.1 + S1.2.2.2.1.2.1) (hT : DTm sd s1 S1.2.2.2.1.1) (hP : DPm sd s1 S1.2.2.2.1.2) (hDR : DRm sd s1 S1.2.2.2.2.1) (hl : S1.2.2.2.2.2 = S.2.2.2.2.2) : TMs b n sd σc S1 s1 := by
  obtain ⟨-, -, -, -, -, -, -, ⟨p, q, a1, a2, a3, a4, a5, a6, a7⟩, a8, a9⟩ := h
  refine ⟨hR, hN, hL, hc, hT, hP, hDR, ⟨p, q, by rw [hf.1 _ _ (hw 33 (by omega))]; exact a1, a2, by omega, by rw [hf.1 _ _ (hw 39 (by omega))]; exact a4, a5, by omega, ?_⟩, by rw [hf.1 _ _ (hw 12 (by omega))]; exact a8, by rw [hf.1 _ _ (hw 19 (by omega))]; exact a9⟩
  rw [hl]
  exact a7.fr hf hd
theorem mr_tellOne {S : PST} (hT : TKA b n σc) (hsd : sd ≤ 1) (hk0 : kdT b n S.1 ≠ 0) (h : TMs b n sd σc S σ) : Okv (f_X12_tellOne σ) (PostM (FLM sd σc) (tellS (kdT b n) (vlT b n) (plI b n) (nmT b n) S) (fun S1 s => S.1 < S1.1 ∧ TMs b n sd σc S1 s)) := by
  have h0 := h
  obtain ⟨hR, hN, hL, hc, hDT, hDP, hDR, ⟨p, q, e33, hp1, hp2, e39, hq1, hq2, hDL⟩, e12, hside⟩ := h
  have ht := hR.2.1
  have tk := RZ.tk hT hR
  have pl0 : S.1 < S.1 + 1 := by omega
  have fg : ∀ {s1 : HS}, s1 = hI σ 236 11 (nI (S.1 + 1)) → frm wGo wl0 σ s1 := fun e => by rw [e]; exact frm.rf.I rfl
  have hLg : ∀ {s1 : HS}, s1 = hI σ 236 11 (nI (S.1 + 1)) → LTM b n (S.1 + 1) s1 S.2.2.1 := fun e => (hL.up hk0).eq (by rw [e, rI_k (by decide)]) (by rw [e, rI_k (by decide)])
  unfold f_X12_tellOne tellS
  rw [hR.2.2.2.1, nIt (by omega), Int.toNat_natCast, tk.1]
  refine Okv.t (by omega) ?_
  by_cases c20 : kdT b n S.1 = 20
  · refine Okv.t c20 ?_
    rw [if_pos c20, hside, nIt (by omega), Int.toNat_natCast, hDT.1]
    refine Okv.t (by omega) ?_
    have et : thingS (kdT b n) (vlT b n) (plI b n) (nmT b n) S.2.2.2.1.1.1 S.1 S.2.1.1 S.2.1.2 S.2.2.1 = ((if S.2.2.2.1.1.1 < 7 then advS (plI b n) S.1 else .error (2, plI b n S.1)) >>= fun t1 => nameS (kdT b n) (plI b n) (nmT b n) t1 S.2.1.1 S.2.1.2 S.2.2.1 >>= fun a => numS (kdT b n) (vlT b n) (plI b n) 1 9 a.1 a.2 >>= fun b1 => numS (kdT b n) (vlT b n) (plI b n) 0 9 b1.1 b1.2.2 >>= fun c => numS (kdT b n) (vlT b n) (plI b n) 0 9 c.1 c.2.2 >>= fun d => tkS (kdT b n) (plI b n) 4 d.1 >>= fun t2 => .ok (t2, (b1.2.1, c.2.1, d.2.1), d.2.2)) := by
      unfold thingS
      by_cases c : S.2.2.2.1.1.1 < 7
      · rw [if_pos c, if_pos c]
        unfold tkS
        rw [if_pos c20]
      · rw [if_neg c, if_neg c]; rfl
    rw [et]
    refine PostM.map (MB (mr_room (k := S.2.2.2.1.1.1) (most := 7) (x2 := 7) hT hR hk0 rfl hDT.2.1 (by omega)) (fun e s1 hF => Okv.f (by rw [hF.1]; have := hF.2.1; omega) (Okv.ret hF)) (fun t1 s1 ex h1 => ?_)) (fun a s2 _ h2 => ?_) (K := fun (a : Nat × (Int × Int × Int) × FA) s => S.1 + 1 < a.1 ∧ RZ b n sd σc a.1 s ∧ LTM b n a.1 s a.2.2 ∧ NMM s (S.2.1.1 + 1) (upN S.2.1.2 S.2.1.1 (nmT b n (S.1 + 1))) ∧ s.1 245 sd = nI (S.2.2.2.1.1.1 + 1) ∧ (s.1 246 (7 * sd + S.2.2.2.1.1.1)).toInt = a.2.1.1 ∧ (s.1 247 (7 * sd + S.2.2.2.1.1.1)).toInt = a.2.1.2.1 ∧ (s.1 248 (7 * sd + S.2.2.2.1.1.1)).toInt = a.2.1.2.2 ∧ frm (wThm sd S.2.2.2.1.1.1) wlPm σ s ∧ S.2.2.2.1.1.1 < 7)
    · obtain ⟨rfl, h4, r1, e1⟩ := h1
      have h7 : S.2.2.2.1.1.1 < 7 := by
        by_cases c : S.2.2.2.1.1.1 < 7
        · exact c
        · rw [if_neg c] at ex; exact absurd ex (by simp)
      refine Okv.t r1.2.2.2.2 (Okv.cv (mr_thing hT hsd r1 (hLg e1) (hN.fr (fg e1) rfl rfl) (by have := hDP.2.1; omega) (by rw [e1, rI_k (by decide)]; exact hside) (by rw [e1, rI_i (by decide)]; exact hDT.1) h7) (fun s2 h2 => Okv.ret ?_))
      revert h2
      show PostM _ _ _ s2 → PostM _ (nameS (kdT b n) (plI b n) (nmT b n) (S.1 + 1) S.2.1.1 S.2.1.2 S.2.2.1 >>= _) _ s2
      generalize (nameS (kdT b n) (plI b n) (nmT b n) (S.1 + 1) S.2.1.1 S.2.1.2 S.2.2.1 >>= fun a => numS (kdT b n) (vlT b n) (plI b n) 1 9 a.1 a.2 >>= fun b1 => numS (kdT b n) (vlT b n) (plI b n) 0 9 b1.1 b1.2.2 >>= fun c => numS (kdT b n) (vlT b n) (plI b n) 0 9 c.1 c.2.2 >>= fun d => tkS (kdT b n) (plI b n) 4 d.1 >>= fun t2 => Except.ok (t2, (b1.2.1, c.2.1, d.2.1), d.2.2)) = X
      cases X with
      | error e => exact fun h2 => h2
      | ok a =>
        rintro ⟨a1, a2, a3, a4, a5, a6, a7, a8, a9⟩
        exact ⟨a1, a2, a3, a4, a5, a6, a7, a8, (by rw [e1]; exact frm.rf.I (by unfold wThm; simp) : frm (wThm sd S.2.2.2.1.1.1) wlPm σ s1).tr a9, h7⟩
    · obtain ⟨a1, a2, a3, a4, a5, a6, a7, a8, a9, h7⟩ := h2
      refine ⟨_, rfl, by show S.1 < a.1; omega, mr_told1 h0 a9 (fun k hk => ?_) (fun x k h1 h2 => ?_) (by show S.1 ≤ a.1; omega) a2 a4 a3 (by show S.2.1.1 + 1 = S.2.2.2.1.1.1 + 1 + S.2.2.2.1.2.1; omega) ⟨a5, by show S.2.2.2.1.1.1 + 1 ≤ 7; omega, fun e he => ?_⟩ (hDP.fr a9 (fun x k h1 h2 => ?_)) (hDR.fr a9 (fun x k h1 h2 => ?_)) rfl⟩
      · unfold wThm; rcases hk with rfl | rfl | rfl | rfl <;> simp
      · unfold wThm; simp; omega
      · have he : e < S.2.2.2.1.1.1 + 1 := he
        show _ = upI _ _ _ e ∧ _ = upI _ _ _ e ∧ _ = upI _ _ _ e
        unfold upI
        by_cases c : e = S.2.2.2.1.1.1
        · rw [c, if_pos rfl, if_pos rfl, if_pos rfl]; exact ⟨a6, a7, a8⟩
        · rw [if_neg c, if_neg c, if_neg c]
          have wn : ∀ x, 246 ≤ x → x ≤ 248 → wThm sd S.2.2.2.1.1.1 x (7 * sd + e) = false := fun x h1 h2 => by unfold wThm; simp; omega
          rw [a9.1 _ _ (wn 246 (by omega) (by omega)), a9.1 _ _ (wn 247 (by omega) (by omega)), a9.1 _ _ (wn 248 (by omega) (by omega))]
          exact hDT.2.2 e (by omega)
      · unfold wThm; simp; omega
      · unfold wThm; simp; omega
  refine Okv.f c20 ?_
  rw [if_neg c20]
  by_cases c21 : kdT b n S.1 = 21
  · refine Okv.t c21 ?_
    rw [if_pos c21, hside, nIt (by omega), Int.toNat_natCast, hDP.1]
    refine Okv.t (by omega) ?_
    have et : patS (kdT b n) (vlT b n) (plI b n) (nmT b n) S.2.2.2.1.2.1 S.1 S.2.1.1 S.2.1.2 S.2.2.1 = ((if S.2.2.2.1.2.1 < 5 then advS (plI b n) S.1 else .error (2, plI b n S.1)) >>= fun t1 => nameS (kdT b n) (plI b n) (nmT b n) t1 S.2.1.1 S.2.1.2 S.2.2.1 >>= fun a => numS (kdT b n) (vlT b n) (plI b n) 0 9 a.1 a.2 >>= fun b1 => htsS (kdT b n) (vlT b n) (plI b n) 1 (upI (fun _ => 0) 0 b1.2.1) b1.1 b1.2.2 7) := by
      unfold patS
      by_cases c : S.2.2.2.1.2.1 < 5
      · rw [if_pos c, if_pos c]
        unfold tkS
        rw [if_pos c21]
      · rw [if_neg c, if_neg c]; rfl
    rw [et]
    refine PostM.map (MB (mr_room (k := S.2.2.2.1.2.1) (most := 5) (x2 := 5) hT hR hk0 rfl hDP.2.1 (by omega)) (fun e s1 hF => Okv.f (by rw [hF.1]; have := hF.2.1; omega) (Okv.ret hF)) (fun t1 s1 ex h1 => ?_)) (fun a s2 _ h2 => ?_) (K := fun (a : Nat × Nat × (Nat → Int) × FA) s => KPm b n sd σc (S.1 + 1) S.2.2.2.1.2.1 (S.2.1.1 + 1) (upN S.2.1.2 S.2.1.1 (nmT b n (S.1 + 1))) σ a s ∧ S.2.2.2.1.2.1 < 5)
    · obtain ⟨rfl, h4, r1, e1⟩ := h1
      have h7 : S.2.2.2.1.2.1 < 5 := by
        by_cases c : S.2.2.2.1.2.1 < 5
        · exact c
        · rw [if_neg c] at ex; exact absurd ex (by simp)
      refine Okv.t r1.2.2.2.2 (Okv.cv (mr_pattern hT hsd r1 (hLg e1) (hN.fr (fg e1) rfl rfl) (by have := hDT.2.1; omega) (by rw [e1, rI_k (by decide)]; exact hside) (by rw [e1, rI_i (by decide)]; exact hDP.1) h7) (fun s2 h2 => Okv.ret ?_))
      revert h2
      show PostM _ _ _ s2 → PostM _ (nameS (kdT b n) (plI b n) (nmT b n) (S.1 + 1) S.2.1.1 S.2.1.2 S.2.2.1 >>= _) _ s2
      generalize (nameS (kdT b n) (plI b n) (nmT b n) (S.1 + 1) S.2.1.1 S.2.1.2 S.2.2.1 >>= fun a => numS (kdT b n) (vlT b n) (plI b n) 0 9 a.1 a.2 >>= fun b1 => htsS (kdT b n) (vlT b n) (plI b n) 1 (upI (fun _ => 0) 0 b1.2.1) b1.1 b1.2.2 7) = X
      cases X with
      | error e => exact fun h2 => h2
      | ok a =>
        rintro ⟨a1, a2, a3, a4, a5, a6, a7, a8, a9⟩
        exact ⟨⟨a1, a2, a3, a4, a5, a6, a7, a8, (by rw [e1]; exact frm.rf.I (by unfold wPtm; simp) : frm (wPtm sd S.2.2.2.1.2.1) wlPm σ s1).tr a9⟩, h7⟩
    · obtain ⟨⟨a1, a2, a3, a4, a5, a6, a7, a8, a9⟩, h7⟩ := h2
      refine ⟨_, rfl, by show S.1 < a.1; omega, mr_told1 h0 a9 (fun k hk => ?_) (fun x k h1 h2 => ?_) (by show S.1 ≤ a.1; omega) a2 a4 a3 (by show S.2.1.1 + 1 = S.2.2.2.1.1.1 + (S.2.2.2.1.2.1 + 1); omega) (hDT.fr a9 (fun x k h1 h2 => ?_)) ⟨a5, by show S.2.2.2.1.2.1 + 1 ≤ 5; omega, fun e he => ?_⟩ (hDR.fr a9 (fun x k h1 h2 => ?_)) rfl⟩
      · unfold wPtm; rcases hk with rfl | rfl | rfl | rfl <;> simp
      · unfold wPtm; simp; omega
      · unfold wPtm; simp; omega
      · have he : e < S.2.2.2.1.2.1 + 1 := he
        by_cases c : e = S.2.2.2.1.2.1
        · subst c
          show _ = nI (if _ = _ then a.2.1 else _) ∧ (1 ≤ (if _ = _ then a.2.1 else _) ∧ (if _ = _ then a.2.1 else _) ≤ 8) ∧ ∀ i, i < (if _ = _ then a.2.1 else _) → _ = (if _ = _ then a.2.2.1 else _) i
          rw [if_pos rfl, if_pos rfl]
          exact ⟨a6, a7, a8⟩
        · show _ = nI (if _ = _ then a.2.1 else _) ∧ (1 ≤ (if _ = _ then a.2.1 else _) ∧ (if _ = _ then a.2.1 else _) ≤ 8) ∧ ∀ i, i < (if _ = _ then a.2.1 else _) → _ = (if _ = _ then a.2.2.1 else _) i
          rw [if_neg c, if_neg c, a9.1 250 _ (by unfold wPtm; simp; omega)]
          have := hDP.2.2 e (by omega)
          refine ⟨this.1, this.2.1, fun i hi => ?_⟩
          rw [a9.1 251 _ (by unfold wPtm; simp; omega)]
          exact this.2.2 i hi
      · unfold wPtm; simp; omega
  refine Okv.f c21 ?_
  rw [if_neg c21]
  have nmG : ∀ k, k = 12 ∨ k = 19 ∨ k = 33 ∨ k = 39 → wNmm 236 k = false := fun k hk => by unfold wNmm; rcases hk with rfl | rfl | rfl | rfl <;> rfl
  have nmO : ∀ a k, a ≠ 236 → wNmm a k = false := fun a k ha => by unfold wNmm; simp [ha]
  have tnum : ∀ {x : Int32} {most : Int}, x.toInt = most → (advS (plI b n) S.1 >>= fun t1 => numS (kdT b n) (vlT b n) (plI b n) (0 : Int32).toInt x.toInt t1 S.2.2.1 >>= fun a => tkS (kdT b n) (plI b n) 4 a.1 >>= fun t2 => Except.ok (t2, a.2)) = (advS (plI b n) S.1 >>= fun t1 => numS (kdT b n) (vlT b n) (plI b n) 0 most t1 S.2.2.1 >>= fun a => tkS (kdT b n) (plI b n) 4 a.1 >>= fun t2 => Except.ok (t2, a.2)) := fun hx => by rw [hx]; rfl
  by_cases c26 : kdT b n S.1 = 26
  · refine Okv.t c26 ?_
    rw [if_neg (show ¬ (22 ≤ kdT b n S.1 ∧ kdT b n S.1 ≤ 25) by omega), if_pos c26, hside, nIt (by omega), Int.toNat_natCast]
    have et : oneS (kdT b n) (vlT b n) (plI b n) 26 99 S.1 S.2.2.1 = (advS (plI b n) S.1 >>= fun t1 => numS (kdT b n) (vlT b n) (plI b n) 0 99 t1 S.2.2.1 >>= fun a => tkS (kdT b n) (plI b n) 4 a.1 >>= fun t2 => .ok (t2, a.2)) := by
      unfold oneS tkS
      rw [if_pos c26]
    rw [et]
    have mt := mr_told (x1 := 0) (x2 := 99) hT hR hk0 hL
    rw [tnum (x := 99) (most := 99) rfl] at mt
    refine MBl mt (fun r e s1 hF => Okv.t (by omega) (tl_w hF (a := 252) (k := sd) (by unfold wPm; simp) (by decide) (fun s hF => Okv.ret hF))) (fun r a s1 _ h1 => ?_)
    obtain ⟨a1, a2, a3, a4, a5⟩ := h1
    refine Okv.t (by omega) (Okv.bd (Okv.ret ?_))
    have f2 : frm (fun a k => wNmm a k || a == 252) wlPm σ (hI s1 252 sd r) := (a5.mono (fun _ _ e => by simp only [Bool.or_eq_false_iff] at e; exact e.1) (fun _ _ => rfl)).I (by simp)
    have wo : ∀ a k, a ≠ 236 → a ≠ 252 → (wNmm a k || a == 252) = false := fun a k h1 h2 => by rw [nmO a k h1]; simp [h2]
    refine ⟨by show S.1 < a.1; exact a1, mr_told1 h0 f2 (fun k hk => by simp only [nmG k hk]; rfl) (fun x k h1 h2 => wo x k (by omega) (by omega)) (by show S.1 ≤ a.1; omega) (a2.wr (by unfold wPm; simp) (Or.inl (by decide))) ((hN.fr a5 rfl rfl).wr (by decide)) (a3.wr (by decide)) hc (hDT.fr f2 (fun x k h1 h2 => wo x k (by omega) (by omega))) (hDP.fr f2 (fun x k h1 h2 => wo x k (by omega) (by omega))) ⟨?_, ?_⟩ rfl⟩
    · rw [rI_s]; exact a4
    · rw [rI_i (by decide), a5.1 _ _ (nmO _ _ (by decide))]; exact hDR.2
  refine Okv.f c26 ?_
  by_cases c27 : kdT b n S.1 = 27
  · refine Okv.t c27 ?_
    rw [if_neg (show ¬ (22 ≤ kdT b n S.1 ∧ kdT b n S.1 ≤ 25) by omega), if_neg c26, if_pos c27, hside, nIt (by omega), Int.toNat_natCast]
    have et : oneS (kdT b n) (vlT b n) (plI b n) 27 9999 S.1 S.2.2.1 = (advS (plI b n) S.1 >>= fun t1 => numS (kdT b n) (vlT b n) (plI b n) 0 9999 t1 S.2.2.1 >>= fun a => tkS (kdT b n) (plI b n) 4 a.1 >>= fun t2 => .ok (t2, a.2)) := by
      unfold oneS tkS
      rw [if_pos c27]
    rw [et]
    have mt := mr_told (x1 := 0) (x2 := 9999) hT hR hk0 hL
    rw [tnum (x := 9999) (most := 9999) rfl] at mt
    refine MBl mt (fun r e s1 hF => Okv.t (by omega) (tl_w hF (a := 253) (k := sd) (by unfold wPm; simp) (by decide) (fun s hF => Okv.ret hF))) (fun r a s1 _ h1 => ?_)
    obtain ⟨a1, a2, a3, a4, a5⟩ := h1
    refine Okv.t (by omega) (Okv.bd (Okv.ret ?_))
    have f2 : frm (fun a k => wNmm a k || a == 253) wlPm σ (hI s1 253 sd r) := (a5.mono (fun _ _ e => by simp only [Bool.or_eq_false_iff] at e; exact e.1) (fun _ _ => rfl)).I (by simp)
    have wo : ∀ a k, a ≠ 236 → a ≠ 253 → (wNmm a k || a == 253) = false := fun a k h1 h2 => by rw [nmO a k h1]; simp [h2]
    refine ⟨by show S.1 < a.1; exact a1, mr_told1 h0 f2 (fun k hk => by simp only [nmG k hk]; rfl) (fun x k h1 h2 => wo x k (by omega) (by omega)) (by show S.1 ≤ a.1; omega) (a2.wr (by unfold wPm; simp) (Or.inl (by decide))) ((hN.fr a5 rfl rfl).wr (by decide)) (a3.wr (by decide)) hc (hDT.fr f2 (fun x k h1 h2 => wo x k (by omega) (by omega))) (hDP.fr f2 (fun x k h1 h2 => wo x k (by omega) (by omega))) ⟨?_, ?_⟩ rfl⟩
    · rw [rI_i (by decide), a5.1 _ _ (nmO _ _ (by decide))]; exact hDR.1
    · rw [rI_s]; exact a4
  refine Okv.f c27 (Okv.t (by omega) (Okv.bd ?_))
  obtain ⟨kk, k40, -, hkk⟩ := kd_vK b n S.1
  have e239 : σ.1 239 S.1 = nI kk := Int32.toInt_inj.mp (by rw [tk.1, hkk, nIt (by omega)])
  have zt : (σ.1 239 S.1 - 22).toInt = kdT b n S.1 - 22 := by
    have e22 : (22 : Int32).toInt = 22 := rfl
    rw [i32_sub (by rw [tk.1, e22]; omega), tk.1, e22]
  have bad : ∀ y1, ¬ (22 ≤ kdT b n S.1 ∧ kdT b n S.1 ≤ 25) → Okv (f_X12_tellOne_183 y1 σ) (PostM (FLM sd σc) (if 22 ≤ kdT b n S.1 ∧ kdT b n S.1 ≤ 25 then lawS (kdT b n) (vlT b n) (plI b n) (kdT b n S.1) S.1 >>= fun a => .ok (a.1, S.2.1, S.2.2.1, upLw S.2.2.2 (kdT b n S.1 - 22).toNat a.2) else if kdT b n S.1 = 26 then oneS (kdT b n) (vlT b n) (plI b n) 26 99 S.1 S.2.2.1 >>= fun a => .ok (a.1, S.2.1, a.2.2, (S.2.2.2.1, (a.2.1, S.2.2.2.2.1.2), S.2.2.2.2.2)) else if kdT b n S.1 = 27 then oneS (kdT b n) (vlT b n) (plI b n) 27 9999 S.1 S.2.2.1 >>= fun a => .ok (a.1, S.2.1, a.2.2, (S.2.2.2.1, (S.2.2.2.2.1.1, a.2.1), S.2.2.2.2.2)) else .error (1, plI b n S.1)) (fun S1 s => S.1 < S1.1 ∧ TMs b n sd σc S1 s)) := by
    intro y1 hn
    rw [if_neg hn, if_neg c26, if_neg c27]
    unfold f_X12_tellOne_183 f_X12_tellOne_188
    exact Okv.cv (mr_fail (x := 1) hT hR (by decide)) (fun s1 hF => Okv.t (by rw [hF.1]; exact hF.2.1) (Okv.ret hF))
  refine Okv.i (fun e1 => bad _ (by rw [zt] at e1; omega)) (fun e1 => Okv.t (by omega) (Okv.i (fun e2 => bad _ (by omega)) (fun e2 => ?_)))
  rw [zt] at e1
  rw [if_pos (show 22 ≤ kdT b n S.1 ∧ kdT b n S.1 ≤ 25 by omega)]
  have ek : ((22 + (kk - 22) : Nat) : Int) = kdT b n S.1 := by rw [hkk]; omega
  have ez : σ.1 239 S.1 - 22 = nI (kk - 22) := by rw [e239]; exact nI_sub (a := 22) (b := kk) (by omega) (by omega)
  have en : (kdT b n S.1 - 22).toNat = kk - 22 := by rw [hkk]; omega
  rw [ez, en]
  refine PostM.map (mr_law (k := kk - 22) hT hsd hp1 hq1 (by omega) hside hR ek.symm e33 e39 e12 (by omega) (by omega)) (fun a s2 _ h2 => ?_)
  obtain ⟨a1, a2, a3, a4, a5, a6, a7, a8, q', a9, a10, a11, a12⟩ := h2
  have wo : ∀ a k, a < 254 → a ≠ 236 → wLw2 sd (kk - 22) p q a k = false := fun a k h1 h2 => by unfold wLw2 wLm wXm; simp; omega
  refine ⟨_, rfl, a1, a2, hN.fr a8 (by unfold wLw2 wLm wXm; simp) rfl, ?_, hc, hDT.fr a8 (fun x k h1 h2 => wo x k (by omega) (by omega)), hDP.fr a8 (fun x k h1 h2 => wo x k (by omega) (by omega)), hDR.fr a8 (fun x k h1 h2 => wo x k (by omega) (by omega)), ⟨p + a.2.1.length + 1, q', a3, by omega, a5, a9, by omega, a11, ?_⟩, a4, ?_⟩
  · have ht1 := a2.2.1
    refine ⟨by show (s2.1 236 15).toInt = S.2.2.1.1; rw [a8.1 236 15 (by unfold wLw2 wLm wXm; simp)]; exact hL.1, fun e => ?_⟩
    have e : S.2.2.1.1 ≠ 0 := e
    have hlt := hL.2 e
    refine ⟨by show (s2.1 236 16).toInt = S.2.2.1.2; rw [a8.1 236 16 (by unfold wLw2 wLm wXm; simp)]; exact hlt.1, ?_⟩
    show S.2.2.1.2 < plI b n a.1
    have up : ∀ d, S.1 + d ≤ a.1 → plI b n S.1 ≤ plI b n (S.1 + d) := by
      intro d
      induction d with
      | zero => intro _; exact Int.le_refl _
      | succ d ih =>
        intro hd
        have := ih (by omega)
        have := pl_lt (b := b) (n := n) (t := S.1 + d) (a2.2.2.1 (S.1 + d) (by omega))
        show plI b n S.1 ≤ plI b n (S.1 + d + 1)
        omega
    have := up (a.1 - S.1) (by omega)
    rw [show S.1 + (a.1 - S.1) = a.1 by omega] at this
    omega
  · intro k hk
    show LOm sd s2 q' (p + a.2.1.length + 1) k (if k = kk - 22 then some a.2 else S.2.2.2.2.2 k)
    by_cases c : k = kk - 22
    · rw [if_pos c]
      subst c
      exact ⟨p, a6, a7, hp1, by omega, a12.lo (by omega)⟩
    · rw [if_neg c]
      refine (hDL k hk).mono (by omega) (by omega) (fun x h1 h2 => ?_) (fun x j h1 h2 h3 => ?_) (fun x j h1 h2 h3 h4 => ?_)
      · exact a8.1 _ _ (by unfold wLw2 wLm wXm; simp; omega)
      · exact a8.1 _ _ (by unfold wLw2 wLm wXm; simp; omega)
      · exact a8.1 _ _ (by unfold wLw2 wLm wXm; simp; omega)
  · rw [a8.1 236 19 (by unfold wLw2 wLm wXm; simp)]; exact hside
end MST
/-! readings of the same bytes are alike -/
section CGR
variable {b b' : Nat → Int32} {n : Nat}
theorem rnF_cg {p : Int32 → Bool} (h : ∀ i, i < n → b i = b' i) : ∀ f i, i + f ≤ n → rnF p b f i = rnF p b' f i := by
  intro f
  induction f with
  | zero => intro i _; rfl
  | succ f ih =>
    intro i hi
    show (if p (b i) = true then rnF p b f (i + 1) else i) = (if p (b' i) = true then rnF p b' f (i + 1) else i)
    rw [h i (by omega), ih (i + 1) (by omega)]
theorem rn_cg {p : Int32 → Bool} (h : ∀ i, i < n → b i = b' i) {i : Nat} : rn p b n i = rn p b' n i := by
  unfold rn
  by_cases c : i ≤ n
  · exact rnF_cg h _ _ (by omega)
  · rw [show n - i = 0 by omega]; rfl
theorem wv_cg (h : ∀ i, i < n → b i = b' i) {i : Nat} : ∀ m, i + m ≤ n → wv b i m = wv b' i m := by
  intro m
  induction m with
  | zero => intro _; rfl
  | succ m ih =>
    intro hm
    show 27 * wv b i m + ((b (i + m) - 97) + 1).toInt64 = 27 * wv b' i m + ((b' (i + m) - 97) + 1).toInt64
    rw [ih (by omega), h (i + m) (by omega)]
theorem iv_cg (h : ∀ i, i < n → b i = b' i) {i : Nat} : ∀ m, i + m ≤ n → iv b i m = iv b' i m := by
  intro m
  induction m with
  | zero => intro _; rfl
  | succ m ih =>
    intro hm
    show 10 * iv b i m + ((b (i + m)).toInt - 48) = 10 * iv b' i m + ((b' (i + m)).toInt - 48)
    rw [ih (by omega), h (i + m) (by omega)]
theorem rn_m {p : Int32 → Bool} {i : Nat} : rn p b' n i - i = 0 ∨ i + (rn p b' n i - i) ≤ n := by
  by_cases c : n ≤ i
  · rw [rn_out (Or.inl c)]; omega
  · have := (rn_le (p := p) (b := b') (n := n) (i := i))
    omega
theorem wv_rg (h : ∀ i, i < n → b i = b' i) {p : Int32 → Bool} {i : Nat} : wv b i (rn p b n i - i) = wv b' i (rn p b' n i - i) := by
  rw [rn_cg h]
  rcases rn_m (b' := b') (n := n) (p := p) (i := i) with c | c
  · rw [c]; rfl
  · exact wv_cg h _ c
theorem ivb_rg (h : ∀ i, i < n → b i = b' i) {p : Int32 → Bool} {i : Nat} : iv b i (rn p b n i - i) = iv b' i (rn p b' n i - i) := by
  rw [rn_cg h]
  rcases rn_m (b' := b') (n := n) (p := p) (i := i) with c | c
  · rw [c]; rfl
  · exact iv_cg h _ c
theorem tkK_cg (h : ∀ i, i < n → b i = b' i) {i : Nat} : tkK b n i = tkK b' n i := by
  unfold tkK
  by_cases c : n ≤ i
  · rw [if_pos c, if_pos c]
  · rw [if_neg c, if_neg c, h i (by omega), rn_cg h, rn_cg h, ← rn_cg (p := isLt) h, wv_rg h, rn_cg h]
theorem tkE_cg (h : ∀ i, i < n → b i = b' i) {i : Nat} : tkE b n i = tkE b' n i := by
  unfold tkE
  by_cases c : n ≤ i
  · rw [if_pos c, if_pos c]
  · rw [if_neg c, if_neg c, h i (by omega), rn_cg h, rn_cg h]
theorem plT_cg (h : ∀ i, i < n → b i = b' i) : ∀ j, plT b n j = plT b' n j := by
  intro j
  induction j with
  | zero => exact rn_cg h
  | succ j ih =>
    show rn isBl b n (tkE b n (plT b n j)) = rn isBl b' n (tkE b' n (plT b' n j))
    rw [ih, tkE_cg h, rn_cg h]
theorem readS_cg (h : ∀ i, i < n → b i = b' i) : readS (kdT b n) (vlT b n) (plI b n) (nmT b n) = readS (kdT b' n) (vlT b' n) (plI b' n) (nmT b' n) := by
  have e1 : kdT b n = kdT b' n := funext fun j => by unfold kdT; rw [plT_cg h, tkK_cg h]
  have e2 : vlT b n = vlT b' n := funext fun j => by unfold vlT; rw [plT_cg h, ivb_rg h]
  have e3 : plI b n = plI b' n := funext fun j => by unfold plI; rw [plT_cg h]
  have e4 : nmT b n = nmT b' n := funext fun j => by unfold nmT; rw [plT_cg h, wv_rg h]
  rw [e1, e2, e3, e4]
end CGR
/-! the reference begins anew -/
section MBG
variable {b : Nat → Int32} {n sd : Nat} {σc σ s : HS}
def w267 (a _k : Nat) : Bool := a == 267
def wBg (a k : Nat) : Bool := a == 267 || (a == 236 && (k == 49 || k == 50))
/-- the row that a text begins with -/
def rowB (s : HS) (sd nT nP i : Nat) : Int32 := if i = 28 then -1 else if i = 26 then (if 0 < nP then 0 else -2) else if 7 ≤ i ∧ i < 7 + nT then s.1 248 (7 * sd + (i - 7)) else 0
theorem w267_B {a k : Nat} (h : wBg a k = false) : w267 a k = false := by
  unfold wBg at h
  simp only [Bool.or_eq_false_iff] at h
  exact h.1
theorem z7m : ∀ z, z < 2 → (7 : Int32) * nI z = nI (7 * z) := by decide +kernel
theorem mr_bg2 {Q : HS → Prop} (k1 : ∀ s2, frm w267 wl0 σ s2 → (∀ i, i < 29 → s2.1 267 i = 0) → Okv (f_X12_begins_23 5000 0 s2) Q) : ∀ (d k N : Nat) (s : HS), k + d = 29 → d < N → frm w267 wl0 σ s → (∀ i, i < k → s.1 267 i = 0) → Okv (f_X12_begins_2 N (nI k) s) Q := by
  intro d
  induction d with
  | zero =>
    intro k N s hk hN hf hz
    obtain ⟨N, rfl⟩ : ∃ q, N = q + 1 := ⟨N - 1, by omega⟩
    show Okv (b_X12_begins_2 (f_X12_begins_2 N) (nI k) s) _
    unfold b_X12_begins_2
    rw [nIt (by omega)]
    exact Okv.f (by omega) (k1 s hf (fun i hi => hz i (by omega)))
  | succ d ih =>
    intro k N s hk hN hf hz
    obtain ⟨N, rfl⟩ : ∃ q, N = q + 1 := ⟨N - 1, by omega⟩
    show Okv (b_X12_begins_2 (f_X12_begins_2 N) (nI k) s) _
    unfold b_X12_begins_2
    rw [nIt (by omega), Int.toNat_natCast]
    refine Okv.t (by omega) (Okv.t (by omega) (Okv.bd (Okv.bd ?_)))
    rw [nI_1]
    refine ih (k + 1) N _ (by omega) (by omega) (hf.I rfl) (fun i hi => ?_)
    by_cases c : i = k
    · rw [c, rI_s]
    · rw [rI_k c]; exact hz i (by omega)
theorem mr_bg23 {nT nP : Nat} (hsd : sd ≤ 1) (h7 : nT ≤ 7) (h5 : nP ≤ 5) (e18 : σ.1 236 18 = nI sd) (e245 : σ.1 245 sd = nI nT) (e249 : σ.1 249 sd = nI nP) : ∀ (d k N : Nat) (s : HS), k + d = nT → d < N → frm w267 wl0 σ s → (∀ i, i < 29 → s.1 267 i = (if 7 ≤ i ∧ i < 7 + k then σ.1 248 (7 * sd + (i - 7)) else 0)) → Okv (f_X12_begins_23 N (nI k) s) (fun s1 => frm wBg wl0 σ s1 ∧ s1.1 236 49 = σ.1 253 sd ∧ s1.1 236 50 = 0 ∧ ∀ i, i < 29 → s1.1 267 i = rowB σ sd nT nP i) := by
  have fo : ∀ {s : HS} {a k : Nat}, frm w267 wl0 σ s → a ≠ 267 → s.1 a k = σ.1 a k := fun hf ha => hf.1 _ _ (by unfold w267; simp [ha])
  intro d
  induction d with
  | zero =>
    intro k N s hk hN hf hz
    obtain ⟨N, rfl⟩ : ∃ q, N = q + 1 := ⟨N - 1, by omega⟩
    obtain rfl : k = nT := by omega
    show Okv (b_X12_begins_23 (f_X12_begins_23 N) (nI k) s) _
    unfold b_X12_begins_23
    rw [fo (a := 236) hf (by decide), e18, nIt (by omega), Int.toNat_natCast, fo (a := 245) hf (by decide), e245, fo (a := 249) hf (by decide), e249, nIt (by omega), nIt (by omega)]
    have fin : ∀ v : Int32, v = (if 0 < nP then 0 else -2) → Okv (f_X12_begins_89 v 26 s) (fun s1 => frm wBg wl0 σ s1 ∧ s1.1 236 49 = σ.1 253 sd ∧ s1.1 236 50 = 0 ∧ ∀ i, i < 29 → s1.1 267 i = rowB σ sd k nP i) := by
      intro v hv
      unfold f_X12_begins_89
      refine Okv.t (by decide) (Okv.bd (Okv.bd ?_))
      rw [rI_i (show (236 : Nat) ≠ 267 by decide), rI_i (show (236 : Nat) ≠ 267 by decide), fo (a := 236) hf (by decide), e18, nIt (by omega), Int.toNat_natCast]
      refine Okv.t (by omega) (Okv.bd (Okv.bd (Okv.ret ⟨?_, ?_, ?_, fun i hi => ?_⟩)))
      · exact ((((hf.mono (fun _ _ => w267_B) (fun _ e => e)).I rfl).I rfl).I rfl).I rfl
      · rw [rI_k (by decide), rI_s, rI_i (by decide), rI_i (by decide), fo (a := 253) hf (by decide)]
      · rw [rI_s]
      · rw [rI_i (by decide), rI_i (by decide)]
        unfold rowB
        by_cases c28 : i = 28
        · rw [if_pos c28, c28, rI_s]
        · rw [if_neg c28, rI_k c28]
          by_cases c26 : i = 26
          · rw [if_pos c26, c26]
            exact rI_s.trans hv
          · rw [if_neg c26]
            exact (rI_k c26).trans (hz i hi)
    refine Okv.t (by omega) (Okv.f (by omega) (Okv.t (by omega) (Okv.i (fun c => fin 0 (by rw [if_pos (by omega)])) (fun c => fin (-2) (by rw [if_neg (by omega)])))))
  | succ d ih =>
    intro k N s hk hN hf hz
    obtain ⟨N, rfl⟩ : ∃ q, N = q + 1 := ⟨N - 1, by omega⟩
    show Okv (b_X12_begins_23 (f_X12_begins_23 N) (nI k) s) _
    unfold b_X12_begins_23
    rw [fo (a := 236) hf (by decide), e18, nIt (by omega), Int.toNat_natCast, fo (a := 245) hf (by decide), e245, nIt (by omega), nIt (by omega), z7m sd (by omega), nI_add, show (7 : Int32) + nI k = nI (7 + k) from nI_add (a := 7) (b := k), nIt (by omega), nIt (by omega), Int.toNat_natCast, Int.toNat_natCast]
    refine Okv.t (by omega) (Okv.t (by omega) (Okv.t (by omega) (Okv.t (by omega) (Okv.bd (Okv.bd ?_)))))
    rw [nI_1, fo (a := 248) hf (by decide)]
    refine ih (k + 1) N _ (by omega) (by omega) (hf.I rfl) (fun i hi => ?_)
    by_cases c : i = 7 + k
    · rw [c, rI_s, if_pos (by omega), show 7 + k - 7 = k by omega]
    · rw [rI_k c, hz i hi]
      by_cases c2 : 7 ≤ i ∧ i < 7 + k
      · rw [if_pos c2, if_pos (by omega)]
      · rw [if_neg c2, if_neg (by omega)]
theorem mr_begins {nT nP : Nat} (hsd : sd ≤ 1) (h7 : nT ≤ 7) (h5 : nP ≤ 5) (e18 : σ.1 236 18 = nI sd) (e245 : σ.1 245 sd = nI nT) (e249 : σ.1 249 sd = nI nP) : Okv (f_X12_begins σ) (fun s1 => frm wBg wl0 σ s1 ∧ s1.1 236 49 = σ.1 253 sd ∧ s1.1 236 50 = 0 ∧ ∀ i, i < 29 → s1.1 267 i = rowB σ sd nT nP i) := by
  unfold f_X12_begins
  rw [nI0]
  refine mr_bg2 (σ := σ) (fun s2 hf hz => ?_) 29 0 5000 σ (by omega) (by omega) frm.rf (fun i hi => absurd hi (by omega))
  rw [nI0]
  exact mr_bg23 hsd h7 h5 e18 e245 e249 nT 0 5000 s2 (by omega) (by omega) hf (fun i hi => by rw [hz i hi, if_neg (by omega)])
def w266 (a _k : Nat) : Bool := a == 266
theorem mr_keepsRow : ∀ (d k N : Nat) (s : HS), k + d = 29 → d < N → frm w266 wl0 σ s → (∀ i, i < k → s.1 266 i = σ.1 267 i) → Okv (f_X12_keepsRow_2 N (nI k) s) (fun s1 => frm w266 wl0 σ s1 ∧ ∀ i, i < 29 → s1.1 266 i = σ.1 267 i) := by
  intro d
  induction d with
  | zero =>
    intro k N s hk hN hf hz
    obtain ⟨N, rfl⟩ : ∃ q, N = q + 1 := ⟨N - 1, by omega⟩
    show Okv (b_X12_keepsRow_2 (f_X12_keepsRow_2 N) (nI k) s) _
    unfold b_X12_keepsRow_2
    rw [nIt (by omega)]
    exact Okv.f (by omega) (Okv.ret ⟨hf, fun i hi => hz i (by omega)⟩)
  | succ d ih =>
    intro k N s hk hN hf hz
    obtain ⟨N, rfl⟩ : ∃ q, N = q + 1 := ⟨N - 1, by omega⟩
    show Okv (b_X12_keepsRow_2 (f_X12_keepsRow_2 N) (nI k) s) _
    unfold b_X12_keepsRow_2
    rw [nIt (by omega), Int.toNat_natCast]
    refine Okv.t (by omega) (Okv.t (by omega) (Okv.t (by omega) (Okv.bd (Okv.bd ?_))))
    rw [nI_1, hf.1 267 k (by rfl)]
    refine ih (k + 1) N _ (by omega) (by omega) (hf.I rfl) (fun i hi => ?_)
    by_cases c : i = k
    · rw [c, rI_s]
    · rw [rI_k c]; exact hz i (by omega)
def w275 (a _k : Nat) : Bool := a == 275
theorem mr_r219 : ∀ (d k N : Nat) (s : HS), k + d = 3 → d < N → frm w275 wl0 σ s → (∀ i, i < k → s.1 275 i = 0) → Ok (f_X12_read_219 N (nI k) s) (fun r s1 => r = 0 ∧ frm w275 wl0 σ s1 ∧ ∀ i, i < 3 → s1.1 275 i = 0) := by
  intro d
  induction d with
  | zero =>
    intro k N s hk hN hf hz
    obtain ⟨N, rfl⟩ : ∃ q, N = q + 1 := ⟨N - 1, by omega⟩
    show Ok (b_X12_read_219 (f_X12_read_219 N) (nI k) s) _
    unfold b_X12_read_219
    rw [nIt (by omega)]
    exact Ok.f (by omega) (Ok.ret ⟨rfl, hf, fun i hi => hz i (by omega)⟩)
  | succ d ih =>
    intro k N s hk hN hf hz
    obtain ⟨N, rfl⟩ : ∃ q, N = q + 1 := ⟨N - 1, by omega⟩
    show Ok (b_X12_read_219 (f_X12_read_219 N) (nI k) s) _
    unfold b_X12_read_219
    rw [nIt (by omega), Int.toNat_natCast]
    refine Ok.t (by omega) (Ok.t (by omega) (Ok.bd (Ok.bd ?_)))
    rw [nI_1]
    refine ih (k + 1) N _ (by omega) (by omega) (hf.I rfl) (fun i hi => ?_)
    by_cases c : i = k
    · rw [c, rI_s]
    · rw [rI_k c]; exact hz i (by omega)
end MBG
/-! later faults are told by numbers from 0 on -/
section OKL
variable {kd vl pl : Nat → Int} {nm : Nat → Int64}
def okG {α : Type} (g : α → FA) (x : Except FA α) : Prop := ∀ a, x = .ok a → 0 ≤ (g a).1
theorem okG.err {α : Type} {g : α → FA} {e : FA} : okG g (.error e) := fun a h => by cases h
theorem okG.ok {α : Type} {g : α → FA} {a : α} (h : 0 ≤ (g a).1) : okG g (.ok a) := fun a1 h1 => by cases h1; exact h
theorem okG.b {α β : Type} {f : α → FA} {g : β → FA} {x : Except FA α} {y : α → Except FA β} (h : okG f x) (k : ∀ a, 0 ≤ (f a).1 → okG g (y a)) : okG g (x >>= y) := by
  cases x with
  | error e => exact okG.err
  | ok a => exact k a (h a rfl)
theorem okG.b0 {α β : Type} {g : β → FA} {x : Except FA α} {y : α → Except FA β} (k : ∀ a, okG g (y a)) : okG g (x >>= y) := by
  cases x with
  | error e => exact okG.err
  | ok a => exact k a
theorem okG.ite {α : Type} {g : α → FA} {P : Prop} {dP : Decidable P} {x y : Except FA α} (h1 : okG g x) (h2 : okG g y) : okG g (if P then x else y) := by
  by_cases c : P
  · rw [if_pos c]; exact h1
  · rw [if_neg c]; exact h2
theorem ltS_ge {t : Nat} {k : Int} {q : FA} (hk : 0 ≤ k) (h : 0 ≤ q.1) : 0 ≤ (ltS pl t k q).1 := by
  unfold ltS
  by_cases c : q.1 = 0
  · rw [if_pos c]; exact hk
  · rw [if_neg c]; exact h
theorem okG_num {a c : Int} {t : Nat} {lt : FA} (h : 0 ≤ lt.1) : okG (fun a : Nat × Int × FA => a.2.2) (numS kd vl pl a c t lt) := okG.b0 (fun t1 => okG.ok (by
  show 0 ≤ (if vl t < a ∨ c < vl t then ltS pl t 5 lt else lt).1
  by_cases e : vl t < a ∨ c < vl t
  · rw [if_pos e]; exact ltS_ge (by decide) h
  · rw [if_neg e]; exact h))
theorem okG_name {t nc : Nat} {ns : Nat → Int64} {lt : FA} (h : 0 ≤ lt.1) : okG (fun a : Nat × FA => a.2) (nameS kd pl nm t nc ns lt) := okG.b0 (fun t1 => okG.ok (by
  show 0 ≤ (if hasN nc ns (nm t) = true then ltS pl t 3 lt else lt).1
  by_cases e : hasN nc ns (nm t) = true
  · rw [if_pos e]; exact ltS_ge (by decide) h
  · rw [if_neg e]; exact h))
theorem okG_thing {nT t nc : Nat} {ns : Nat → Int64} {lt : FA} (h : 0 ≤ lt.1) : okG (fun a : Nat × (Int × Int × Int) × FA => a.2.2) (thingS kd vl pl nm nT t nc ns lt) := okG.ite (okG.b0 (fun _ => (okG_name h).b (fun _ h => (okG_num h).b (fun _ h => (okG_num h).b (fun _ h => (okG_num h).b (fun _ h => okG.b0 (fun _ => okG.ok h))))))) okG.err
theorem okG_hts : ∀ (m k : Nat) (hs : Nat → Int) (t : Nat) (lt : FA), 0 ≤ lt.1 → okG (fun a : Nat × Nat × (Nat → Int) × FA => a.2.2.2) (htsS kd vl pl k hs t lt m) := by
  intro m
  induction m with
  | zero => intro k hs t lt h; exact okG.ite okG.err (okG.b0 (fun _ => okG.ok h))
  | succ m ih => intro k hs t lt h; exact okG.ite ((okG_num h).b (fun _ h => ih _ _ _ _ h)) (okG.b0 (fun _ => okG.ok h))
theorem okG_pat {nP t nc : Nat} {ns : Nat → Int64} {lt : FA} (h : 0 ≤ lt.1) : okG (fun a : Nat × Nat × (Nat → Int) × FA => a.2.2.2) (patS kd vl pl nm nP t nc ns lt) := okG.ite (okG.b0 (fun _ => (okG_name h).b (fun _ h => (okG_num h).b (fun _ h => okG_hts _ _ _ _ _ h)))) okG.err
theorem okG_one {k most : Int} {t : Nat} {lt : FA} (h : 0 ≤ lt.1) : okG (fun a : Nat × Int × FA => a.2.2) (oneS kd vl pl k most t lt) := okG.b0 (fun _ => (okG_num h).b (fun _ h => okG.b0 (fun _ => okG.ok h)))
def pLt (S : PST) : FA := S.2.2.1
theorem okG_tell {S : PST} (h : 0 ≤ S.2.2.1.1) : okG pLt (tellS kd vl pl nm S) := okG.ite ((okG_thing h).b (fun _ h => okG.ok h)) (okG.ite ((okG_pat h).b (fun _ h => okG.ok h)) (okG.ite (okG.b0 (fun _ => okG.ok h)) (okG.ite ((okG_one h).b (fun _ h => okG.ok h)) (okG.ite ((okG_one h).b (fun _ h => okG.ok h)) okG.err))))
end OKL
/-! the reference's reading -/
section MRD
variable {b : Nat → Int32} {n sd : Nat} {σc σ s : HS}
def wRd0 (sd a k : Nat) : Bool := wPm sd a k || (a == 236 && k == 17)
def wRd1 (sd a k : Nat) : Bool := wPm sd a k || (a == 236 && (k == 17 || k == 18 || k == 49 || k == 50 || k == 54 || k == 60)) || a == 266 || a == 267 || a == 275
/-- the reference has begun anew, with the text of the half sd -/
def ACm (sd : Nat) (s : HS) : Prop := s.1 236 18 = nI sd ∧ s.1 236 49 = s.1 253 sd ∧ s.1 236 50 = 0 ∧ s.1 236 54 = 0 ∧ s.1 236 60 = 0 ∧ (∀ i, i < 3 → s.1 275 i = 0) ∧ ∀ i, i < 29 → s.1 267 i = rowB s sd (s.1 245 sd).toInt.toNat (s.1 249 sd).toInt.toNat i ∧ s.1 266 i = rowB s sd (s.1 245 sd).toInt.toNat (s.1 249 sd).toInt.toNat i
/-- what the reference's reading leaves: the answer, the place; the text, where there is no fault -/
def RDm (sd : Nat) (σ0 : HS) (x : Except FA PST) (r : Int32) (s : HS) : Prop := r.toInt = (resS x).1 ∧ (s.1 236 17).toInt = (resS x).2 ∧ (r.toInt ≠ 0 → frm (wRd0 sd) wlPm σ0 s) ∧ (r.toInt = 0 → frm (wRd1 sd) wlPm σ0 s ∧ ACm sd s ∧ ∃ S : PST, x = .ok S ∧ S.2.2.1.1 = 0 ∧ DTm sd s S.2.2.2.1.1 ∧ DPm sd s S.2.2.2.1.2 ∧ DRm sd s S.2.2.2.2.1 ∧ ∃ p q, p ≤ 130 * sd + 130 ∧ q ≤ 420 * sd + 420 ∧ DLm sd s q p S.2.2.2.2.2)
theorem mr_ref {v : Int32} {Q : Int32 → HS → Prop} (h : 0 < (σ.1 236 13).toInt) (k : Q (σ.1 236 13) (hI σ 236 17 v)) : Ok (f_X12_read_164 v σ) Q := by
  unfold f_X12_read_164
  refine Ok.bd ?_
  rw [rI_k (show (13 : Nat) ≠ 17 by decide)]
  exact Ok.t h (Ok.ret k)
theorem mr_134_f {e : FA} (h : FLM sd σc e σ) : Ok (f_X12_read_134 σ) (RDm sd σc (.error e)) := by
  unfold f_X12_read_134
  refine Ok.t (by rw [h.1]; exact h.2.1) ?_
  have h2 := h.2.1
  refine mr_ref (by rw [h.1]; exact h.2.1) ⟨h.1, ?_, fun _ => ?_, fun e0 => ?_⟩
  · rw [rI_s]; exact h.2.2.1
  · exact (h.2.2.2.1.mono (fun a k e => by unfold wRd0 at e; simp only [Bool.or_eq_false_iff] at e; exact e.1) (fun _ e => e)).I (by unfold wRd0; simp)
  · rw [h.1] at e0; omega
theorem mr_134 {S : PST} (hsd : sd ≤ 1) (hlt : 0 ≤ S.2.2.1.1) (h : TMs b n sd σc S σ) : Ok (f_X12_read_134 σ) (RDm sd σc (.ok S)) := by
  obtain ⟨hR, hN, hL, hc, hDT, hDP, hDR, ⟨p, q, e33, hp1, hp2, e39, hq1, hq2, hDL⟩, e12, hside⟩ := h
  have ht := hR.2.1
  have f0 : frm (wRd0 sd) wlPm σc σ := hR.1.mono (fun a k e => by unfold wRd0 at e; simp only [Bool.or_eq_false_iff] at e; exact e.1) (fun _ e => e)
  unfold f_X12_read_134
  refine Ok.f (by rw [hR.2.2.2.2]; omega) ?_
  by_cases c : S.2.2.1.1 = 0
  · have er : resS (.ok S) = (0, -1) := if_pos c
    refine Ok.f (by rw [hL.1]; omega) ?_
    unfold f_X12_read_164
    refine Ok.bd (Ok.f ?_ (Ok.f ?_ (Ok.bd ?_)))
    · rw [rI_k (by decide), hR.2.2.2.2]; omega
    · rw [rI_k (by decide), hL.1]; omega
    rw [rI_k (show (19 : Nat) ≠ 17 by decide), hside]
    generalize hs2 : hI (hI σ 236 17 (-1)) 236 18 (nI sd) = s2
    have g2 : ∀ a k, a ≠ 236 → s2.1 a k = σ.1 a k := fun a k ha => by rw [← hs2, rI_i ha, rI_i ha]
    have F2 : frm (wRd1 sd) wlPm σc s2 := by
      rw [← hs2]
      exact ((hR.1.mono (fun a k e => by unfold wRd1 at e; simp only [Bool.or_eq_false_iff] at e; exact e.1.1.1.1) (fun _ e => e)).I (by unfold wRd1; simp)).I (by unfold wRd1; simp)
    refine Ok.cv (mr_begins (σ := s2) (sd := sd) (nT := S.2.2.2.1.1.1) (nP := S.2.2.2.1.2.1) hsd hDT.2.1 hDP.2.1 (by rw [← hs2, rI_s]) (by rw [g2 _ _ (by decide)]; exact hDT.1) (by rw [g2 _ _ (by decide)]; exact hDP.1)) (fun s3 h3 => ?_)
    obtain ⟨f3, e49, e50, erow⟩ := h3
    have o3 : ∀ a k, a ≠ 236 → a ≠ 267 → s3.1 a k = s2.1 a k := fun a k h1 h2 => f3.1 _ _ (by unfold wBg; simp [h1, h2])
    unfold f_X12_keepsRow
    have k0 := mr_keepsRow (σ := s3) 29 0 5000 s3 (by omega) (by omega) frm.rf (fun i hi => absurd hi (by omega))
    refine Ok.cv k0 (fun s5 h5 => Ok.bd (Ok.bd ?_))
    obtain ⟨f5, e5⟩ := h5
    generalize hs8 : hI (hI s5 236 54 0) 236 60 0 = s8
    have g8 : ∀ a k, a ≠ 236 → s8.1 a k = s5.1 a k := fun a k ha => by rw [← hs8, rI_i ha, rI_i ha]
    have q8 : ∀ k, k ≠ 54 → k ≠ 60 → s8.1 236 k = s5.1 236 k := fun k h1 h2 => by rw [← hs8, rI_k h2, rI_k h1]
    rw [nI0]
    refine (mr_r219 (σ := s8) 3 0 5000 s8 (by omega) (by omega) frm.rf (fun i hi => absurd hi (by omega))).mono (fun r s9 h9 => ?_)
    obtain ⟨rfl, f9, e9⟩ := h9
    have o9 : ∀ a k, a ≠ 275 → s9.1 a k = s8.1 a k := fun a k h1 => f9.1 _ _ (by unfold w275; simp [h1])
    have o5 : ∀ a k, a ≠ 266 → s5.1 a k = s3.1 a k := fun a k h1 => f5.1 _ _ (by unfold w266; simp [h1])
    have al : ∀ a k, a ≠ 236 → a ≠ 266 → a ≠ 267 → a ≠ 275 → s9.1 a k = σ.1 a k := fun a k h1 h2 h3 h4 => by rw [o9 a k h4, g8 a k h1, o5 a k h2, o3 a k h1 h3, g2 a k h1]
    have a36 : ∀ k, k ≠ 54 → k ≠ 60 → k ≠ 49 → k ≠ 50 → s9.1 236 k = s2.1 236 k := fun k h1 h2 h3 h4 => by
      rw [o9 _ _ (by decide), q8 k h1 h2, o5 _ _ (by decide), f3.1 _ _ (by unfold wBg; simp [h3, h4])]
    have frAll : frm (fun a _ => a == 236 || a == 266 || a == 267 || a == 275) wl0 σ s9 := ⟨fun a k e => by
      simp only [Bool.or_eq_false_iff, beq_eq_false_iff_ne, ne_eq] at e
      exact al a k e.1.1.1 e.1.1.2 e.1.2 e.2, fun a _ => by
        rw [f9.2.1 a rfl, ← hs8]
        show s5.2.1 a = _
        rw [f5.2.1 a rfl, f3.2.1 a rfl, ← hs2]; rfl, by
        rw [f9.2.2, ← hs8]
        show s5.2.2 = _
        rw [f5.2.2, f3.2.2, ← hs2]; rfl⟩
    have e245 : s9.1 245 sd = nI S.2.2.2.1.1.1 := by rw [al _ _ (by decide) (by decide) (by decide) (by decide)]; exact hDT.1
    have e249 : s9.1 249 sd = nI S.2.2.2.1.2.1 := by rw [al _ _ (by decide) (by decide) (by decide) (by decide)]; exact hDP.1
    have rb : ∀ i, rowB s9 sd S.2.2.2.1.1.1 S.2.2.2.1.2.1 i = rowB s2 sd S.2.2.2.1.1.1 S.2.2.2.1.2.1 i := fun i => by
      unfold rowB
      rw [al 248 _ (by decide) (by decide) (by decide) (by decide), g2 248 _ (by decide)]
    have wo : ∀ (a k : Nat), 245 ≤ a → a ≤ 262 → (a == 236 || a == 266 || a == 267 || a == 275) = false := fun a _ h1 h2 => by simp; omega
    have h7 := hDT.2.1
    have h5 := hDP.2.1
    refine ⟨by rw [er]; rfl, ?_, fun h0 => absurd rfl h0, fun _ => ⟨?_, ⟨?_, ?_, ?_, ?_, ?_, e9, fun i hi => ?_⟩, S, rfl, c, hDT.fr frAll (fun a k h1 h2 => wo a k (by omega) (by omega)), hDP.fr frAll (fun a k h1 h2 => wo a k (by omega) (by omega)), hDR.fr frAll (fun a k h1 h2 => wo a k (by omega) (by omega)), p, q, by omega, by omega, hDL.fr frAll (fun a k h1 h2 => wo a k (by omega) (by omega))⟩⟩
    · rw [er, a36 17 (by decide) (by decide) (by decide) (by decide), ← hs2, rI_k (by decide), rI_s]; rfl
    · refine ((F2.tr (f3.mono (fun a k e => ?_) (fun _ _ => rfl))).tr (f5.mono (fun a k e => ?_) (fun _ _ => rfl))).tr ((?_ : frm (wRd1 sd) wlPm s5 s8).tr (f9.mono (fun a k e => ?_) (fun _ _ => rfl)))
      · unfold wRd1 at e
        unfold wBg
        simp only [Bool.or_eq_false_iff] at e ⊢
        refine ⟨e.1.2, ?_⟩
        have e := e.1.1.1.2
        cases c : (a == 236) with
        | false => rfl
        | true => rw [c] at e; simp at e ⊢; omega
      · unfold wRd1 at e
        simp only [Bool.or_eq_false_iff] at e
        exact e.1.1.2
      · rw [← hs8]
        exact (frm.rf.I (by unfold wRd1; simp)).I (by unfold wRd1; simp)
      · unfold wRd1 at e
        simp only [Bool.or_eq_false_iff] at e
        exact e.2
    · rw [a36 18 (by decide) (by decide) (by decide) (by decide), ← hs2, rI_s]
    · rw [o9 236 49 (by decide), q8 49 (by decide) (by decide), o5 _ _ (by decide), e49, al 253 sd (by decide) (by decide) (by decide) (by decide), g2 _ _ (by decide)]
    · rw [o9 236 50 (by decide), q8 50 (by decide) (by decide), o5 _ _ (by decide), e50]
    · rw [o9 236 54 (by decide), ← hs8, rI_k (by decide), rI_s]
    · rw [o9 236 60 (by decide), ← hs8, rI_s]
    · rw [e245, e249, nIt (by omega), nIt (by omega), Int.toNat_natCast, Int.toNat_natCast, rb i, ← erow i hi]
      refine ⟨?_, ?_⟩
      · rw [o9 _ _ (by decide), g8 _ _ (by decide), o5 _ _ (by decide)]
      · rw [o9 _ _ (by decide), g8 _ _ (by decide), e5 i hi]
  · have er : resS (.ok S) = S.2.2.1 := if_neg c
    have hl2 := hL.2 c
    refine Ok.t (by rw [hL.1]; omega) ?_
    unfold f_X12_read_164
    refine Ok.bd (Ok.f ?_ (Ok.t ?_ (Ok.ret ⟨?_, ?_, fun _ => ?_, fun e0 => ?_⟩)))
    · rw [rI_k (by decide), hR.2.2.2.2]; omega
    · rw [rI_k (by decide), hL.1]; omega
    · rw [rI_k (by decide), er]; exact hL.1
    · rw [rI_s, er]; exact hl2.1
    · exact f0.I (by unfold wRd0; simp)
    · rw [rI_k (by decide), hL.1] at e0; exact absurd e0 c
theorem mr_top (hT : TKA b n σc) (hsd : sd ≤ 1) : ∀ (d N : Nat) (S : PST) (s : HS), 401 - S.1 < d → d < N → 0 ≤ S.2.2.1.1 → TMs b n sd σc S s → Ok (f_X12_read_112 N s) (RDm sd σc (topS (kdT b n) (vlT b n) (plI b n) (nmT b n) d S)) := by
  intro d
  induction d with
  | zero => intro N S s h; omega
  | succ d ih =>
    intro N S s hd hN hlt h
    obtain ⟨N, rfl⟩ : ∃ q, N = q + 1 := ⟨N - 1, by omega⟩
    have ht := h.1.2.1
    show Ok (b_X12_read_112 (f_X12_read_112 N) s) (RDm sd σc (if kdT b n S.1 = 0 then .ok S else tellS (kdT b n) (vlT b n) (plI b n) (nmT b n) S >>= fun s1 => topS (kdT b n) (vlT b n) (plI b n) (nmT b n) d s1))
    unfold b_X12_read_112
    refine Ok.t h.1.2.2.2.2 (Ok.cle (mr_is hT h.1) ?_)
    by_cases c0 : kdT b n S.1 = 0
    · rw [if_pos c0, show (decide (kdT b n S.1 = (0 : Int32).toInt)) = true from decide_eq_true c0]
      exact Ok.f (by decide) (mr_134 hsd hlt h)
    · rw [if_neg c0, show (decide (kdT b n S.1 = (0 : Int32).toInt)) = false from decide_eq_false c0]
      refine Ok.t (by decide) (Ok.cv (mr_tellOne hT hsd c0 h) (fun s1 h1 => ?_))
      have hl := okG_tell (kd := kdT b n) (vl := vlT b n) (pl := plI b n) (nm := nmT b n) hlt
      revert h1
      cases ex : tellS (kdT b n) (vlT b n) (plI b n) (nmT b n) S with
      | error e =>
        intro hF
        obtain ⟨N1, rfl⟩ : ∃ q, N = q + 1 := ⟨N - 1, by omega⟩
        show Ok (b_X12_read_112 (f_X12_read_112 N1) s1) (RDm sd σc (.error e))
        unfold b_X12_read_112
        exact Ok.f (by rw [hF.1]; have := hF.2.1; omega) (mr_134_f hF)
      | ok S1 =>
        rintro ⟨h2, h3⟩
        exact ih N S1 s1 (by omega) (by omega) (hl S1 ex) h3
end MRD
