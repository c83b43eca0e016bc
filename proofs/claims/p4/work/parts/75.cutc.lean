/-! the class's tokens -/
def stW : List Nat := [0, 6, 14, 20, 26, 32, 37, 43, 48, 51, 56, 61, 68, 73, 80, 85, 91, 94, 100, 107, 112]
def lnW : List Nat := [5, 7, 5, 5, 5, 4, 5, 4, 2, 4, 4, 6, 4, 6, 4, 5, 2, 5, 6, 4]
def sW (w : Nat) : Nat := stW.getD w 0
def lW (w : Nat) : Nat := lnW.getD w 0
theorem words : ∀ w, w < 20 → sW w + lW w < 112 ∧ (chS 0 (sW w + lW w)).toInt = 32 ∧ sW (w + 1) = sW w + lW w + 1 ∧ 1 ≤ lW w ∧ lW w ≤ 7 ∧ sW w ≤ 112 := by decide +kernel
theorem wordc : ∀ w, w < 20 → ∀ q, q < 8 → q < lW w → 97 ≤ (chS 0 (sW w + q)).toInt ∧ (chS 0 (sW w + q)).toInt ≤ 122 := by decide +kernel
/-- base 27 as an integer -/
def wvI (b : Nat → Int) (i : Nat) : Nat → Int
  | 0 => 0
  | m + 1 => 27 * wvI b i m + (b (i + m) - 96)
theorem wvI_inj {b c : Nat → Int} {i k : Nat} : ∀ (m n : Nat), (∀ q, q < m → 97 ≤ b (i + q) ∧ b (i + q) ≤ 122) → (∀ q, q < n → 97 ≤ c (k + q) ∧ c (k + q) ≤ 122) → wvI b i m = wvI c k n → m = n ∧ ∀ q, q < m → b (i + q) = c (k + q) := by
  have pos : ∀ {b : Nat → Int} {i : Nat} (m : Nat), (∀ q, q < m → 97 ≤ b (i + q) ∧ b (i + q) ≤ 122) → 0 ≤ wvI b i m ∧ (0 < m → 0 < wvI b i m) := by
    intro b i m
    induction m with
    | zero => intro _; exact ⟨Int.le_refl _, fun h => absurd h (by omega)⟩
    | succ m ih =>
      intro h
      have h1 := ih (fun q hq => h q (by omega))
      have h2 := h m (by omega)
      show 0 ≤ 27 * wvI b i m + (b (i + m) - 96) ∧ (_ → 0 < 27 * wvI b i m + (b (i + m) - 96))
      exact ⟨by omega, fun _ => by omega⟩
  intro m
  induction m with
  | zero =>
    intro n hb hc h
    cases n with
    | zero => exact ⟨rfl, fun q hq => absurd hq (by omega)⟩
    | succ n => have := (pos _ hc).2 (by omega); have h0 : wvI c k (n + 1) = 0 := h.symm; omega
  | succ m ih =>
    intro n hb hc h
    cases n with
    | zero => have := (pos _ hb).2 (by omega); have h0 : wvI b i (m + 1) = 0 := h; omega
    | succ n =>
      have h1 : 27 * wvI b i m + (b (i + m) - 96) = 27 * wvI c k n + (c (k + n) - 96) := h
      have h2 := hb m (by omega)
      have h3 := hc n (by omega)
      obtain ⟨e1, e2⟩ := ih n (fun q hq => hb q (by omega)) (fun q hq => hc q (by omega)) (by omega)
      refine ⟨by omega, fun q hq => ?_⟩
      by_cases e : q = m
      · rw [e]
        have : b (i + m) = c (k + n) := by omega
        rw [this, e1]
      · exact e2 q (by omega)
theorem wvI_bd {b : Nat → Int} {i : Nat} : ∀ (m : Nat), (∀ q, q < m → 97 ≤ b (i + q) ∧ b (i + q) ≤ 122) → 0 ≤ wvI b i m ∧ wvI b i m < 27 ^ m := by
  intro m
  induction m with
  | zero => intro _; exact ⟨Int.le_refl _, (by decide : (0 : Int) < 27 ^ 0)⟩
  | succ m ih =>
    intro h
    have h1 := ih (fun q hq => h q (by omega))
    have h2 := h m (by omega)
    show 0 ≤ 27 * wvI b i m + (b (i + m) - 96) ∧ 27 * wvI b i m + (b (i + m) - 96) < 27 ^ (m + 1)
    rw [Int.pow_succ]
    omega
theorem i64_bm {n : Int} (h : -9223372036854775808 ≤ n ∧ n ≤ 9223372036854775807) : n.bmod (2 ^ 64) = n := by
  rw [Int.bmod_eq_of_le] <;> omega
theorem wv_I {b : Nat → Int32} {i : Nat} : ∀ (m : Nat), m ≤ 8 → (∀ q, q < m → 97 ≤ (b (i + q)).toInt ∧ (b (i + q)).toInt ≤ 122) → (wv b i m).toInt = wvI (fun k => (b k).toInt) i m := by
  intro m
  induction m with
  | zero => intro _ _; rfl
  | succ m ih =>
    intro h8 h
    have h1 := ih (by omega) (fun q hq => h q (by omega))
    have h2 := h m (by omega)
    have h3 := wvI_bd (b := fun k => (b k).toInt) (i := i) m (fun q hq => h q (by omega))
    have h4 : (27 : Int) ^ m ≤ 27 ^ 7 := by
      rcases (show m = 0 ∨ m = 1 ∨ m = 2 ∨ m = 3 ∨ m = 4 ∨ m = 5 ∨ m = 6 ∨ m = 7 by omega) with rfl | rfl | rfl | rfl | rfl | rfl | rfl | rfl <;> decide
    have h5 : (27 : Int) ^ 7 = 10460353203 := by decide
    have e1 : (b (i + m) - 97).toInt = (b (i + m)).toInt - 97 := by
      rw [i32_sub (by rw [show (97 : Int32).toInt = 97 from rfl]; omega)]; rfl
    have e2 : (b (i + m) - 97 + 1).toInt = (b (i + m)).toInt - 96 := by
      rw [i32_add (by rw [e1, show (1 : Int32).toInt = 1 from rfl]; omega), e1, show (1 : Int32).toInt = 1 from rfl]; omega
    show (27 * wv b i m + ((b (i + m) - 97) + 1).toInt64).toInt = 27 * wvI (fun k => (b k).toInt) i m + ((b (i + m)).toInt - 96)
    have e3 : ((27 : Int64) * wv b i m).toInt = 27 * (wv b i m).toInt := by
      rw [Int64.toInt_mul]
      exact i64_bm (by show _ ≤ (27 : Int) * (wv b i m).toInt ∧ (27 : Int) * (wv b i m).toInt ≤ _; rw [h1]; omega)
    rw [Int64.toInt_add, e3, Int32.toInt_toInt64, e2, h1]
    exact i64_bm (by omega)
theorem keyI : ∀ w, w < 20 → wvI (fun k => (chS 0 k).toInt) (sW w) (lW w) = (keyL.getD w 0).toInt := by decide +kernel
/-- a word stands there just where its number does -/
theorem mtc {b : Nat → Int32} {f L w : Nat} (hw : w < 20) (hL : L ≤ 8) (hb : ∀ q, q < L → 97 ≤ (b (f + q)).toInt ∧ (b (f + q)).toInt ≤ 122) : keyL.getD w 0 = wv b f L ↔ (lW w = L ∧ ∀ q, q < L → (b (f + q)).toInt = (chS 0 (sW w + q)).toInt) := by
  have h1 := words w hw
  have h2 := wordc w hw
  have hc : ∀ q, q < lW w → 97 ≤ (fun k => (chS 0 k).toInt) (sW w + q) ∧ (fun k => (chS 0 k).toInt) (sW w + q) ≤ 122 := fun q hq => h2 q (by omega) hq
  have e := wv_I (b := b) (i := f) L hL hb
  constructor
  · intro h
    have h3 : (keyL.getD w 0).toInt = (wv b f L).toInt := by rw [h]
    rw [← keyI w hw, e] at h3
    obtain ⟨a, c⟩ := wvI_inj (lW w) L hc hb h3
    exact ⟨a, fun q hq => (c q (by omega)).symm⟩
  · rintro ⟨a, c⟩
    refine Int64.toInt_inj.mp ?_
    rw [← keyI w hw, e, a]
    have : ∀ m, m ≤ L → wvI (fun k => (chS 0 k).toInt) (sW w) m = wvI (fun k => (b k).toInt) f m := by
      intro m
      induction m with
      | zero => intro _; rfl
      | succ m ih =>
        intro hm
        show 27 * wvI _ _ m + ((chS 0 (sW w + m)).toInt - 96) = 27 * wvI _ _ m + ((b (f + m)).toInt - 96)
        rw [ih (by omega), c m (by omega)]
    exact this L (Nat.le_refl _)
section CUTC
variable {σ : HS}
def bC (σ : HS) (i : Nat) : Int32 := σ.1 3 i
def nC (σ : HS) : Nat := (σ.1 2 1).toInt.toNat
theorem e_X9_isDigit {x : Int32} {σ : HS} : f_X9_isDigit x σ = some (bI (isDg x), σ) := by
  unfold f_X9_isDigit isDg bI
  by_cases c : x.toInt < 48
  · rw [if_pos c]; simp; omega
  · by_cases c2 : 57 < x.toInt
    · rw [if_neg c, if_pos c2]; simp; omega
    · rw [if_neg c, if_neg c2]; simp; omega
theorem e_X9_isLetter {x : Int32} {σ : HS} : f_X9_isLetter x σ = some (bI (isLt x), σ) := by
  unfold f_X9_isLetter isLt bI
  by_cases c : x.toInt < 97
  · rw [if_pos c]; simp; omega
  · by_cases c2 : 122 < x.toInt
    · rw [if_neg c, if_pos c2]; simp; omega
    · rw [if_neg c, if_neg c2]; simp; omega
theorem e_X9_isBlank {x : Int32} {σ : HS} : f_X9_isBlank x σ = some (bI (isBl x), σ) := by
  unfold f_X9_isBlank f_X9_isBlank_24
  by_cases h : isBl x = true
  · rw [h]
    unfold isBl at h
    simp only [Bool.or_eq_true, beq_iff_eq] at h
    rcases h with ((h | h) | h) | h <;> simp [h, bI]
  · rw [Bool.not_eq_true] at h
    rw [h]
    unfold isBl at h
    simp only [Bool.or_eq_false_iff, beq_eq_false_iff_ne, ne_eq] at h
    rw [if_neg h.1.1.1, if_neg h.1.1.2, if_neg h.1.2, if_neg h.2]; rfl
/-- how far the word w is matched behind q letters -/
def mqW (b : Nat → Int32) (f L w q : Nat) : Prop := q ≤ L ∧ ∀ k, k < q → (b (f + k)).toInt = (chS 0 (sW w + k)).toInt
theorem wA_step {f L w q : Nat} {M : Int32} {N : Nat} (hw : w < 20) (hq : q < lW w) (hf : f + L ≤ 2000) (hM : (mqW (bC σ) f L w q ∧ M.toInt = q) ∨ (¬ mqW (bC σ) f L w q ∧ M.toInt = -1)) : ∃ M1 : Int32, ((mqW (bC σ) f L w (q + 1) ∧ M1.toInt = ((q + 1 : Nat) : Int)) ∨ (¬ mqW (bC σ) f L w (q + 1) ∧ M1.toInt = -1)) ∧ f_X9_wordAt_8 (N + 1) (nI f) (nI L) (nI w) M (nI (sW w + q)) σ = f_X9_wordAt_8 N (nI f) (nI L) (nI w) M1 (nI (sW w + q + 1)) σ := by
  have h1 := words w hw
  have h2 := wordc w hw q (by omega) hq
  have go : ∀ M1 : Int32, f_X9_wordAt_8 (N + 1) (nI f) (nI L) (nI w) M (nI (sW w + q)) σ = f_X9_wordAt_85 (f_X9_wordAt_8 N) (nI f) (nI L) (nI w) M1 (nI (sW w + q)) σ → f_X9_wordAt_8 (N + 1) (nI f) (nI L) (nI w) M (nI (sW w + q)) σ = f_X9_wordAt_8 N (nI f) (nI L) (nI w) M1 (nI (sW w + q + 1)) σ := by
    intro M1 e
    rw [e]
    simp only [f_X9_wordAt_85, Bd, nI_1]
  have hd : f_X9_wordAt_8 (N + 1) (nI f) (nI L) (nI w) M (nI (sW w + q)) σ = if M.toInt < 0 then f_X9_wordAt_82 (f_X9_wordAt_8 N) (nI f) (nI L) (nI w) (nI (sW w + q)) σ else if M.toInt < (L : Int) then (if 0 ≤ (nI f + M).toInt ∧ (nI f + M).toInt < 2000 then (if (σ.1 3 (nI f + M).toInt.toNat).toInt = (chS 0 (sW w + q)).toInt then f_X9_wordAt_85 (f_X9_wordAt_8 N) (nI f) (nI L) (nI w) (M + 1) (nI (sW w + q)) σ else f_X9_wordAt_82 (f_X9_wordAt_8 N) (nI f) (nI L) (nI w) (nI (sW w + q)) σ) else none) else f_X9_wordAt_82 (f_X9_wordAt_8 N) (nI f) (nI L) (nI w) (nI (sW w + q)) σ := by
    show b_X9_wordAt_8 (f_X9_wordAt_8 N) (nI f) (nI L) (nI w) M (nI (sW w + q)) σ = _
    unfold b_X9_wordAt_8
    rw [show (Int32.ofNat (lenS.getD 0 0)).toInt = 112 from rfl, nItn (by omega), nIt (by omega), nIt (by omega), if_pos (by omega), if_pos (by omega)]
    simp only [Bd]
    rw [if_neg (by omega)]
  rcases hM with ⟨hm, hM⟩ | ⟨hm, hM⟩
  · by_cases c : q < L
    · have es : nI f + M = nI (f + q) := by
        have : M = nI q := Int32.toInt_inj.mp (by rw [hM, nIt (by omega)])
        rw [this, nI_add]
      by_cases ce : (bC σ (f + q)).toInt = (chS 0 (sW w + q)).toInt
      · refine ⟨M + 1, Or.inl ⟨⟨by omega, fun k hk => ?_⟩, ?_⟩, go _ ?_⟩
        · by_cases e : k = q
          · rw [e]; exact ce
          · exact hm.2 k (by omega)
        · rw [i32_add (by rw [hM, show (1 : Int32).toInt = 1 from rfl]; omega), hM]; rfl
        · rw [hd, if_neg (by omega), if_pos (by omega), es, nIt (by omega), if_pos (by omega)]
          rw [if_pos (by exact ce)]
      · refine ⟨-1, Or.inr ⟨fun h => ce (h.2 q (by omega)), rfl⟩, go _ ?_⟩
        rw [hd, if_neg (by omega), if_pos (by omega), es, nIt (by omega), if_pos (by omega), if_neg (by exact ce)]; rfl
    · refine ⟨-1, Or.inr ⟨fun h => by have := h.1; omega, rfl⟩, go _ ?_⟩
      rw [hd, if_neg (by omega), if_neg (by omega)]; rfl
  · refine ⟨-1, Or.inr ⟨fun h => hm ⟨by have := h.1; omega, fun k hk => h.2 k (by omega)⟩, rfl⟩, go _ ?_⟩
    rw [hd, if_pos (by omega)]; rfl
theorem wA_word {f L w : Nat} {N : Nat} (hw : w < 20) (hf : f + L ≤ 2000) : ∀ q, q ≤ lW w → ∃ M : Int32, ((mqW (bC σ) f L w q ∧ M.toInt = q) ∨ (¬ mqW (bC σ) f L w q ∧ M.toInt = -1)) ∧ f_X9_wordAt_8 (N + q) (nI f) (nI L) (nI w) 0 (nI (sW w)) σ = f_X9_wordAt_8 N (nI f) (nI L) (nI w) M (nI (sW w + q)) σ := by
  intro q
  induction q generalizing N with
  | zero => intro _; exact ⟨0, Or.inl ⟨⟨by omega, fun k hk => absurd hk (by omega)⟩, rfl⟩, rfl⟩
  | succ q ih =>
    intro hq
    obtain ⟨M, h1, h2⟩ := ih (N := N + 1) (by omega)
    obtain ⟨M1, h3, h4⟩ := wA_step (σ := σ) (N := N) hw (by omega) hf h1
    refine ⟨M1, h3, ?_⟩
    rw [show N + (q + 1) = N + 1 + q by omega, h2, h4]
    rfl
/-- which word of these stands there -/
def wIx (b : Nat → Int32) (f L : Nat) : Int := if L ≤ 8 ∧ kwF keyL (wv b f L) < 20 then (kwF keyL (wv b f L) : Int) else -1
theorem kwF_hit {v : Int64} : ∀ (l : List Int64) (w : Nat), w < l.length → (∀ k, k < w → l.getD k 0 ≠ v) → l.getD w 0 = v → kwF l v = w := by
  intro l
  induction l with
  | nil => intro w h; exact absurd h (by simp)
  | cons x l ih =>
    intro w hw h1 h2
    show (if x = v then 0 else kwF l v + 1) = w
    cases w with
    | zero => rw [if_pos (by simpa using h2)]
    | succ w =>
      rw [if_neg (by simpa using h1 0 (by omega)), ih w (by simpa using hw) (fun k hk => by simpa using h1 (k + 1) (by omega)) (by simpa using h2)]
theorem kwF_miss {v : Int64} : ∀ (l : List Int64), (∀ k, k < l.length → l.getD k 0 ≠ v) → kwF l v = l.length := by
  intro l
  induction l with
  | nil => intro _; rfl
  | cons x l ih =>
    intro h
    show (if x = v then 0 else kwF l v + 1) = l.length + 1
    rw [if_neg (by simpa using h 0 (by simp)), ih (fun k hk => by simpa using h (k + 1) (by simpa using hk))]
theorem wA_all {f L : Nat} (hL : 1 ≤ L) (hf : f + L ≤ 2000) (hb : ∀ q, q < L → 97 ≤ (bC σ (f + q)).toInt ∧ (bC σ (f + q)).toInt ≤ 122) : ∀ (d w N : Nat), w + d = 20 → (∀ k, k < w → L ≤ 8 → keyL.getD k 0 ≠ wv (bC σ) f L) → ∃ r : Int32, r.toInt = wIx (bC σ) f L ∧ f_X9_wordAt_8 (N + 1 + (112 - sW w)) (nI f) (nI L) (nI w) 0 (nI (sW w)) σ = some (r, σ) := by
  intro d
  induction d with
  | zero =>
    intro w N hw hk
    obtain rfl : w = 20 := by omega
    refine ⟨-1, ?_, ?_⟩
    · unfold wIx
      rw [if_neg (fun h => ?_)]
      · rfl
      · have := kwF_miss keyL (fun k h2 => hk k (by simpa [keyL] using h2) h.1)
        have e : keyL.length = 20 := rfl
        omega
    · show f_X9_wordAt_8 (N + 1) _ _ _ _ _ _ = _
      show b_X9_wordAt_8 (f_X9_wordAt_8 N) _ _ _ _ _ _ = _
      unfold b_X9_wordAt_8
      rw [show (Int32.ofNat (lenS.getD 0 0)).toInt = 112 from rfl, show sW 20 = 112 from rfl, nIt (by omega), if_neg (by omega)]
  | succ d ih =>
    intro w N hw hk
    have h1 := words w (by omega)
    have hn := h1.2.2.1
    obtain ⟨M, h2, h3⟩ := wA_word (σ := σ) (N := N + 1 + (112 - sW w - lW w)) (w := w) (by omega) hf (lW w) (Nat.le_refl _)
    rw [show N + 1 + (112 - sW w) = N + 1 + (112 - sW w - lW w) + lW w by omega, h3]
    obtain ⟨N2, hN2⟩ : ∃ q, N + 1 + (112 - sW w - lW w) = q + 1 := ⟨N + (112 - sW w - lW w), by omega⟩
    rw [hN2]
    have hd : f_X9_wordAt_8 (N2 + 1) (nI f) (nI L) (nI w) M (nI (sW w + lW w)) σ = if M.toInt = (L : Int) then some (nI w, σ) else f_X9_wordAt_8 N2 (nI f) (nI L) (nI (w + 1)) 0 (nI (sW w + lW w + 1)) σ := by
      show b_X9_wordAt_8 (f_X9_wordAt_8 N2) (nI f) (nI L) (nI w) M (nI (sW w + lW w)) σ = _
      unfold b_X9_wordAt_8
      rw [show (Int32.ofNat (lenS.getD 0 0)).toInt = 112 from rfl, nItn (by omega), nIt (by omega), if_pos (by omega), if_pos (by omega)]
      simp only [Bd]
      rw [if_pos h1.2.1, nIt (by omega)]
      simp only [f_X9_wordAt_85, Bd, nI_1]
    rw [hd]
    by_cases c : M.toInt = (L : Int)
    · rw [if_pos c]
      refine ⟨nI w, ?_, rfl⟩
      rcases h2 with ⟨hm, hM⟩ | ⟨hm, hM⟩
      · have e1 : lW w = L := by omega
        have hit : keyL.getD w 0 = wv (bC σ) f L := (mtc (by omega) (by omega) hb).mpr ⟨e1, fun q hq => hm.2 q (by omega)⟩
        have e2 := kwF_hit keyL w (by show w < 20; omega) (fun k h => hk k h (by omega)) hit
        unfold wIx
        rw [e2, if_pos (by omega), nIt (by omega)]
      · omega
    · rw [if_neg c]
      have nx := ih (w + 1) (N2 - 1 - (112 - sW (w + 1))) (by omega) (fun k h h8 => by
        by_cases e : k = w
        · rw [e]
          intro hit
          have := (mtc (by omega) h8 hb).mp hit
          rcases h2 with ⟨hm, hM⟩ | ⟨hm, hM⟩
          · omega
          · exact hm ⟨by omega, fun q hq => this.2 q (by omega)⟩
        · exact hk k (by omega) h8)
      rw [show N2 - 1 - (112 - sW (w + 1)) + 1 + (112 - sW (w + 1)) = N2 by omega, hn] at nx
      exact nx
theorem w_X9_wordAt {f L : Nat} (hL : 1 ≤ L) (hf : f + L ≤ 2000) (hb : ∀ q, q < L → isLt (bC σ (f + q)) = true) : ∃ r : Int32, r.toInt = wIx (bC σ) f L ∧ f_X9_wordAt (nI f) (nI L) σ = some (r, σ) := by
  obtain ⟨r, h1, h2⟩ := wA_all (σ := σ) hL hf (fun q hq => isLt_iff.mp (hb q hq)) 20 0 4887 rfl (fun k hk => absurd hk (by omega))
  refine ⟨r, h1, ?_⟩
  rw [← h2]
  rfl
end CUTC
