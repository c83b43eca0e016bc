/-! the class's cut -/
theorem hI_hI {σ : HS} {i k : Nat} {a b : Int32} : hI (hI σ i k a) i k b = hI σ i k b := by
  refine Prod.ext (funext fun x => funext fun y => ?_) rfl
  by_cases e : x = i
  · subst e
    by_cases e2 : y = k
    · subst e2; rw [rI_s, rI_s]
    · rw [rI_k e2, rI_k e2, rI_k e2]
  · rw [rI_i e, rI_i e, rI_i e]
theorem hI_same {σ : HS} {i k : Nat} {a : Int32} (h : σ.1 i k = a) : hI σ i k a = σ := by
  refine Prod.ext (funext fun x => funext fun y => ?_) rfl
  by_cases e : x = i
  · subst e
    by_cases e2 : y = k
    · subst e2; rw [rI_s]; exact h.symm
    · rw [rI_k e2]
  · rw [rI_i e]
theorem nI_sub {a b : Nat} (h : a ≤ b) (hb : b ≤ 100000) : nI b - nI a = nI (b - a) := Int32.toInt_inj.mp (by
  rw [i32_sub (by rw [nIt hb, nIt (by omega)]; omega), nIt hb, nIt (by omega), nIt (by omega)]; omega)
def ckind (k : Int) : Int := if 20 ≤ k then k - 20 else if k = 0 then 22 else if k = 1 then 20 else if k = 2 then 21 else if k = 3 then 23 else if k = 4 then 59 else if k = 5 then 61 else if k = 6 then 40 else if k = 7 then 41 else if k = 8 then 43 else if k = 9 then 45 else if k = 10 then 42 else if k = 13 then 60 else 47
def CC (σ : HS) : Prop := (0 ≤ (σ.1 2 1).toInt ∧ (σ.1 2 1).toInt ≤ 2000) ∧ ∀ k, 0 ≤ (σ.1 3 k).toInt ∧ (σ.1 3 k).toInt ≤ 255
/-- the state with the place at k -/
def atC (σ : HS) (k : Nat) : HS := hI σ 2 5 (nI k)
theorem atC_at {σ : HS} {k : Nat} : (atC σ k).1 2 5 = nI k := rI_s
theorem atC_n {σ : HS} {k : Nat} : (atC σ k).1 2 1 = σ.1 2 1 := rI_k (by decide)
theorem atC_b {σ : HS} {k j : Nat} : (atC σ k).1 3 j = σ.1 3 j := rI_i (by decide)
theorem atC_to {σ : HS} {k j : Nat} : hI (atC σ k) 2 5 (nI j) = atC σ j := hI_hI
theorem run_c {p : Int32 → Bool} {b : Nat → Int32} {n i e : Nat} (he : rn p b n i = e) : ∀ m, i + m ≤ e → rn p b n (i + m) = e := by
  intro m
  induction m with
  | zero => intro _; exact he
  | succ m ih =>
    intro h
    have h1 := ih (by omega)
    have h2 := rn_go (p := p) (b := b) (n := n) (i := i + m) (by omega)
    rw [show i + (m + 1) = i + m + 1 by omega, h2.2.2, h1]
theorem run_ub {p : Int32 → Bool} {b : Nat → Int32} {n i e : Nat} (he : rn p b n i = e) (hi : i ≤ n) : e ≤ n := by
  have := (rn_le (p := p) (b := b) (n := n) (i := i)).2 hi
  omega
section CUTD
variable {σ : HS}
theorem nC_n (h : CC σ) : ((nC σ : Nat) : Int) = (σ.1 2 1).toInt := by unfold nC; have := h.1.1; omega
theorem nC_u (h : CC σ) : nC σ ≤ 2000 := by unfold nC; have := h.1.2; omega
theorem e_cutWord_7 (hσ : CC σ) {i e : Nat} {x : Int32} (hi : i ≤ nC σ) (he : rn isLt (bC σ) (nC σ) i = e) : ∀ (d m N : Nat), i + m + d = e → d < N → f_X9_cutWord_7 N x (nI i) (wv (bC σ) i m) (atC σ (i + m)) = f_X9_cutWord_68 x (nI i) (wv (bC σ) i (e - i)) (atC σ e) := by
  have hn := nC_n hσ
  have hu := nC_u hσ
  have hen := run_ub he hi
  have run := run_c he
  intro d
  induction d with
  | zero =>
    intro m N h1 hN
    obtain ⟨N, rfl⟩ : ∃ q, N = q + 1 := ⟨N - 1, by omega⟩
    obtain rfl : i + m = e := by omega
    rw [show i + m - i = m by omega]
    show b_X9_cutWord_7 (f_X9_cutWord_7 N) x (nI i) _ _ = _
    unfold b_X9_cutWord_7
    rw [atC_at, atC_n, nIt (by omega), Int.toNat_natCast, atC_b]
    by_cases c : i + m < nC σ
    · rw [if_pos (by omega), if_pos (by omega)]
      have hs := rn_stop (run m (Nat.le_refl _))
      have hz : isLt (bC σ (i + m)) = false := by
        rcases hs with hs | hs
        · omega
        · simpa using hs
      simp only [e_X9_isLetter, Cl]
      rw [if_pos (by rw [bI_0]; show ¬ isLt (bC σ (i + m)) = true; rw [hz]; decide)]
    · rw [if_neg (by omega)]
  | succ d ih =>
    intro m N h1 hN
    obtain ⟨N, rfl⟩ : ∃ q, N = q + 1 := ⟨N - 1, by omega⟩
    have hg := rn_go (p := isLt) (b := bC σ) (n := nC σ) (i := i + m) (by rw [run m (by omega)]; omega)
    have ih1 := ih (m + 1) N (by omega) (by omega)
    rw [← ih1]
    show b_X9_cutWord_7 (f_X9_cutWord_7 N) x (nI i) _ _ = _
    unfold b_X9_cutWord_7
    rw [atC_at, atC_n, nIt (by omega), Int.toNat_natCast, atC_b, if_pos (by omega), if_pos (by omega)]
    simp only [e_X9_isLetter, Cl]
    rw [if_neg (by rw [bI_0]; show ¬ ¬ isLt (bC σ (i + m)) = true; rw [hg.2.1]; decide)]
    rw [atC_at, nIt (by omega), Int.toNat_natCast, atC_b, if_pos (by omega)]
    simp only [Bd, nI_1, atC_to]
    rw [Int64.mul_comm]
    rfl
/-- base 10 -/
def lv (b : Nat → Int32) (i : Nat) : Nat → Int64
  | 0 => 0
  | m + 1 => lv b i m * 10 + (b (i + m) - 48).toInt64
theorem lv_iv {b : Nat → Int32} {i : Nat} : ∀ (m : Nat), m ≤ 4 → (∀ q, q < m → 48 ≤ (b (i + q)).toInt ∧ (b (i + q)).toInt ≤ 57) → (lv b i m).toInt = iv b i m ∧ 0 ≤ iv b i m ∧ iv b i m < 10 ^ m := by
  intro m
  induction m with
  | zero => intro _ _; exact ⟨rfl, Int.le_refl _, (by decide : (0 : Int) < 10 ^ 0)⟩
  | succ m ih =>
    intro h4 h
    obtain ⟨a, a1, a2⟩ := ih (by omega) (fun q hq => h q (by omega))
    have h2 := h m (by omega)
    have h4 : (10 : Int) ^ m ≤ 1000 := by
      rcases (show m = 0 ∨ m = 1 ∨ m = 2 ∨ m = 3 by omega) with rfl | rfl | rfl | rfl <;> decide
    have e1 : (b (i + m) - 48).toInt = (b (i + m)).toInt - 48 := by
      rw [i32_sub (by rw [show (48 : Int32).toInt = 48 from rfl]; omega)]; rfl
    refine ⟨?_, ?_⟩
    · show (lv b i m * 10 + (b (i + m) - 48).toInt64).toInt = 10 * iv b i m + ((b (i + m)).toInt - 48)
      rw [i64_step (by rw [a]; omega) (by rw [e1]; omega), a, e1]
      omega
    · show 0 ≤ 10 * iv b i m + ((b (i + m)).toInt - 48) ∧ 10 * iv b i m + ((b (i + m)).toInt - 48) < 10 ^ (m + 1)
      rw [Int.pow_succ]
      omega
theorem e_cutInt_7 (hσ : CC σ) {i e : Nat} {x : Int32} (hi : i ≤ nC σ) (he : rn isDg (bC σ) (nC σ) i = e) : ∀ (d m N : Nat), i + m + d = e → d < N → f_X9_cutInt_7 N x (nI i) (lv (bC σ) i m) (atC σ (i + m)) = f_X9_cutInt_66 x (nI i) (lv (bC σ) i (e - i)) (atC σ e) := by
  have hn := nC_n hσ
  have hu := nC_u hσ
  have hen := run_ub he hi
  have run := run_c he
  intro d
  induction d with
  | zero =>
    intro m N h1 hN
    obtain ⟨N, rfl⟩ : ∃ q, N = q + 1 := ⟨N - 1, by omega⟩
    obtain rfl : i + m = e := by omega
    rw [show i + m - i = m by omega]
    show b_X9_cutInt_7 (f_X9_cutInt_7 N) x (nI i) _ _ = _
    unfold b_X9_cutInt_7
    rw [atC_at, atC_n, nIt (by omega), Int.toNat_natCast, atC_b]
    by_cases c : i + m < nC σ
    · rw [if_pos (by omega), if_pos (by omega)]
      have hs := rn_stop (run m (Nat.le_refl _))
      have hz : isDg (bC σ (i + m)) = false := by
        rcases hs with hs | hs
        · omega
        · simpa using hs
      simp only [e_X9_isDigit, Cl]
      rw [if_pos (by rw [bI_0]; show ¬ isDg (bC σ (i + m)) = true; rw [hz]; decide)]
    · rw [if_neg (by omega)]
  | succ d ih =>
    intro m N h1 hN
    obtain ⟨N, rfl⟩ : ∃ q, N = q + 1 := ⟨N - 1, by omega⟩
    have hg := rn_go (p := isDg) (b := bC σ) (n := nC σ) (i := i + m) (by rw [run m (by omega)]; omega)
    have ih1 := ih (m + 1) N (by omega) (by omega)
    rw [← ih1]
    show b_X9_cutInt_7 (f_X9_cutInt_7 N) x (nI i) _ _ = _
    unfold b_X9_cutInt_7
    rw [atC_at, atC_n, nIt (by omega), Int.toNat_natCast, atC_b, if_pos (by omega), if_pos (by omega)]
    simp only [e_X9_isDigit, Cl]
    rw [if_neg (by rw [bI_0]; show ¬ ¬ isDg (bC σ (i + m)) = true; rw [hg.2.1]; decide)]
    rw [atC_at, nIt (by omega), Int.toNat_natCast, atC_b, if_pos (by omega)]
    simp only [Bd, nI_1, atC_to]
    rfl
/-- what is put down for the token q at the place i -/
theorem ck_word {L k : Nat} (h : k < 20) : ckind (20 + (k : Int)) = k := by unfold ckind; rw [if_pos (by omega)]; omega
theorem w_cutWord (hσ : CC σ) {i e j : Nat} (hj : j ≤ 400) (hi : i < nC σ) (hl : isLt (bC σ i) = true) (he : rn isLt (bC σ) (nC σ) i = e) : ∃ r : Int32, r.toInt = ckind (if i + 8 < e then 3 else if kwF keyL (wv (bC σ) i (e - i)) < 20 then 20 + (kwF keyL (wv (bC σ) i (e - i)) : Int) else 1) ∧ f_X9_cutWord (nI j) (atC σ i) = some (r, hL (atC σ e) 6 j (wv (bC σ) i (e - i))) := by
  have hu := nC_u hσ
  have hen := run_ub he (by omega)
  have hie : i < e := by
    have := (rn_le (p := isLt) (b := bC σ) (n := nC σ) (i := i + 1)).1
    rw [← rn_in hi hl, he] at this
    omega
  have hall : ∀ q, q < e - i → isLt (bC σ (i + q)) = true := fun q hq => (rn_go (p := isLt) (b := bC σ) (n := nC σ) (i := i + q) (by rw [run_c he q (by omega)]; omega)).2.1
  generalize hK : (if i + 8 < e then (3 : Int) else if kwF keyL (wv (bC σ) i (e - i)) < 20 then 20 + (kwF keyL (wv (bC σ) i (e - i)) : Int) else 1) = K
  unfold f_X9_cutWord
  rw [atC_at]
  simp only [Bd]
  have e1 := e_cutWord_7 hσ (x := nI j) (by omega) he (e - i) 0 5000 (by omega) (by omega)
  rw [show f_X9_cutWord_7 5000 (nI j) (nI i) 0 (atC σ i) = f_X9_cutWord_7 5000 (nI j) (nI i) (wv (bC σ) i 0) (atC σ (i + 0)) from rfl, e1]
  unfold f_X9_cutWord_68
  rw [nIt (by omega), if_pos (by omega), Int.toNat_natCast]
  simp only [Bd]
  rw [rL_1, atC_at, nI_sub (by omega) (by omega)]
  obtain ⟨r, hr, e2⟩ := w_X9_wordAt (σ := hL (atC σ e) 6 j (wv (bC σ) i (e - i))) (f := i) (L := e - i) (by omega) (by omega) (fun q hq => by
    show isLt ((hL (atC σ e) 6 j (wv (bC σ) i (e - i))).1 3 (i + q)) = true
    rw [rL_1, atC_b]; exact hall q hq)
  have eb : bC (hL (atC σ e) 6 j (wv (bC σ) i (e - i))) = bC σ := funext fun q => by
    show (hL (atC σ e) 6 j (wv (bC σ) i (e - i))).1 3 q = _
    rw [rL_1, atC_b]; rfl
  rw [eb] at hr
  rw [e2]
  simp only [Cl]
  rw [rL_1, atC_at, nI_sub (by omega) (by omega), nIt (by omega)]
  unfold wIx at hr
  by_cases c : i + 8 < e
  · rw [if_neg (by omega)] at hr
    rw [if_pos c] at hK
    rw [if_pos hr, if_pos (by omega), ← hK]
    exact ⟨23, rfl, rfl⟩
  · rw [if_neg c] at hK
    by_cases c2 : kwF keyL (wv (bC σ) i (e - i)) < 20
    · rw [if_pos ⟨by omega, c2⟩] at hr
      rw [if_pos c2] at hK
      rw [if_neg (by omega), ← hK, ck_word (L := 0) c2]
      exact ⟨r, hr, rfl⟩
    · rw [if_neg (fun h => c2 h.2)] at hr
      rw [if_neg c2] at hK
      rw [if_pos hr, if_neg (by omega), ← hK]
      exact ⟨20, rfl, rfl⟩
theorem w_cutInt (hσ : CC σ) {i e j : Nat} (hj : j ≤ 400) (hi : i < nC σ) (he : rn isDg (bC σ) (nC σ) i = e) : ∃ r : Int32, r.toInt = ckind (if i + 4 < e then 3 else 2) ∧ f_X9_cutInt (nI j) (atC σ i) = some (r, hL (atC σ e) 6 j (lv (bC σ) i (e - i))) := by
  have hu := nC_u hσ
  have hen := run_ub he (by omega)
  have hie : i ≤ e := by
    have := (rn_le (p := isDg) (b := bC σ) (n := nC σ) (i := i)).1
    omega
  generalize hK : (if i + 4 < e then (3 : Int) else 2) = K
  unfold f_X9_cutInt
  rw [atC_at]
  simp only [Bd]
  have e1 := e_cutInt_7 hσ (x := nI j) (by omega) he (e - i) 0 5000 (by omega) (by omega)
  rw [show f_X9_cutInt_7 5000 (nI j) (nI i) 0 (atC σ i) = f_X9_cutInt_7 5000 (nI j) (nI i) (lv (bC σ) i 0) (atC σ (i + 0)) from rfl, e1]
  unfold f_X9_cutInt_66
  rw [nIt (by omega), if_pos (by omega), Int.toNat_natCast]
  simp only [Bd]
  rw [rL_1, atC_at, nI_sub (by omega) (by omega), nIt (by omega)]
  by_cases c : i + 4 < e
  · rw [if_pos c] at hK
    rw [if_pos (by omega), ← hK]
    exact ⟨23, rfl, rfl⟩
  · rw [if_neg c] at hK
    rw [if_neg (by omega), ← hK]
    exact ⟨21, rfl, rfl⟩
def sgE (k : Nat) : Int32 := (bytS.getD 1 []).getD k 0
theorem e_ioc {z : Int32} : ∀ (d k N : Nat), k + d = 9 → (∀ j, j < k → (sgE j).toInt ≠ z.toInt) → ∃ r : Int32, (r.toInt < 0 ↔ ∀ j, j < 9 → (sgE j).toInt ≠ z.toInt) ∧ f_J1_indexOfChar_4cfef_7 (N + 1 + d) (nI 9) z (nI k) σ = some (r, σ) := by
  intro d
  induction d with
  | zero =>
    intro k N hk h
    refine ⟨-1, ⟨fun _ j hj => h j (by omega), fun _ => by decide⟩, ?_⟩
    show b_J1_indexOfChar_4cfef_7 (f_J1_indexOfChar_4cfef_7 N) _ _ _ _ = _
    unfold b_J1_indexOfChar_4cfef_7
    rw [nIt (by omega), nIt (by omega), if_neg (by omega)]
  | succ d ih =>
    intro k N hk h
    show ∃ r : Int32, _ ∧ b_J1_indexOfChar_4cfef_7 (f_J1_indexOfChar_4cfef_7 (N + 1 + d)) _ _ _ _ = _
    unfold b_J1_indexOfChar_4cfef_7
    rw [nIt (by omega), nIt (by omega), if_pos (by omega), if_pos (by omega), Int.toNat_natCast]
    by_cases c : (sgE k).toInt = z.toInt
    · refine ⟨nI k, ⟨fun h2 => ?_, fun h2 => absurd c (h2 k (by omega))⟩, ?_⟩
      · rw [nIt (by omega)] at h2; omega
      · rw [if_pos (by exact c)]
    · rw [if_neg (by exact c)]
      simp only [Bd, nI_1]
      exact ih (k + 1) N (by omega) (fun j hj => by
        by_cases e : j = k
        · rw [e]; exact c
        · exact h j (by omega))
theorem sg256 : ∀ k, k < 256 → ((nI k).toUInt32 % 65536).toInt32 = nI k ∧ (0 ≤ (nI k).toInt ∧ (nI k).toInt ≤ 255) ∧ ((∀ j, j < 9 → (sgE j).toInt ≠ ((nI k).toInt8.toInt32).toInt) ↔ sgn (k : Int) = 3) ∧ (sgn (k : Int) ≠ 3 → ckind (sgn (k : Int)) = (k : Int)) := by decide +kernel
theorem w_sign {k : Nat} (hk : k < 256) : ∃ r : Int32, (r.toInt < 0 ↔ sgn (k : Int) = 3) ∧ f_J0_indexOf_0f7a4 (((nI k).toUInt32 % 65536).toInt32) σ = some (r, σ) := by
  obtain ⟨a, b, c, _⟩ := sg256 k hk
  rw [a]
  obtain ⟨r, h1, h2⟩ := e_ioc (σ := σ) (z := (nI k).toInt8.toInt32) 9 0 4990 rfl (fun j hj => absurd hj (by omega))
  refine ⟨r, h1.trans c, ?_⟩
  have e1 : f_J1_indexOfChar_4cfef (nI k) 0 (Int32.ofNat (lenS.getD 1 0)) σ = some (r, σ) := by
    unfold f_J1_indexOfChar_4cfef
    simp only [Bd]
    exact h2
  have e2 : f_J1_canEncode_9a6ad (nI k) σ = some (1, σ) := by
    unfold f_J1_canEncode_9a6ad
    rw [if_neg (by omega), if_neg (by omega)]
  unfold f_J0_indexOf_0f7a4 f_J0_indexOf_7cf53 f_J1_indexOf_4cfef
  rw [e2]
  simp only [Cl, Bd]
  rw [if_neg (show ¬ (1 : Int) = 0 by decide), if_neg (show ¬ (1 : Int32).toInt = 0 by decide)]
  rw [show (if (0 : Int32) < (0 : Int32) then (0 : Int32) else 0) = 0 from rfl, show (if (Int32.ofNat (lenS.getD 1 0)) < (Int32.ofNat (lenS.getD 1 0)) then (Int32.ofNat (lenS.getD 1 0)) else (Int32.ofNat (lenS.getD 1 0))) = Int32.ofNat (lenS.getD 1 0) from rfl]
  rw [if_pos (show (0 : Int32).toInt < (Int32.ofNat (lenS.getD 1 0)).toInt by decide), e1]
/-- one token: its kind, what is told of it, where it ends -/
theorem w_cutOne (hσ : CC σ) {i j : Nat} (hj : j ≤ 400) (hi : i ≤ nC σ) : ∃ (r : Int32) (v : Int64) (e : Nat), r.toInt = ckind (tkK (bC σ) (nC σ) i) ∧ (tkK (bC σ) (nC σ) i = 2 → v.toInt = iv (bC σ) i (rn isDg (bC σ) (nC σ) i - i)) ∧ (tkK (bC σ) (nC σ) i = 1 → v = wv (bC σ) i (rn isLt (bC σ) (nC σ) i - i)) ∧ e = tkE (bC σ) (nC σ) i ∧ e ≤ nC σ ∧ (i < nC σ → i < e) ∧ (f_X9_cutOne (nI j) (atC σ i) = some (r, hL (atC σ e) 6 j v) ∨ (f_X9_cutOne (nI j) (atC σ i) = some (r, atC σ e) ∧ tkK (bC σ) (nC σ) i ≠ 1 ∧ tkK (bC σ) (nC σ) i ≠ 2)) := by
  have hn := nC_n hσ
  have hu := nC_u hσ
  unfold f_X9_cutOne
  rw [atC_at, atC_n, nIt (by omega), Int.toNat_natCast, atC_b]
  by_cases c0 : i < nC σ
  rotate_left
  · rw [if_neg (by omega)]
    have ek : tkK (bC σ) (nC σ) i = 0 := by unfold tkK; rw [if_pos (by omega)]
    have ee : tkE (bC σ) (nC σ) i = i := by unfold tkE; rw [if_pos (by omega)]
    exact ⟨22, 0, i, by rw [ek]; rfl, fun h => by omega, fun h => by omega, ee.symm, hi, fun h => absurd h c0, Or.inr ⟨rfl, by omega, by omega⟩⟩
  rw [if_pos (by omega), if_pos (by omega)]
  simp only [e_X9_isLetter, e_X9_isDigit, Cl]
  by_cases c1 : isLt (bC σ i) = true
  · generalize he : rn isLt (bC σ) (nC σ) i = e
    obtain ⟨r, hr, e1⟩ := w_cutWord hσ hj c0 c1 he
    have ek : tkK (bC σ) (nC σ) i = (if i + 8 < e then 3 else if kwF keyL (wv (bC σ) i (e - i)) < 20 then 20 + (kwF keyL (wv (bC σ) i (e - i)) : Int) else 1) := by unfold tkK; rw [if_neg (by omega), if_pos c1, he]
    have ee : tkE (bC σ) (nC σ) i = e := by unfold tkE; rw [if_neg (by omega), if_pos c1, he]
    have g := rn_le (p := isLt) (b := bC σ) (n := nC σ) (i := i + 1)
    rw [← rn_in c0 c1, he] at g
    refine ⟨r, wv (bC σ) i (e - i), e, by rw [ek]; exact hr, fun h => ?_, fun _ => rfl, ee.symm, g.2 (by omega), fun _ => by omega, Or.inl ?_⟩
    · exfalso
      rw [ek] at h
      split at h
      · omega
      · split at h <;> omega
    · rw [if_neg (by rw [bI_0]; show ¬ ¬ isLt (bC σ i) = true; rw [c1]; decide), e1]
  · rw [if_pos (by rw [bI_0]; exact c1)]
    rw [atC_at, nIt (by omega), Int.toNat_natCast, atC_b, if_pos (by omega)]
    by_cases c2 : isDg (bC σ i) = true
    · generalize he : rn isDg (bC σ) (nC σ) i = e
      obtain ⟨r, hr, e1⟩ := w_cutInt hσ hj c0 he
      have ek : tkK (bC σ) (nC σ) i = (if i + 4 < e then 3 else 2) := by unfold tkK; rw [if_neg (by omega), if_neg c1, if_pos c2, he]
      have ee : tkE (bC σ) (nC σ) i = e := by unfold tkE; rw [if_neg (by omega), if_neg c1, if_pos c2, he]
      have g := rn_le (p := isDg) (b := bC σ) (n := nC σ) (i := i + 1)
      rw [← rn_in c0 c2, he] at g
      refine ⟨r, lv (bC σ) i (e - i), e, by rw [ek]; exact hr, fun h => ?_, fun h => ?_, ee.symm, g.2 (by omega), fun _ => by omega, Or.inl ?_⟩
      · rw [ek] at h
        have h4 : e - i ≤ 4 := by split at h <;> omega
        exact (lv_iv (b := bC σ) (i := i) (e - i) h4 (fun q hq => isDg_iff.mp (rn_go (p := isDg) (b := bC σ) (n := nC σ) (i := i + q) (by rw [run_c he q (by omega)]; omega)).2.1)).1
      · exfalso; rw [ek] at h; split at h <;> omega
      · rw [if_neg (by rw [bI_0]; show ¬ ¬ isDg (bC σ i) = true; rw [c2]; decide), e1]
    · rw [if_pos (by rw [bI_0]; exact c2)]
      rw [if_pos (by omega)]
      obtain ⟨k, hk, ec⟩ : ∃ k, k < 256 ∧ σ.1 3 i = nI k := by
        have := hσ.2 i
        exact ⟨(σ.1 3 i).toInt.toNat, by omega, Int32.toInt_inj.mp (by rw [nIt (by omega)]; omega)⟩
      have ek : tkK (bC σ) (nC σ) i = sgn (k : Int) := by unfold tkK; rw [if_neg (by omega), if_neg c1, if_neg c2]; show sgn (σ.1 3 i).toInt = _; rw [ec, nIt (by omega)]
      have ee : tkE (bC σ) (nC σ) i = i + 1 := by unfold tkE; rw [if_neg (by omega), if_neg c1, if_neg c2]
      obtain ⟨r, h1, h2⟩ := w_sign (σ := atC σ (i + 1)) hk
      obtain ⟨_, _, _, h3⟩ := sg256 k hk
      have sr := sgn_rg (k : Int)
      simp only [Bd, nI_1, atC_to]
      rw [ec, h2]
      by_cases c3 : sgn (k : Int) = 3
      · refine ⟨23, 0, i + 1, by rw [ek, c3]; rfl, fun h => by omega, fun h => by omega, ee.symm, by omega, fun _ => by omega, Or.inr ⟨?_, by omega, by omega⟩⟩
        simp only []
        rw [if_pos (h1.mpr c3)]
      · refine ⟨nI k, 0, i + 1, by rw [ek, h3 c3, nIt (by omega)], fun h => by omega, fun h => by omega, ee.symm, by omega, fun _ => by omega, Or.inr ⟨?_, by omega, by omega⟩⟩
        simp only []
        rw [if_neg (fun h => c3 (h1.mp h))]
end CUTD
