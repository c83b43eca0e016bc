/-! a token put down -/
def TK1 (x1 x2 x3 : Int32) (x4 : Int64) (σ σ1 : HS) : Prop := ∀ q : Nat, ((q : Int) ≠ (σ.1 236 10).toInt → σ1.1 239 q = σ.1 239 q ∧ σ1.1 240 q = σ.1 240 q ∧ σ1.1 241 q = σ.1 241 q ∧ σ1.2.1 242 q = σ.2.1 242 q) ∧ ((q : Int) = (σ.1 236 10).toInt → σ1.1 239 q = x1 ∧ σ1.1 240 q = x2 ∧ σ1.1 241 q = x3 ∧ σ1.2.1 242 q = x4)
theorem hLs9 {σ : HS} {i k : Nat} {v : Int64} : (hL σ i k v).2.1 i k = v := by
  show va_up σ.2.1 i _ i k = v
  simp [va_up, vp_updL]
theorem hLn9 {σ : HS} {i k j : Nat} {v : Int64} (h : j ≠ k) : (hL σ i k v).2.1 i j = σ.2.1 i j := by
  show va_up σ.2.1 i _ i j = _
  simp [va_up, vp_updL, h]
theorem tk1_of {σ : HS} {n1 n2 n3 n4 : Nat} {x1 x2 x3 z : Int32} {x4 : Int64} (h1 : (n1 : Int) = (σ.1 236 10).toInt) (h2 : (n2 : Int) = (σ.1 236 10).toInt) (h3 : (n3 : Int) = (σ.1 236 10).toInt) (h4 : (n4 : Int) = (σ.1 236 10).toInt) : TK1 x1 x2 x3 x4 σ (hI (hL (hI (hI (hI σ 239 n1 x1) 240 n2 x2) 241 n3 x3) 242 n4 x4) 236 10 z) := by
  intro q
  have e2 : n2 = n1 := by omega
  have e3 : n3 = n1 := by omega
  have e4 : n4 = n1 := by omega
  subst e2; subst e3; subst e4
  refine ⟨fun hq => ?_, fun hq => ?_⟩
  · have hn : q ≠ n4 := by omega
    exact ⟨(show (hI σ 239 n4 x1).1 239 q = _ from hI_n hn), (show (hI (hI σ 239 n4 x1) 240 n4 x2).1 240 q = _ from (hI_n hn)), (show (hI (hI (hI σ 239 n4 x1) 240 n4 x2) 241 n4 x3).1 241 q = _ from (hI_n hn)), (show (hL (hI (hI (hI σ 239 n4 x1) 240 n4 x2) 241 n4 x3) 242 n4 x4).2.1 242 q = _ from hLn9 hn)⟩
  · have hn : q = n4 := by omega
    subst hn
    exact ⟨(show (hI σ 239 q x1).1 239 q = _ from hI_s), (show (hI (hI σ 239 q x1) 240 q x2).1 240 q = _ from hI_s), (show (hI (hI (hI σ 239 q x1) 240 q x2) 241 q x3).1 241 q = _ from hI_s), (show (hL (hI (hI (hI σ 239 q x1) 240 q x2) 241 q x3) 242 q x4).2.1 242 q = _ from hLs9)⟩
/-! the reference's tokens -/
def bM (σ : HS) (i : Nat) : Int32 := (σ.1 238 i) &&& 255
def nM (σ : HS) : Nat := (σ.1 236 4).toInt.toNat
def TKm (b : Nat → Int32) (n : Nat) (j : Int) (σ : HS) : Prop := ∀ q : Nat, (q : Int) < j → (σ.1 239 q).toInt = kdT b n q ∧ (σ.1 240 q).toInt = plT b n q ∧ (kdT b n q = 2 → (σ.1 241 q).toInt = vlT b n q) ∧ (kdT b n q = 1 → σ.2.1 242 q = nmT b n q)
theorem TKm.zero {b : Nat → Int32} {n : Nat} {j : Int} {σ : HS} (h : j ≤ 0) : TKm b n j σ := fun q hq => absurd hq (by omega)
theorem TKm.add {b : Nat → Int32} {n : Nat} {j j1 : Int} {σ σ1 : HS} {x1 x2 x3 : Int32} {x4 : Int64} (h : TKm b n j σ) (ht : TK1 x1 x2 x3 x4 σ σ1) (ej : (σ.1 236 10).toInt = j) (h0 : 0 ≤ j) (e1j : j1 = j + 1) (e1 : x1.toInt = kdT b n j.toNat) (e2 : x2.toInt = plT b n j.toNat) (e3 : kdT b n j.toNat = 2 → x3.toInt = vlT b n j.toNat) (e4 : kdT b n j.toNat = 1 → x4 = nmT b n j.toNat) : TKm b n j1 σ1 := by
  intro q hq
  by_cases e : (q : Int) = j
  · obtain ⟨a1, a2, a3, a4⟩ := (ht q).2 (by omega)
    have eq : j.toNat = q := by omega
    rw [eq] at e1 e2 e3 e4
    rw [a1, a2, a3, a4]
    exact ⟨e1, e2, e3, e4⟩
  · obtain ⟨a1, a2, a3, a4⟩ := (ht q).1 (by omega)
    rw [a1, a2, a3, a4]
    exact h q (by omega)
/-- every token up to the first END is told rightly -/
def TKA (b : Nat → Int32) (n : Nat) (σ : HS) : Prop := ∀ q : Nat, q ≤ 400 → (∀ p, p < q → kdT b n p ≠ 0) → (σ.1 239 q).toInt = kdT b n q ∧ (σ.1 240 q).toInt = plT b n q ∧ (kdT b n q = 2 → (σ.1 241 q).toInt = vlT b n q) ∧ (kdT b n q = 1 → σ.2.1 242 q = nmT b n q)
theorem TKm.full {b : Nat → Int32} {n : Nat} {j : Int} {σ : HS} (h : TKm b n j σ) (hj : 401 ≤ j) : TKA b n σ := fun q hq _ => h q (by omega)
theorem TKm.fin {b : Nat → Int32} {n : Nat} {j : Int} {σ : HS} (h : TKm b n (j + 1) σ) (hj : 0 ≤ j) (e : kdT b n j.toNat = 0) : TKA b n σ := fun q _ hp => by
  by_cases c : (q : Int) < j + 1
  · exact h q c
  · exact absurd e (hp _ (by omega))
/-! one token by its first byte -/
theorem kd_end {b : Nat → Int32} {n j i : Nat} (hp : plT b n j = i) (h : n ≤ i) : kdT b n j = 0 := by
  unfold kdT tkK
  rw [hp, if_pos h]
theorem kd_lt {b : Nat → Int32} {n j i e : Nat} (hp : plT b n j = i) (h : i < n) (hl : isLt (b i) = true) (he : rn isLt b n i = e) : kdT b n j = (if i + 8 < e then 3 else if kwF keyL (wv b i (e - i)) < 20 then 20 + (kwF keyL (wv b i (e - i)) : Int) else 1) ∧ plT b n (j + 1) = rn isBl b n e ∧ nmT b n j = wv b i (e - i) := by
  unfold kdT nmT
  refine ⟨?_, ?_, ?_⟩
  · unfold tkK
    rw [hp, if_neg (by omega), if_pos hl, he]
  · show rn isBl b n (tkE b n (plT b n j)) = _
    unfold tkE
    rw [hp, if_neg (by omega), if_pos hl, he]
  · rw [hp, he]
theorem kd_dg {b : Nat → Int32} {n j i e : Nat} (hp : plT b n j = i) (h : i < n) (hl : ¬ isLt (b i) = true) (hd : isDg (b i) = true) (he : rn isDg b n i = e) : kdT b n j = (if i + 4 < e then 3 else 2) ∧ plT b n (j + 1) = rn isBl b n e ∧ vlT b n j = iv b i (e - i) := by
  unfold kdT vlT
  refine ⟨?_, ?_, ?_⟩
  · unfold tkK
    rw [hp, if_neg (by omega), if_neg hl, if_pos hd, he]
  · show rn isBl b n (tkE b n (plT b n j)) = _
    unfold tkE
    rw [hp, if_neg (by omega), if_neg hl, if_pos hd, he]
  · rw [hp, he]
theorem kd_sg {b : Nat → Int32} {n j i : Nat} (hp : plT b n j = i) (h : i < n) (hl : ¬ isLt (b i) = true) (hd : ¬ isDg (b i) = true) : kdT b n j = sgn (b i).toInt ∧ plT b n (j + 1) = rn isBl b n (i + 1) := by
  unfold kdT
  refine ⟨?_, ?_⟩
  · unfold tkK
    rw [hp, if_neg (by omega), if_neg hl, if_neg hd]
  · show rn isBl b n (tkE b n (plT b n j)) = _
    unfold tkE
    rw [hp, if_neg (by omega), if_neg hl, if_neg hd]
theorem isBl_of {c : Int32} (h : c.toInt = 9 ∨ c.toInt = 10 ∨ c.toInt = 13 ∨ c.toInt = 32) : isBl c = true := by
  unfold isBl
  rcases h with h | h | h | h <;> rw [h] <;> rfl
theorem isBl_no {c : Int32} (h : c.toInt ≠ 9 ∧ c.toInt ≠ 10 ∧ c.toInt ≠ 13 ∧ c.toInt ≠ 32) : ¬ isBl c = true := by
  unfold isBl
  simp only [Bool.or_eq_true, beq_iff_eq]
  omega
theorem isLt_iff {c : Int32} : isLt c = true ↔ 97 ≤ c.toInt ∧ c.toInt ≤ 122 := by
  unfold isLt
  simp only [Bool.and_eq_true, decide_eq_true_eq]
theorem isDg_iff {c : Int32} : isDg c = true ↔ 48 ≤ c.toInt ∧ c.toInt ≤ 57 := by
  unfold isDg
  simp only [Bool.and_eq_true, decide_eq_true_eq]
theorem sgn_rg (c : Int) : 3 ≤ sgn c ∧ sgn c ≤ 15 := by
  unfold sgn
  repeat' split
  all_goals omega
/-! the words' numbers, one after the other -/
def kwU (k : Nat) (v : Int64) : Int := if kwF (keyL.take k) v < k then 20 + (kwF (keyL.take k) v : Int) else 1
theorem kwF_app {v x : Int64} : ∀ l : List Int64, kwF (l ++ [x]) v = if kwF l v < l.length then kwF l v else if x = v then l.length else l.length + 1 := by
  intro l
  induction l with
  | nil => show (if x = v then 0 else 0 + 1) = _; simp [kwF]
  | cons y l ih =>
    show (if y = v then 0 else kwF (l ++ [x]) v + 1) = if (if y = v then 0 else kwF l v + 1) < l.length + 1 then (if y = v then 0 else kwF l v + 1) else if x = v then l.length + 1 else l.length + 1 + 1
    by_cases e : y = v
    · simp [e]
    · rw [if_neg e, if_neg e, ih]
      by_cases c : kwF l v < l.length
      · rw [if_pos c, if_pos (by omega)]
      · rw [if_neg c, if_neg (show ¬ kwF l v + 1 < l.length + 1 by omega)]
        split <;> rfl
theorem kwF_le {v : Int64} : ∀ l : List Int64, kwF l v ≤ l.length := by
  intro l
  induction l with
  | nil => exact Nat.le_refl _
  | cons y l ih =>
    show (if y = v then 0 else kwF l v + 1) ≤ l.length + 1
    split <;> omega
theorem kw_hit : ∀ k, k < 20 → kwU (k + 1) (keyL.getD k 0) = 20 + (k : Int) := by decide +kernel
theorem key_take : ∀ k, k < 20 → keyL.take (k + 1) = keyL.take k ++ [keyL.getD k 0] := by decide +kernel
theorem key_len : ∀ k, k < 20 → (keyL.take k).length = k := by decide +kernel
theorem kw_miss {k : Nat} {v : Int64} (hk : k < 20) (h : keyL.getD k 0 ≠ v) : kwU (k + 1) v = kwU k v := by
  unfold kwU
  have l := key_len k hk
  have le := kwF_le (v := v) (keyL.take k)
  rw [key_take k hk, kwF_app, l, if_neg h]
  rw [l] at le
  by_cases c : kwF (keyL.take k) v < k
  · rw [if_pos c, if_pos (by omega), if_pos c]
  · rw [if_neg c, if_neg (by omega), if_neg c]
theorem kw_zero {v : Int64} : kwU 0 v = 1 := by unfold kwU; rw [if_neg (by omega)]
theorem kw_all {v : Int64} : kwU 20 v = if kwF keyL v < 20 then 20 + (kwF keyL v : Int) else 1 := by
  unfold kwU
  rw [show keyL.take 20 = keyL from rfl]
def KEY (σ : HS) : Prop := ∀ k, k < 20 → σ.2.1 243 k = keyL.getD k 0

