theorem nIt {n : Nat} (h : n ≤ 100000) : (nI n).toInt = (n : Int) := nI_toInt (by omega)
theorem nItn {n : Nat} (h : n ≤ 100000) : (nI n).toInt.toNat = n := by rw [nIt h]; rfl
theorem nI0 : (0 : Int32) = nI 0 := nI_0.symm
theorem byt_nI {σ : HS} {k : Nat} (hk : k ≤ 100000) (h1 : 0 ≤ (σ.1 236 4).toInt) : byt σ (nI k) = if k < nM σ then bM σ k else 0 := by
  unfold byt bM nM
  rw [nIt hk]
  by_cases c : (k : Int) < (σ.1 236 4).toInt
  · rw [if_pos c, if_pos (by omega)]; rfl
  · rw [if_neg c, if_neg (by omega)]
/-- the run's end lies behind, or there is none more -/
theorem rn_stop {p : Int32 → Bool} {b : Nat → Int32} {n i : Nat} (h : rn p b n i = i) : n ≤ i ∨ ¬ p (b i) = true := by
  by_cases c : i < n
  · right
    intro hp
    have h1 := rn_in (n := n) c hp
    have h2 := (rn_le (p := p) (b := b) (n := n) (i := i + 1)).1
    omega
  · left; omega
theorem rn_go {p : Int32 → Bool} {b : Nat → Int32} {n i : Nat} (h : i < rn p b n i) : i < n ∧ p (b i) = true ∧ rn p b n (i + 1) = rn p b n i := by
  have c : i < n := by
    by_cases c : i < n
    · exact c
    · have := rn_out (p := p) (b := b) (n := n) (i := i) (Or.inl (by omega)); omega
  have hp : p (b i) = true := by
    by_cases hp : p (b i) = true
    · exact hp
    · have := rn_out (p := p) (b := b) (n := n) (i := i) (Or.inr hp); omega
  exact ⟨c, hp, (rn_in c hp).symm⟩
section CUTM
variable {k7 : Int32 → HS → Option HS} {σ : HS}
/-- what stands in the state while one token is cut -/
def CM (σ : HS) : Prop := 0 ≤ (σ.1 236 4).toInt ∧ (σ.1 236 4).toInt ≤ 2000
theorem e_cut_85 (hσ : CM σ) {i e : Nat} (hi : i ≤ 2000) (he : rn isLt (bM σ) (nM σ) i = e) : ∀ (d m N : Nat), i + m + d = e → d < N → f_X12_cut_85 k7 N (nI i) (nI m) (wv (bM σ) i (min m 8)) σ = f_X12_cut_135 k7 (nI i) (nI (e - i)) (wv (bM σ) i (min (e - i) 8)) (if 8 < e - i then 3 else 1) σ := by
  have hn : nM σ ≤ 2000 := by unfold nM; have := hσ.2; omega
  have hen : e ≤ 2000 := by
    have := (rn_le (p := isLt) (b := bM σ) (n := nM σ) (i := i))
    by_cases c : i ≤ nM σ
    · have := this.2 c; omega
    · have := rn_out (p := isLt) (b := bM σ) (n := nM σ) (i := i) (Or.inl (by omega)); omega
  -- within the run every place goes on to the same end
  have run : ∀ m, i + m ≤ e → rn isLt (bM σ) (nM σ) (i + m) = e := by
    intro m
    induction m with
    | zero => intro _; exact he
    | succ m ih =>
      intro h
      have h1 := ih (by omega)
      have h2 := rn_go (p := isLt) (b := bM σ) (n := nM σ) (i := i + m) (by omega)
      rw [show i + (m + 1) = i + m + 1 by omega, h2.2.2, h1]
  intro d
  induction d with
  | zero =>
    intro m N h1 hN
    obtain ⟨N, rfl⟩ : ∃ q, N = q + 1 := ⟨N - 1, by omega⟩
    show b_X12_cut_85 k7 (f_X12_cut_85 k7 N) (nI i) (nI m) _ σ = _
    unfold b_X12_cut_85
    have hs := rn_stop (run m (by omega) |>.trans (by omega : e = i + m))
    have hz : isLt (byt σ (nI (i + m))) = false := by
      rw [byt_nI (by omega) hσ.1]
      rcases hs with hs | hs
      · rw [if_neg (by omega)]; rfl
      · by_cases c : i + m < nM σ
        · rw [if_pos c]; simpa using hs
        · rw [if_neg c]; rfl
    rw [nI_add, e_X12_byteAt (by rw [nIt (by omega)]; omega) hσ.2]
    simp only [Cl, e_X12_isLetter, hz]
    rw [show e - i = m by omega]
    rw [if_pos (show (bI false).toInt = 0 from rfl), nIt (by omega)]
    by_cases c : 8 < m
    · rw [if_pos c, if_pos (by omega)]
    · rw [if_neg c, if_neg (by omega)]
  | succ d ih =>
    intro m N h1 hN
    obtain ⟨N, rfl⟩ : ∃ q, N = q + 1 := ⟨N - 1, by omega⟩
    show b_X12_cut_85 k7 (f_X12_cut_85 k7 N) (nI i) (nI m) _ σ = _
    unfold b_X12_cut_85
    have hg := rn_go (p := isLt) (b := bM σ) (n := nM σ) (i := i + m) (by rw [run m (by omega)]; omega)
    have hb : byt σ (nI (i + m)) = bM σ (i + m) := by rw [byt_nI (by omega) hσ.1, if_pos hg.1]
    have hB : f_X12_byteAt (nI (i + m)) σ = some (bM σ (i + m), σ) := by rw [e_X12_byteAt (by rw [nIt (by omega)]; omega) hσ.2, hb]
    simp only [Cl, nI_add, hB, e_X12_isLetter, hg.2.1]
    rw [if_neg (show ¬ (bI true).toInt = 0 by decide), nIt (by omega)]
    have ih1 := ih (m + 1) N (by omega) (by omega)
    by_cases c : m < 8
    · rw [if_pos (by omega)]
      have ha : f_X12_appends (wv (bM σ) i (min m 8)) (bM σ (i + m)) σ = some (wv (bM σ) i (min (m + 1) 8), σ) := by
        have hl := isLt_iff.mp hg.2.1
        unfold f_X12_appends
        rw [if_neg (by omega), show min (m + 1) 8 = m + 1 by omega, show min m 8 = m by omega]
        rfl
      simp only [ha, Cl, f_X12_cut_118, Bd, nI_1]
      exact ih1
    · rw [if_neg (by omega)]
      simp only [f_X12_cut_118, Bd, nI_1]
      rw [show min (m + 1) 8 = min m 8 by omega] at ih1
      exact ih1
theorem e_cut_208 (hσ : CM σ) {i e : Nat} (hi : i ≤ 2000) (he : rn isDg (bM σ) (nM σ) i = e) : ∀ (d m N : Nat) (v : Int32), i + m + d = e → d < N → v.toInt = iv (bM σ) i (min m 4) → ∃ w : Int32, w.toInt = iv (bM σ) i (min (e - i) 4) ∧ f_X12_cut_208 k7 N (nI i) (nI m) v σ = f_X12_cut_261 k7 (nI i) (nI (e - i)) w (if 4 < e - i then 3 else 2) σ := by
  have hn : nM σ ≤ 2000 := by unfold nM; have := hσ.2; omega
  have hen : e ≤ 2000 := by
    have := (rn_le (p := isDg) (b := bM σ) (n := nM σ) (i := i))
    by_cases c : i ≤ nM σ
    · have := this.2 c; omega
    · have := rn_out (p := isDg) (b := bM σ) (n := nM σ) (i := i) (Or.inl (by omega)); omega
  have run : ∀ m, i + m ≤ e → rn isDg (bM σ) (nM σ) (i + m) = e := by
    intro m
    induction m with
    | zero => intro _; exact he
    | succ m ih =>
      intro h
      have h1 := ih (by omega)
      have h2 := rn_go (p := isDg) (b := bM σ) (n := nM σ) (i := i + m) (by omega)
      rw [show i + (m + 1) = i + m + 1 by omega, h2.2.2, h1]
  have dig : ∀ m, i + m < e → 48 ≤ (bM σ (i + m)).toInt ∧ (bM σ (i + m)).toInt ≤ 57 := fun m h => isDg_iff.mp (rn_go (p := isDg) (b := bM σ) (n := nM σ) (i := i + m) (by rw [run m (by omega)]; omega)).2.1
  have ivb : ∀ m, i + m ≤ e → m ≤ 4 → 0 ≤ iv (bM σ) i m ∧ iv (bM σ) i m < 10 ^ m := by
    intro m
    induction m with
    | zero => intro _ _; exact ⟨Int.le_refl _, (by decide : (0 : Int) < 10 ^ 0)⟩
    | succ m ih =>
      intro h h4
      have h1 := ih (by omega) (by omega)
      have h2 := dig m (by omega)
      show 0 ≤ 10 * iv (bM σ) i m + ((bM σ (i + m)).toInt - 48) ∧ 10 * iv (bM σ) i m + ((bM σ (i + m)).toInt - 48) < 10 ^ (m + 1)
      rw [Int.pow_succ]
      omega
  intro d
  induction d with
  | zero =>
    intro m N v h1 hN hv
    obtain ⟨N, rfl⟩ : ∃ q, N = q + 1 := ⟨N - 1, by omega⟩
    refine ⟨v, by rw [show e - i = m by omega]; exact hv, ?_⟩
    show b_X12_cut_208 k7 (f_X12_cut_208 k7 N) (nI i) (nI m) _ σ = _
    unfold b_X12_cut_208
    have hs := rn_stop (run m (by omega) |>.trans (by omega : e = i + m))
    have hz : isDg (byt σ (nI (i + m))) = false := by
      rw [byt_nI (by omega) hσ.1]
      rcases hs with hs | hs
      · rw [if_neg (by omega)]; rfl
      · by_cases c : i + m < nM σ
        · rw [if_pos c]; simpa using hs
        · rw [if_neg c]; rfl
    rw [nI_add, e_X12_byteAt (by rw [nIt (by omega)]; omega) hσ.2]
    simp only [Cl, e_X12_isDigit, hz]
    rw [show e - i = m by omega]
    rw [if_pos (show (bI false).toInt = 0 from rfl), nIt (by omega)]
    by_cases c : 4 < m
    · rw [if_pos c, if_pos (by omega)]
    · rw [if_neg c, if_neg (by omega)]
  | succ d ih =>
    intro m N v h1 hN hv
    obtain ⟨N, rfl⟩ : ∃ q, N = q + 1 := ⟨N - 1, by omega⟩
    have hg := rn_go (p := isDg) (b := bM σ) (n := nM σ) (i := i + m) (by rw [run m (by omega)]; omega)
    have hb : byt σ (nI (i + m)) = bM σ (i + m) := by rw [byt_nI (by omega) hσ.1, if_pos hg.1]
    have hd := dig m (by omega)
    by_cases c : m < 4
    · have hvb := ivb m (by omega) (by omega)
      have h4 : (10 : Int) ^ m ≤ 1000 := by
        rcases (show m = 0 ∨ m = 1 ∨ m = 2 ∨ m = 3 by omega) with rfl | rfl | rfl | rfl <;> decide
      rw [show min m 4 = m by omega] at hv
      have hm : ((10 : Int32) * v).toInt = 10 * v.toInt := i32_mul (x := 10) (by show _ ≤ (10 : Int) * v.toInt ∧ (10 : Int) * v.toInt ≤ _; omega)
      have ha : ((10 : Int32) * v + bM σ (i + m)).toInt = 10 * v.toInt + (bM σ (i + m)).toInt := by rw [i32_add (by rw [hm]; omega), hm]
      have hs : ((10 : Int32) * v + bM σ (i + m) - 48).toInt = 10 * v.toInt + (bM σ (i + m)).toInt - 48 := by
        have := i32_sub (x := (10 : Int32) * v + bM σ (i + m)) (y := 48) (by rw [ha, show (48 : Int32).toInt = 48 from rfl]; omega)
        rw [this, ha]; rfl
      obtain ⟨w, hw, e1⟩ := ih (m + 1) N ((10 : Int32) * v + bM σ (i + m) - 48) (by omega) (by omega) (by
        rw [hs, show min (m + 1) 4 = m + 1 by omega, hv]
        show _ = 10 * iv (bM σ) i m + ((bM σ (i + m)).toInt - 48)
        omega)
      refine ⟨w, hw, ?_⟩
      rw [← e1]
      show b_X12_cut_208 k7 (f_X12_cut_208 k7 N) (nI i) (nI m) _ σ = _
      unfold b_X12_cut_208
      have hB : f_X12_byteAt (nI (i + m)) σ = some (bM σ (i + m), σ) := by rw [e_X12_byteAt (by rw [nIt (by omega)]; omega) hσ.2, hb]
      simp only [Cl, nI_add, hB, e_X12_isDigit, hg.2.1]
      rw [if_neg (show ¬ (bI true).toInt = 0 by decide), nIt (by omega), if_pos (by omega)]
      simp only [f_X12_cut_244, Bd, nI_1]
    · obtain ⟨w, hw, e1⟩ := ih (m + 1) N v (by omega) (by omega) (by rw [show min (m + 1) 4 = min m 4 by omega]; exact hv)
      refine ⟨w, hw, ?_⟩
      rw [← e1]
      show b_X12_cut_208 k7 (f_X12_cut_208 k7 N) (nI i) (nI m) _ σ = _
      unfold b_X12_cut_208
      have hB : f_X12_byteAt (nI (i + m)) σ = some (bM σ (i + m), σ) := by rw [e_X12_byteAt (by rw [nIt (by omega)]; omega) hσ.2, hb]
      simp only [Cl, nI_add, hB, e_X12_isDigit, hg.2.1]
      rw [if_neg (show ¬ (bI true).toInt = 0 by decide), nIt (by omega), if_neg (by omega)]
      simp only [f_X12_cut_244, Bd, nI_1]
theorem lgc0 {x y : Int64} : (lg_cmp x y).toInt = 0 ↔ x = y := by
  unfold lg_cmp
  by_cases e : x = y
  · subst e
    simp
  · rw [if_neg e]
    split
    · exact ⟨fun h => absurd h (by decide), fun h => absurd h e⟩
    · exact ⟨fun h => absurd h (by decide), fun h => absurd h e⟩
theorem e_cut_146 (hK : KEY σ) {i m : Int32} {v : Int64} : ∀ (d k N : Nat) (y : Int32), k + d = 20 → d < N → y.toInt = kwU k v → ∃ w : Int32, w.toInt = kwU 20 v ∧ f_X12_cut_146 k7 N i m v y (nI k) σ = f_X12_cut_179 k7 i m v w σ := by
  intro d
  induction d with
  | zero =>
    intro k N y h1 hN hy
    obtain ⟨N, rfl⟩ : ∃ q, N = q + 1 := ⟨N - 1, by omega⟩
    refine ⟨y, by rw [show 20 = k by omega]; exact hy, ?_⟩
    show b_X12_cut_146 k7 (f_X12_cut_146 k7 N) i m v y (nI k) σ = _
    unfold b_X12_cut_146
    rw [nIt (by omega), if_neg (by omega)]
  | succ d ih =>
    intro k N y h1 hN hy
    obtain ⟨N, rfl⟩ : ∃ q, N = q + 1 := ⟨N - 1, by omega⟩
    by_cases c : keyL.getD k 0 = v
    · have hz : ((20 : Int32) + nI k).toInt = 20 + (k : Int) := by
        have := i32_add (x := 20) (y := nI k) (by rw [nIt (by omega)]; show _ ≤ (20 : Int) + k ∧ (20 : Int) + k ≤ _; omega)
        rw [this, nIt (by omega)]; rfl
      obtain ⟨w, hw, e1⟩ := ih (k + 1) N ((20 : Int32) + nI k) (by omega) (by omega) (by rw [hz, ← c, kw_hit k (by omega)])
      refine ⟨w, hw, ?_⟩
      rw [← e1]
      show b_X12_cut_146 k7 (f_X12_cut_146 k7 N) i m v y (nI k) σ = _
      unfold b_X12_cut_146
      rw [nIt (by omega), if_pos (by omega), if_pos (by omega)]
      rw [if_pos (by rw [lgc0]; show σ.2.1 243 k = v; rw [hK k (by omega)]; exact c)]
      simp only [Bd, f_X12_cut_173, nI_1]
    · obtain ⟨w, hw, e1⟩ := ih (k + 1) N y (by omega) (by omega) (by rw [kw_miss (by omega) c]; exact hy)
      refine ⟨w, hw, ?_⟩
      rw [← e1]
      show b_X12_cut_146 k7 (f_X12_cut_146 k7 N) i m v y (nI k) σ = _
      unfold b_X12_cut_146
      rw [nIt (by omega), if_pos (by omega), if_pos (by omega)]
      rw [if_neg (by rw [lgc0]; show ¬ σ.2.1 243 k = v; rw [hK k (by omega)]; exact c)]
      simp only [Bd, f_X12_cut_173, nI_1]
end CUTM
