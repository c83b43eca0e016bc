/-! readings of the same bytes are alike -/
section CGR
variable {b b' : Nat → Int32} {n : Nat}
theorem rnF_cg {p : Int32 → Bool} (h : ∀ i, i < n → b i = b' i) : ∀ f i, i + f ≤ n → rnF p b f i = rnF p b' f i := by
  intro f
  induction f with
  | zero => intro i _; rfl
  | succ f ih =>
    intro i hi
    show (if p (b i) = true then rnF p b f (i + 1) else i) = (if p (b' i) = true then rnF p b' f (i + 1) else i)
    rw [h i (by omega), ih (i + 1) (by omega)]
theorem rn_cg {p : Int32 → Bool} (h : ∀ i, i < n → b i = b' i) {i : Nat} : rn p b n i = rn p b' n i := by
  unfold rn
  by_cases c : i ≤ n
  · exact rnF_cg h _ _ (by omega)
  · rw [show n - i = 0 by omega]; rfl
theorem wv_cg (h : ∀ i, i < n → b i = b' i) {i : Nat} : ∀ m, i + m ≤ n → wv b i m = wv b' i m := by
  intro m
  induction m with
  | zero => intro _; rfl
  | succ m ih =>
    intro hm
    show 27 * wv b i m + ((b (i + m) - 97) + 1).toInt64 = 27 * wv b' i m + ((b' (i + m) - 97) + 1).toInt64
    rw [ih (by omega), h (i + m) (by omega)]
theorem iv_cg (h : ∀ i, i < n → b i = b' i) {i : Nat} : ∀ m, i + m ≤ n → iv b i m = iv b' i m := by
  intro m
  induction m with
  | zero => intro _; rfl
  | succ m ih =>
    intro hm
    show 10 * iv b i m + ((b (i + m)).toInt - 48) = 10 * iv b' i m + ((b' (i + m)).toInt - 48)
    rw [ih (by omega), h (i + m) (by omega)]
theorem rn_m {p : Int32 → Bool} {i : Nat} : rn p b' n i - i = 0 ∨ i + (rn p b' n i - i) ≤ n := by
  by_cases c : n ≤ i
  · rw [rn_out (Or.inl c)]; omega
  · have := (rn_le (p := p) (b := b') (n := n) (i := i))
    omega
theorem wv_rg (h : ∀ i, i < n → b i = b' i) {p : Int32 → Bool} {i : Nat} : wv b i (rn p b n i - i) = wv b' i (rn p b' n i - i) := by
  rw [rn_cg h]
  rcases rn_m (b' := b') (n := n) (p := p) (i := i) with c | c
  · rw [c]; rfl
  · exact wv_cg h _ c
theorem ivb_rg (h : ∀ i, i < n → b i = b' i) {p : Int32 → Bool} {i : Nat} : iv b i (rn p b n i - i) = iv b' i (rn p b' n i - i) := by
  rw [rn_cg h]
  rcases rn_m (b' := b') (n := n) (p := p) (i := i) with c | c
  · rw [c]; rfl
  · exact iv_cg h _ c
theorem tkK_cg (h : ∀ i, i < n → b i = b' i) {i : Nat} : tkK b n i = tkK b' n i := by
  unfold tkK
  by_cases c : n ≤ i
  · rw [if_pos c, if_pos c]
  · rw [if_neg c, if_neg c, h i (by omega), rn_cg h, rn_cg h, ← rn_cg (p := isLt) h, wv_rg h, rn_cg h]
theorem tkE_cg (h : ∀ i, i < n → b i = b' i) {i : Nat} : tkE b n i = tkE b' n i := by
  unfold tkE
  by_cases c : n ≤ i
  · rw [if_pos c, if_pos c]
  · rw [if_neg c, if_neg c, h i (by omega), rn_cg h, rn_cg h]
theorem plT_cg (h : ∀ i, i < n → b i = b' i) : ∀ j, plT b n j = plT b' n j := by
  intro j
  induction j with
  | zero => exact rn_cg h
  | succ j ih =>
    show rn isBl b n (tkE b n (plT b n j)) = rn isBl b' n (tkE b' n (plT b' n j))
    rw [ih, tkE_cg h, rn_cg h]
theorem readS_cg (h : ∀ i, i < n → b i = b' i) : readS (kdT b n) (vlT b n) (plI b n) (nmT b n) = readS (kdT b' n) (vlT b' n) (plI b' n) (nmT b' n) := by
  have e1 : kdT b n = kdT b' n := funext fun j => by unfold kdT; rw [plT_cg h, tkK_cg h]
  have e2 : vlT b n = vlT b' n := funext fun j => by unfold vlT; rw [plT_cg h, ivb_rg h]
  have e3 : plI b n = plI b' n := funext fun j => by unfold plI; rw [plT_cg h]
  have e4 : nmT b n = nmT b' n := funext fun j => by unfold nmT; rw [plT_cg h, wv_rg h]
  rw [e1, e2, e3, e4]
end CGR
/-! the reference begins anew -/
section MBG
variable {b : Nat → Int32} {n sd : Nat} {σc σ s : HS}
def w267 (a _k : Nat) : Bool := a == 267
def wBg (a k : Nat) : Bool := a == 267 || (a == 236 && (k == 49 || k == 50))
/-- the row that a text begins with -/
def rowB (s : HS) (sd nT nP i : Nat) : Int32 := if i = 28 then -1 else if i = 26 then (if 0 < nP then 0 else -2) else if 7 ≤ i ∧ i < 7 + nT then s.1 248 (7 * sd + (i - 7)) else 0
theorem w267_B {a k : Nat} (h : wBg a k = false) : w267 a k = false := by
  unfold wBg at h
  simp only [Bool.or_eq_false_iff] at h
  exact h.1
theorem z7m : ∀ z, z < 2 → (7 : Int32) * nI z = nI (7 * z) := by decide +kernel
theorem mr_bg2 {Q : HS → Prop} (k1 : ∀ s2, frm w267 wl0 σ s2 → (∀ i, i < 29 → s2.1 267 i = 0) → Okv (f_X12_begins_23 5000 0 s2) Q) : ∀ (d k N : Nat) (s : HS), k + d = 29 → d < N → frm w267 wl0 σ s → (∀ i, i < k → s.1 267 i = 0) → Okv (f_X12_begins_2 N (nI k) s) Q := by
  intro d
  induction d with
  | zero =>
    intro k N s hk hN hf hz
    obtain ⟨N, rfl⟩ : ∃ q, N = q + 1 := ⟨N - 1, by omega⟩
    show Okv (b_X12_begins_2 (f_X12_begins_2 N) (nI k) s) _
    unfold b_X12_begins_2
    rw [nIt (by omega)]
    exact Okv.f (by omega) (k1 s hf (fun i hi => hz i (by omega)))
  | succ d ih =>
    intro k N s hk hN hf hz
    obtain ⟨N, rfl⟩ : ∃ q, N = q + 1 := ⟨N - 1, by omega⟩
    show Okv (b_X12_begins_2 (f_X12_begins_2 N) (nI k) s) _
    unfold b_X12_begins_2
    rw [nIt (by omega), Int.toNat_natCast]
    refine Okv.t (by omega) (Okv.t (by omega) (Okv.bd (Okv.bd ?_)))
    rw [nI_1]
    refine ih (k + 1) N _ (by omega) (by omega) (hf.I rfl) (fun i hi => ?_)
    by_cases c : i = k
    · rw [c, rI_s]
    · rw [rI_k c]; exact hz i (by omega)
theorem mr_bg23 {nT nP : Nat} (hsd : sd ≤ 1) (h7 : nT ≤ 7) (h5 : nP ≤ 5) (e18 : σ.1 236 18 = nI sd) (e245 : σ.1 245 sd = nI nT) (e249 : σ.1 249 sd = nI nP) : ∀ (d k N : Nat) (s : HS), k + d = nT → d < N → frm w267 wl0 σ s → (∀ i, i < 29 → s.1 267 i = (if 7 ≤ i ∧ i < 7 + k then σ.1 248 (7 * sd + (i - 7)) else 0)) → Okv (f_X12_begins_23 N (nI k) s) (fun s1 => frm wBg wl0 σ s1 ∧ s1.1 236 49 = σ.1 253 sd ∧ s1.1 236 50 = 0 ∧ ∀ i, i < 29 → s1.1 267 i = rowB σ sd nT nP i) := by
  have fo : ∀ {s : HS} {a k : Nat}, frm w267 wl0 σ s → a ≠ 267 → s.1 a k = σ.1 a k := fun hf ha => hf.1 _ _ (by unfold w267; simp [ha])
  intro d
  induction d with
  | zero =>
    intro k N s hk hN hf hz
    obtain ⟨N, rfl⟩ : ∃ q, N = q + 1 := ⟨N - 1, by omega⟩
    obtain rfl : k = nT := by omega
    show Okv (b_X12_begins_23 (f_X12_begins_23 N) (nI k) s) _
    unfold b_X12_begins_23
    rw [fo (a := 236) hf (by decide), e18, nIt (by omega), Int.toNat_natCast, fo (a := 245) hf (by decide), e245, fo (a := 249) hf (by decide), e249, nIt (by omega), nIt (by omega)]
    have fin : ∀ v : Int32, v = (if 0 < nP then 0 else -2) → Okv (f_X12_begins_89 v 26 s) (fun s1 => frm wBg wl0 σ s1 ∧ s1.1 236 49 = σ.1 253 sd ∧ s1.1 236 50 = 0 ∧ ∀ i, i < 29 → s1.1 267 i = rowB σ sd k nP i) := by
      intro v hv
      unfold f_X12_begins_89
      refine Okv.t (by decide) (Okv.bd (Okv.bd ?_))
      rw [rI_i (show (236 : Nat) ≠ 267 by decide), rI_i (show (236 : Nat) ≠ 267 by decide), fo (a := 236) hf (by decide), e18, nIt (by omega), Int.toNat_natCast]
      refine Okv.t (by omega) (Okv.bd (Okv.bd (Okv.ret ⟨?_, ?_, ?_, fun i hi => ?_⟩)))
      · exact ((((hf.mono (fun _ _ => w267_B) (fun _ e => e)).I rfl).I rfl).I rfl).I rfl
      · rw [rI_k (by decide), rI_s, rI_i (by decide), rI_i (by decide), fo (a := 253) hf (by decide)]
      · rw [rI_s]
      · rw [rI_i (by decide), rI_i (by decide)]
        unfold rowB
        by_cases c28 : i = 28
        · rw [if_pos c28, c28, rI_s]
        · rw [if_neg c28, rI_k c28]
          by_cases c26 : i = 26
          · rw [if_pos c26, c26]
            exact rI_s.trans hv
          · rw [if_neg c26]
            exact (rI_k c26).trans (hz i hi)
    refine Okv.t (by omega) (Okv.f (by omega) (Okv.t (by omega) (Okv.i (fun c => fin 0 (by rw [if_pos (by omega)])) (fun c => fin (-2) (by rw [if_neg (by omega)])))))
  | succ d ih =>
    intro k N s hk hN hf hz
    obtain ⟨N, rfl⟩ : ∃ q, N = q + 1 := ⟨N - 1, by omega⟩
    show Okv (b_X12_begins_23 (f_X12_begins_23 N) (nI k) s) _
    unfold b_X12_begins_23
    rw [fo (a := 236) hf (by decide), e18, nIt (by omega), Int.toNat_natCast, fo (a := 245) hf (by decide), e245, nIt (by omega), nIt (by omega), z7m sd (by omega), nI_add, show (7 : Int32) + nI k = nI (7 + k) from nI_add (a := 7) (b := k), nIt (by omega), nIt (by omega), Int.toNat_natCast, Int.toNat_natCast]
    refine Okv.t (by omega) (Okv.t (by omega) (Okv.t (by omega) (Okv.t (by omega) (Okv.bd (Okv.bd ?_)))))
    rw [nI_1, fo (a := 248) hf (by decide)]
    refine ih (k + 1) N _ (by omega) (by omega) (hf.I rfl) (fun i hi => ?_)
    by_cases c : i = 7 + k
    · rw [c, rI_s, if_pos (by omega), show 7 + k - 7 = k by omega]
    · rw [rI_k c, hz i hi]
      by_cases c2 : 7 ≤ i ∧ i < 7 + k
      · rw [if_pos c2, if_pos (by omega)]
      · rw [if_neg c2, if_neg (by omega)]
theorem mr_begins {nT nP : Nat} (hsd : sd ≤ 1) (h7 : nT ≤ 7) (h5 : nP ≤ 5) (e18 : σ.1 236 18 = nI sd) (e245 : σ.1 245 sd = nI nT) (e249 : σ.1 249 sd = nI nP) : Okv (f_X12_begins σ) (fun s1 => frm wBg wl0 σ s1 ∧ s1.1 236 49 = σ.1 253 sd ∧ s1.1 236 50 = 0 ∧ ∀ i, i < 29 → s1.1 267 i = rowB σ sd nT nP i) := by
  unfold f_X12_begins
  rw [nI0]
  refine mr_bg2 (σ := σ) (fun s2 hf hz => ?_) 29 0 5000 σ (by omega) (by omega) frm.rf (fun i hi => absurd hi (by omega))
  rw [nI0]
  exact mr_bg23 hsd h7 h5 e18 e245 e249 nT 0 5000 s2 (by omega) (by omega) hf (fun i hi => by rw [hz i hi, if_neg (by omega)])
def w266 (a _k : Nat) : Bool := a == 266
theorem mr_keepsRow : ∀ (d k N : Nat) (s : HS), k + d = 29 → d < N → frm w266 wl0 σ s → (∀ i, i < k → s.1 266 i = σ.1 267 i) → Okv (f_X12_keepsRow_2 N (nI k) s) (fun s1 => frm w266 wl0 σ s1 ∧ ∀ i, i < 29 → s1.1 266 i = σ.1 267 i) := by
  intro d
  induction d with
  | zero =>
    intro k N s hk hN hf hz
    obtain ⟨N, rfl⟩ : ∃ q, N = q + 1 := ⟨N - 1, by omega⟩
    show Okv (b_X12_keepsRow_2 (f_X12_keepsRow_2 N) (nI k) s) _
    unfold b_X12_keepsRow_2
    rw [nIt (by omega)]
    exact Okv.f (by omega) (Okv.ret ⟨hf, fun i hi => hz i (by omega)⟩)
  | succ d ih =>
    intro k N s hk hN hf hz
    obtain ⟨N, rfl⟩ : ∃ q, N = q + 1 := ⟨N - 1, by omega⟩
    show Okv (b_X12_keepsRow_2 (f_X12_keepsRow_2 N) (nI k) s) _
    unfold b_X12_keepsRow_2
    rw [nIt (by omega), Int.toNat_natCast]
    refine Okv.t (by omega) (Okv.t (by omega) (Okv.t (by omega) (Okv.bd (Okv.bd ?_))))
    rw [nI_1, hf.1 267 k (by rfl)]
    refine ih (k + 1) N _ (by omega) (by omega) (hf.I rfl) (fun i hi => ?_)
    by_cases c : i = k
    · rw [c, rI_s]
    · rw [rI_k c]; exact hz i (by omega)
def w275 (a _k : Nat) : Bool := a == 275
theorem mr_r219 : ∀ (d k N : Nat) (s : HS), k + d = 3 → d < N → frm w275 wl0 σ s → (∀ i, i < k → s.1 275 i = 0) → Ok (f_X12_read_219 N (nI k) s) (fun r s1 => r = 0 ∧ frm w275 wl0 σ s1 ∧ ∀ i, i < 3 → s1.1 275 i = 0) := by
  intro d
  induction d with
  | zero =>
    intro k N s hk hN hf hz
    obtain ⟨N, rfl⟩ : ∃ q, N = q + 1 := ⟨N - 1, by omega⟩
    show Ok (b_X12_read_219 (f_X12_read_219 N) (nI k) s) _
    unfold b_X12_read_219
    rw [nIt (by omega)]
    exact Ok.f (by omega) (Ok.ret ⟨rfl, hf, fun i hi => hz i (by omega)⟩)
  | succ d ih =>
    intro k N s hk hN hf hz
    obtain ⟨N, rfl⟩ : ∃ q, N = q + 1 := ⟨N - 1, by omega⟩
    show Ok (b_X12_read_219 (f_X12_read_219 N) (nI k) s) _
    unfold b_X12_read_219
    rw [nIt (by omega), Int.toNat_natCast]
    refine Ok.t (by omega) (Ok.t (by omega) (Ok.bd (Ok.bd ?_)))
    rw [nI_1]
    refine ih (k + 1) N _ (by omega) (by omega) (hf.I rfl) (fun i hi => ?_)
    by_cases c : i = k
    · rw [c, rI_s]
    · rw [rI_k c]; exact hz i (by omega)
end MBG
