/-! the reference's laws -/
section MLW
variable {b : Nat → Int32} {n sd : Nat} {σc σ s : HS}
/-- the code c from cell p to cell q, within lo and hi -/
def codeAt (s : HS) (lo hi : Nat) (p q : Int32) (c : COD) : Prop := ∃ q0 : Nat, lo ≤ q0 ∧ q0 + c.length ≤ hi ∧ p = nI q0 ∧ q = nI (q0 + c.length) ∧ seg s 261 q0 (cK c) ∧ seg s 262 q0 (cV c)
theorem codeAt.mono {lo hi hi' : Nat} {p q : Int32} {c : COD} {s' : HS} (h : codeAt s lo hi p q c) (hh : hi ≤ hi') (e : ∀ k, lo ≤ k → k < hi → s'.1 261 k = s.1 261 k ∧ s'.1 262 k = s.1 262 k) : codeAt s' lo hi' p q c := by
  obtain ⟨q0, a1, a2, a3, a4, a5, a6⟩ := h
  refine ⟨q0, a1, by omega, a3, a4, a5.same (fun k h1 h2 => ?_), a6.same (fun k h1 h2 => ?_)⟩
  · rw [cK_len] at h2; exact (e k (by omega) (by omega)).1
  · rw [cV_len] at h2; exact (e k (by omega) (by omega)).2
def BRm (s : HS) (lo hi p : Nat) (x : COD × COD × COD) : Prop := s.1 256 p = 1 ∧ codeAt s lo hi (s.1 257 p) (s.1 258 p) x.1 ∧ codeAt s lo hi (s.1 258 p) (s.1 259 p) x.2.1 ∧ codeAt s lo hi (s.1 259 p) (s.1 260 p) x.2.2
def BRe (s : HS) (lo hi p : Nat) (c : COD) : Prop := s.1 256 p = 0 ∧ codeAt s lo hi (s.1 259 p) (s.1 260 p) c
theorem BRm.mono {lo hi hi' p : Nat} {x : COD × COD × COD} {s' : HS} (h : BRm s lo hi p x) (hh : hi ≤ hi') (e : ∀ k, lo ≤ k → k < hi → s'.1 261 k = s.1 261 k ∧ s'.1 262 k = s.1 262 k) (e2 : ∀ a, 256 ≤ a → a ≤ 260 → s'.1 a p = s.1 a p) : BRm s' lo hi' p x := by
  unfold BRm
  rw [e2 256 (by omega) (by omega), e2 257 (by omega) (by omega), e2 258 (by omega) (by omega), e2 259 (by omega) (by omega), e2 260 (by omega) (by omega)]
  exact ⟨h.1, h.2.1.mono hh e, h.2.2.1.mono hh e, h.2.2.2.mono hh e⟩
theorem BRe.mono {lo hi hi' p : Nat} {c : COD} {s' : HS} (h : BRe s lo hi p c) (hh : hi ≤ hi') (e : ∀ k, lo ≤ k → k < hi → s'.1 261 k = s.1 261 k ∧ s'.1 262 k = s.1 262 k) (e2 : ∀ a, 256 ≤ a → a ≤ 260 → s'.1 a p = s.1 a p) : BRe s' lo hi' p c := by
  unfold BRe
  rw [e2 256 (by omega) (by omega), e2 259 (by omega) (by omega), e2 260 (by omega) (by omega)]
  exact ⟨h.1, h.2.mono hh e⟩
/-- the law L in the branches from p on -/
def LWm (s : HS) (lo hi p : Nat) (L : LAWT) : Prop := (∀ i (h : i < L.1.length), BRm s lo hi (p + i) L.1[i]) ∧ BRe s lo hi (p + L.1.length) L.2
def wTm (sd p q a k : Nat) : Bool := wXm sd q a k || (a == 236 && k == 33) || ((a == 259 || a == 260) && k == p)
def wLm (sd p q a k : Nat) : Bool := wXm sd q a k || (a == 236 && k == 33) || ((a == 256 || a == 257 || a == 258 || a == 259 || a == 260) && decide (p ≤ k) && decide (k < 130 * sd + 130))
theorem wXm_mono {q q' a k : Nat} (h : q ≤ q') (e : wXm sd q a k = false) : wXm sd q' a k = false := by
  unfold wXm at e ⊢
  simp only [Bool.or_eq_false_iff] at e ⊢
  refine ⟨⟨e.1.1, ?_⟩, e.2⟩
  have e := e.1.2
  cases c : (a == 261 || a == 262) with
  | false => rfl
  | true => rw [c] at e; simp at e ⊢; omega
theorem wTm_L {p p0 q q0 a k : Nat} (hp : p0 ≤ p) (hp2 : p < 130 * sd + 130) (hq : q0 ≤ q) (e : wLm sd p0 q0 a k = false) : wTm sd p q a k = false := by
  unfold wLm at e
  unfold wTm
  simp only [Bool.or_eq_false_iff] at e ⊢
  refine ⟨⟨wXm_mono hq e.1.1, e.1.2⟩, ?_⟩
  have e := e.2
  by_cases c1 : a = 259
  · subst c1; simp at e ⊢; omega
  · by_cases c2 : a = 260
    · subst c2; simp at e ⊢; omega
    · simp [c1, c2]
theorem wXm_L {p0 q q0 a k : Nat} (hq : q0 ≤ q) (e : wLm sd p0 q0 a k = false) : wXm sd q a k = false := by
  unfold wLm at e
  simp only [Bool.or_eq_false_iff] at e
  exact wXm_mono hq e.1.1
theorem wXm_T {p q a k : Nat} (e : wTm sd p q a k = false) : wXm sd q a k = false := by
  unfold wTm at e
  simp only [Bool.or_eq_false_iff] at e
  exact e.1.1
theorem wL_br {a k p0 q0 : Nat} (h1 : 256 ≤ a) (h2 : a ≤ 260) (h3 : p0 ≤ k) (h4 : k < 130 * sd + 130) : wLm sd p0 q0 a k = true := by
  unfold wLm
  have : a = 256 ∨ a = 257 ∨ a = 258 ∨ a = 259 ∨ a = 260 := by omega
  rcases this with rfl | rfl | rfl | rfl | rfl <;> simp <;> omega
theorem wP_br {a k : Nat} (h1 : 256 ≤ a) (h2 : a ≤ 260) (h3 : 130 * sd ≤ k) (h4 : k < 130 * sd + 130) : wPm sd a k = true := by
  unfold wPm
  have : a = 256 ∨ a = 257 ∨ a = 258 ∨ a = 259 ∨ a = 260 := by omega
  rcases this with rfl | rfl | rfl | rfl | rfl <;> simp <;> omega
theorem mr_term_f {e : FA} {p : Nat} (h1 : 130 * sd ≤ p) (h2 : p < 130 * sd + 130) (hsd : sd ≤ 1) (h : FB sd σc (nI p) e s) : Okv (f_X12_term s) (FB sd σc (nI (p + 1)) e) := by
  unfold f_X12_term f_X12_term_24
  rw [h.2, nIt (by omega), Int.toNat_natCast]
  refine Okv.t (by omega) (Okv.bd ?_)
  have hF := h.wr (a := 259) (k := p) (x := s.1 236 39) (wP_br (by omega) (by omega) h1 h2) (Or.inl (by decide))
  refine Okv.f (by rw [hF.1.1]; have := hF.1.2.1; omega) ?_
  rw [hF.2, nIt (by omega), Int.toNat_natCast]
  refine Okv.t (by omega) (Okv.bd (Okv.bd ?_))
  have hF2 := hF.wr (a := 260) (k := p) (x := (hI s 259 p (s.1 236 39)).1 236 39) (wP_br (by omega) (by omega) h1 h2) (Or.inl (by decide))
  rw [hF2.2, nI_1]
  exact Okv.ret ⟨hF2.1.wr (by unfold wPm; simp) (Or.inr (by decide)), rI_s⟩
theorem mr_term {p q t : Nat} (hT : TKA b n σc) (hsd : sd ≤ 1) (h1 : 130 * sd ≤ p) (h2 : p < 130 * sd + 130) (hq : 420 * sd ≤ q) (h : RZ b n sd σc t s) (h33 : s.1 236 33 = nI p) (h39 : s.1 236 39 = nI q) (h12 : s.1 236 12 = 0) (hb : q ≤ 420 * sd + t) : Okv (f_X12_term s) (PostM (FB sd σc (nI (p + 1))) (exS (kdT b n) (vlT b n) (plI b n) t) (fun a s1 => t < a.1 ∧ RZ b n sd σc a.1 s1 ∧ s1.1 236 33 = nI (p + 1) ∧ s1.1 236 39 = nI (q + a.2.length) ∧ s1.1 236 12 = 0 ∧ q + a.2.length ≤ 420 * sd + a.1 ∧ codeAt s1 q (q + a.2.length) (s1.1 259 p) (s1.1 260 p) a.2 ∧ s1.1 259 p = nI q ∧ frm (wTm sd p q) wl0 s s1)) := by
  unfold f_X12_term
  rw [h33, h39, nIt (by omega), Int.toNat_natCast]
  refine Okv.t (by omega) (Okv.bd ?_)
  generalize hs1 : hI s 259 p (nI q) = s1
  have r1 : RZ b n sd σc t s1 := by rw [← hs1]; exact h.wr (wP_br (by omega) (by omega) h1 h2) (Or.inl (by decide))
  have e33 : s1.1 236 33 = nI p := by rw [← hs1, rI_i (by decide)]; exact h33
  have f1 : frm (wTm sd p q) wl0 s s1 := by rw [← hs1]; exact frm.rf.I (by unfold wTm; simp)
  refine Okv.t r1.2.2.2.2 ?_
  have mx := mr_exS (q0 := q) hT hsd hq r1 (by rw [← hs1, rI_i (by decide)]; exact h39) (by rw [← hs1, rI_i (by decide)]; exact h12) hb
  rw [e33] at mx
  have e : exS (kdT b n) (vlT b n) (plI b n) t = (exS (kdT b n) (vlT b n) (plI b n) t >>= fun a => Except.ok a) := by cases exS (kdT b n) (vlT b n) (plI b n) t <;> rfl
  rw [e]
  refine MB mx (fun e s2 hF => ?_) (fun a s2 _ hx => ?_)
  · unfold f_X12_term_24
    rw [hF.2, nIt (by omega), Int.toNat_natCast]
    refine Okv.t (by omega) (Okv.bd (Okv.bd ?_))
    have hF2 := hF.wr (a := 260) (k := p) (x := s2.1 236 39) (wP_br (by omega) (by omega) h1 h2) (Or.inl (by decide))
    rw [hF2.2, nI_1]
    exact Okv.ret ⟨hF2.1.wr (by unfold wPm; simp) (Or.inr (by decide)), rI_s⟩
  · obtain ⟨a1, a2, a3, a4, a5, a6, a7, a8⟩ := hx
    unfold f_X12_term_24
    have f33 : s2.1 236 33 = nI p := by rw [a8.1 236 33 (by unfold wXm; simp)]; exact e33
    rw [f33, nIt (by omega), Int.toNat_natCast]
    refine Okv.t (by omega) (Okv.bd (Okv.bd ?_))
    rw [rI_i (show (236 : Nat) ≠ 260 by decide), f33, nI_1, a3]
    refine Okv.ret ?_
    show t < a.1 ∧ _
    have e259 : s2.1 259 p = nI q := by rw [a8.1 259 p (by unfold wXm; simp), ← hs1, rI_s]
    refine ⟨a1, (a2.wr (wP_br (by omega) (by omega) h1 h2) (Or.inl (by decide))).wr (by unfold wPm; simp) (Or.inr (by decide)), rI_s, ?_, ?_, a7, ⟨q, Nat.le_refl _, Nat.le_refl _, ?_, ?_, ?_, ?_⟩, ?_, ?_⟩
    · rw [rI_k (by decide), rI_i (by decide)]; exact a3
    · rw [rI_k (by decide), rI_i (by decide)]; exact a6
    · rw [rI_i (by decide), rI_i (by decide)]; exact e259
    · rw [rI_i (by decide), rI_s]
    · exact a4.same (fun k _ _ => by rw [rI_i (by decide), rI_i (by decide)])
    · exact a5.same (fun k _ _ => by rw [rI_i (by decide), rI_i (by decide)])
    · rw [rI_i (by decide), rI_i (by decide)]; exact e259
    · exact ((f1.tr (a8.mono (fun _ _ => wXm_T) (fun _ e => e))).I (by unfold wTm; simp)).I (by unfold wTm; simp)
/-! faults within a law -/
theorem FB.must {e : FA} {v : Int32} {x : Int32} {f : HS → Option HS} {Q : HS → Prop} (h : FB sd σc v e s) (k : Okv (f s) Q) : Okv (Cv (f_X12_must x s) f) Q := Okv.cve (mr_must_f h.1) k
theorem law129_f {e : FA} {p : Nat} {y1 y2 : Int32} (h1 : 130 * sd ≤ p) (h2 : p < 130 * sd + 130) (hsd : sd ≤ 1) (h : FB sd σc (nI p) e s) : Okv (f_X12_tellLaw_129 y1 y2 s) (FLM sd σc e) := by
  unfold f_X12_tellLaw_129
  rw [h.2, nIt (by omega), Int.toNat_natCast]
  refine Okv.t (by omega) (Okv.bd ?_)
  refine Okv.cv (mr_term_f h1 h2 hsd (h.wr (a := 256) (k := p) (wP_br (by omega) (by omega) h1 h2) (Or.inl (by decide)))) (fun s2 hF => ?_)
  exact hF.must (Okv.t (by rw [hF.1.1]; exact hF.1.2.1) (Okv.ret hF.1))
theorem law12_f {e : FA} {N p : Nat} {y1 y2 y3 : Int32} (h1 : 130 * sd ≤ p) (h2 : p < 130 * sd + 130) (hsd : sd ≤ 1) (h : FB sd σc (nI p) e s) : Okv (f_X12_tellLaw_12 (N + 1) y1 y2 y3 s) (FLM sd σc e) := by
  show Okv (b_X12_tellLaw_12 (f_X12_tellLaw_12 N) y1 y2 y3 s) _
  unfold b_X12_tellLaw_12
  exact Okv.f (by rw [h.1.1]; have := h.1.2.1; omega) (law129_f h1 h2 hsd h)
theorem law110_f {e : FA} {N p : Nat} {y1 y2 y3 : Int32} (h1 : 130 * sd ≤ p) (h2 : p + 1 < 130 * sd + 130) (hsd : sd ≤ 1) (h : FB sd σc (nI p) e s) : Okv (f_X12_tellLaw_110 (f_X12_tellLaw_12 (N + 1)) y1 y2 y3 s) (FLM sd σc e) := by
  unfold f_X12_tellLaw_110
  refine h.must (Okv.cv (mr_term_f h1 (by omega) hsd h) (fun s2 hF => ?_))
  exact hF.must (law12_f (by omega) h2 hsd hF)
end MLW
