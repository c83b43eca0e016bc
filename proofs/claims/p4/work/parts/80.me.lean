/-! the reference's expressions -/
def cK (c : COD) : List Int := c.map (fun q => (q.1 : Int))
def cV (c : COD) : List Int := c.map (fun q => q.2)
theorem cK_app {c d : COD} : cK (c ++ d) = cK c ++ cK d := List.map_append
theorem cV_app {c d : COD} : cV (c ++ d) = cV c ++ cV d := List.map_append
theorem cK_len {c : COD} : (cK c).length = c.length := List.length_map _
theorem cV_len {c : COD} : (cV c).length = c.length := List.length_map _
def stk (s : HS) : List Nat → Prop
  | [] => True
  | w :: S => (s.1 263 S.length).toInt = (w : Int) ∧ stk s S
theorem stk.eq {s s' : HS} : ∀ {S : List Nat}, stk s S → (∀ i, i < S.length → s'.1 263 i = s.1 263 i) → stk s' S
  | [], _, _ => trivial
  | w :: S, h, e => ⟨by rw [e _ (by simp)]; exact h.1, stk.eq h.2 (fun i hi => e i (by simp; omega))⟩
def wfS : List Nat → Prop
  | [] => True
  | w :: S => wfS S ∧ (w = 6 ∨ ((w = 8 ∨ w = 9) ∧ noX S) ∨ ((w = 10 ∨ w = 15) ∧ noS S))
theorem wfS_len : ∀ {S : List Nat}, wfS S → (noX S → S.length ≤ 3 * depS S) ∧ (noS S → S.length ≤ 3 * depS S + 1) ∧ S.length ≤ 3 * depS S + 2
  | [], _ => ⟨fun _ => by simp, fun _ => by simp, by simp⟩
  | w :: S, h => by
    obtain ⟨h1, h2⟩ := h
    obtain ⟨a, b1, c⟩ := wfS_len h1
    rcases h2 with rfl | ⟨hw, hn⟩ | ⟨hw, hn⟩
    · rw [depS_open]
      simp only [List.length_cons]
      refine ⟨fun _ => ?_, fun _ => ?_, ?_⟩ <;> omega
    · rw [depS_op (by omega)]
      simp only [List.length_cons]
      have := a hn
      refine ⟨fun e => ?_, fun _ => ?_, ?_⟩
      · have e : w = 6 := e
        omega
      · omega
      · omega
    · rw [depS_op (by omega)]
      simp only [List.length_cons]
      have := b1 hn
      refine ⟨fun e => ?_, fun e => ?_, ?_⟩
      · have e : w = 6 := e
        omega
      · have e : w = 6 ∨ w = 8 ∨ w = 9 := e
        omega
      · omega
theorem outS_go {bs : Bool} {w : Nat} {S : List Nat} {c : COD} (h : ¬ (w = 6 ∨ (bs = true ∧ (w = 8 ∨ w = 9)))) : outS bs (w :: S) c = outS bs S (c ++ [(opk w, 0)]) := by
  show (if w = 6 ∨ (bs = true ∧ (w = 8 ∨ w = 9)) then (w :: S, c) else outS bs S (c ++ [(opk w, 0)])) = _
  rw [if_neg h]
theorem outS_st {bs : Bool} {w : Nat} {S : List Nat} {c : COD} (h : w = 6 ∨ (bs = true ∧ (w = 8 ∨ w = 9))) : outS bs (w :: S) c = (w :: S, c) := by
  show (if w = 6 ∨ (bs = true ∧ (w = 8 ∨ w = 9)) then (w :: S, c) else outS bs S (c ++ [(opk w, 0)])) = _
  rw [if_pos h]
theorem outS_wf {bs : Bool} : ∀ {S : List Nat} {c : COD}, wfS S → wfS (outS bs S c).1 ∧ depS (outS bs S c).1 = depS S ∧ (bs = false → noX (outS bs S c).1) ∧ (bs = true → noS (outS bs S c).1) ∧ (outS bs S c).2.length + (outS bs S c).1.length = c.length + S.length
  | [], c, h => ⟨trivial, rfl, fun _ => trivial, fun _ => trivial, rfl⟩
  | w :: S, c, h => by
    by_cases e : w = 6 ∨ (bs = true ∧ (w = 8 ∨ w = 9))
    · rw [outS_st e]
      refine ⟨h, rfl, fun hb => ?_, fun hb => ?_, rfl⟩
      · rcases e with e | e
        · exact e
        · rw [hb] at e; exact absurd e.1 (by decide)
      · show w = 6 ∨ w = 8 ∨ w = 9
        rcases e with e | e
        · exact Or.inl e
        · exact Or.inr e.2
    · rw [outS_go e]
      obtain ⟨a1, a2, a3, a4, a5⟩ := outS_wf (bs := bs) (c := c ++ [(opk w, 0)]) h.1
      refine ⟨a1, ?_, a3, a4, ?_⟩
      · rw [a2, depS_op (fun e6 => e (Or.inl e6))]
      · rw [a5, List.length_append]; simp; omega
section MEX
variable {b : Nat → Int32} {n sd : Nat} {σc σ : HS}
/-- the waiting operators S, the code c from q0 on -/
def XS (q0 : Nat) (S : List Nat) (c : COD) (s : HS) : Prop := s.1 236 43 = nI S.length ∧ stk s S ∧ s.1 236 39 = nI (q0 + c.length) ∧ seg s 261 q0 (cK c) ∧ seg s 262 q0 (cV c)
def wOut (sd q0 a k : Nat) : Bool := (a == 236 && (k == 39 || k == 43)) || ((a == 261 || a == 262) && decide (q0 ≤ k) && decide (k < 420 * sd + 420))
def wXm (sd q0 a k : Nat) : Bool := (a == 236 && (k == 11 || k == 12 || k == 13 || k == 14 || k == 39 || k == 43)) || ((a == 261 || a == 262) && decide (q0 ≤ k) && decide (k < 420 * sd + 420)) || a == 263
theorem wOut_X {q0 a k : Nat} (h : wXm sd q0 a k = false) : wOut sd q0 a k = false := by
  unfold wXm at h
  unfold wOut
  simp only [Bool.or_eq_false_iff] at h ⊢
  refine ⟨?_, h.1.2⟩
  have h1 := h.1.1
  cases e : (a == 236) with
  | false => rfl
  | true => rw [e] at h1; simp at h1 ⊢; omega
theorem wXm_P {q0 a k : Nat} (hq : 420 * sd ≤ q0) (h : wPm sd a k = false) : wXm sd q0 a k = false := by
  unfold wPm at h
  unfold wXm
  simp only [Bool.or_eq_false_iff] at h ⊢
  obtain ⟨⟨⟨⟨⟨⟨⟨⟨h1, -⟩, -⟩, -⟩, -⟩, -⟩, -⟩, h2⟩, h3⟩ := h
  refine ⟨⟨?_, ?_⟩, h3⟩
  · cases e : (a == 236) with
    | false => rfl
    | true => rw [e] at h1; simp at h1 ⊢; omega
  · cases e : (a == 261 || a == 262) with
    | false => rfl
    | true => rw [e] at h2; simp at h2 ⊢; omega
theorem XS.fr {q0 : Nat} {S : List Nat} {c : COD} {s : HS} (h : XS q0 S c σ) (e1 : s.1 236 43 = σ.1 236 43) (e2 : s.1 236 39 = σ.1 236 39) (e3 : s.1 261 = σ.1 261) (e4 : s.1 262 = σ.1 262) (e5 : s.1 263 = σ.1 263) : XS q0 S c s := by
  obtain ⟨a1, a2, a3, a4, a5⟩ := h
  exact ⟨e1.trans a1, a2.eq (fun i _ => by rw [e5]), e2.trans a3, a4.same (fun q _ _ => by rw [e3]), a5.same (fun q _ _ => by rw [e4])⟩
theorem XS.wr {q0 k : Nat} {S : List Nat} {c : COD} {v : Int32} (h : XS q0 S c σ) (h1 : k ≠ 43) (h2 : k ≠ 39) : XS q0 S c (hI σ 236 k v) := h.fr (rI_k (Ne.symm h1)) (rI_k (Ne.symm h2)) (hI_o (by decide)) (hI_o (by decide)) (hI_o (by decide))
/-- one instruction more -/
def emM (p : Nat) (x1 x2 : Int32) (s : HS) : HS := hI (hI (hI s 261 p x1) 262 p x2) 236 39 (nI (p + 1))
theorem e_emM {p : Nat} {x1 x2 : Int32} (h : σ.1 236 39 = nI p) (hp : p < 840) : f_X12_emit x1 x2 σ = some (emM p x1 x2 σ) := by
  unfold f_X12_emit
  rw [h, nIt (by omega), if_pos (by omega)]
  simp only [Bd]
  rw [rI_i (by decide), h, nIt (by omega), if_pos (by omega), rI_i (by decide), rI_i (by decide), h, nI_1, Int.toNat_natCast]; rfl
theorem XS.em {q0 k : Nat} {v : Int} {S : List Nat} {c : COD} {x1 x2 : Int32} (h : XS q0 S c σ) (h1 : x1.toInt = k) (h2 : x2.toInt = v) : XS q0 S (c ++ [(k, v)]) (emM (q0 + c.length) x1 x2 σ) := by
  obtain ⟨a1, a2, a3, a4, a5⟩ := h
  refine ⟨?_, a2.eq (fun i _ => ?_), ?_, ?_, ?_⟩
  · unfold emM; rw [rI_k (by decide), rI_i (by decide), rI_i (by decide)]; exact a1
  · unfold emM; rw [rI_i (by decide), rI_i (by decide), rI_i (by decide)]
  · unfold emM; rw [rI_s, List.length_append]; rfl
  · rw [cK_app]
    refine seg.app (a4.same (fun q h3 h4 => ?_)) (seg.one ?_)
    · rw [cK_len] at h4
      unfold emM; rw [rI_i (by decide), rI_i (by decide), rI_k (by omega)]
    · rw [cK_len]
      unfold emM; rw [rI_i (by decide), rI_i (by decide), rI_s]; exact h1
  · rw [cV_app]
    refine seg.app (a5.same (fun q h3 h4 => ?_)) (seg.one ?_)
    · rw [cV_len] at h4
      unfold emM; rw [rI_i (by decide), rI_k (by omega), rI_i (by decide)]
    · rw [cV_len]
      unfold emM; rw [rI_i (by decide), rI_s]; exact h2
theorem emM_fr {q0 p : Nat} {x1 x2 : Int32} (h1 : q0 ≤ p) (h2 : p < 420 * sd + 420) : frm (wOut sd q0) wl0 σ (emM p x1 x2 σ) := by
  unfold emM
  exact ((frm.rf.I (by unfold wOut; simp; omega)).I (by unfold wOut; simp; omega)).I (by unfold wOut; simp)
theorem mr_out {q0 : Nat} {bs : Bool} (hq : 420 * sd ≤ q0) (hsd : sd ≤ 1) : ∀ (S : List Nat) (N : Nat) (c : COD) (s : HS), S.length < N → S.length < 64 → q0 + c.length + S.length ≤ 420 * sd + 401 → XS q0 S c s → Okv (f_X12_comesOut_0 N (bI bs) s) (fun s' => XS q0 (outS bs S c).1 (outS bs S c).2 s' ∧ frm (wOut sd q0) wl0 s s') := by
  intro S
  induction S with
  | nil =>
    intro N c s hN h64 hp h
    obtain ⟨N, rfl⟩ : ∃ q, N = q + 1 := ⟨N - 1, by omega⟩
    show Okv (b_X12_comesOut_0 (f_X12_comesOut_0 N) (bI bs) s) _
    unfold b_X12_comesOut_0
    exact Okv.f (by rw [h.1]; decide) (Okv.ret ⟨h, frm.rf⟩)
  | cons w S ih =>
    intro N c s hN h64 hp h
    obtain ⟨N, rfl⟩ : ∃ q, N = q + 1 := ⟨N - 1, by omega⟩
    simp only [List.length_cons] at hN h64 hp
    have h43 : s.1 236 43 = nI (S.length + 1) := h.1
    have hw := h.2.1.1
    have em : nI (S.length + 1) - 1 = nI S.length := (nI_sub (a := 1) (b := S.length + 1) (by omega) (by omega)).trans (congrArg nI (by omega))
    show Okv (b_X12_comesOut_0 (f_X12_comesOut_0 N) (bI bs) s) _
    unfold b_X12_comesOut_0
    rw [h43, em, nIt (by omega), nIt (by omega), Int.toNat_natCast]
    refine Okv.t (by omega) (Okv.t (by omega) (Okv.bd ?_))
    by_cases c6 : w = 6
    · rw [outS_st (Or.inl c6)]
      exact Okv.t (by rw [hw]; omega) (Okv.ret ⟨h, frm.rf⟩)
    · refine Okv.f (by rw [hw]; omega) ?_
      have pop : ¬ (w = 6 ∨ (bs = true ∧ (w = 8 ∨ w = 9))) → Okv (f_X12_comesOut_42 (f_X12_comesOut_0 N) (bI bs) (s.1 263 S.length) s) (fun s' => XS q0 (outS bs (w :: S) c).1 (outS bs (w :: S) c).2 s' ∧ frm (wOut sd q0) wl0 s s') := by
        intro hg
        rw [outS_go hg]
        unfold f_X12_comesOut_42
        rw [h43, em]
        refine Okv.bd ?_
        generalize hs1 : hI s 236 43 (nI S.length) = s1
        have x1 : XS q0 S c s1 := by
          obtain ⟨a1, a2, a3, a4, a5⟩ := h
          rw [← hs1]
          exact ⟨rI_s, a2.2.eq (fun i _ => rI_i (by decide)), by rw [rI_k (by decide)]; exact a3, a4.same (fun q _ _ => rI_i (by decide)), a5.same (fun q _ _ => rI_i (by decide))⟩
        have f1 : frm (wOut sd q0) wl0 s s1 := by rw [← hs1]; exact frm.rf.I (by unfold wOut; simp)
        have go : ∀ v : Int32, v.toInt = (opk w : Nat) → Okv (f_X12_comesOut_84 (f_X12_comesOut_0 N) (bI bs) v s1) (fun s' => XS q0 (outS bs S (c ++ [(opk w, 0)])).1 (outS bs S (c ++ [(opk w, 0)])).2 s' ∧ frm (wOut sd q0) wl0 s s') := by
          intro v hv
          unfold f_X12_comesOut_84
          refine Okv.cve (e_emM x1.2.2.1 (by omega)) ?_
          refine (ih N (c ++ [(opk w, 0)]) _ (by omega) (by omega) (by rw [List.length_append]; simp; omega) (x1.em hv rfl)).mono (fun s' hs => ⟨hs.1, (f1.tr (emM_fr (by omega) (by omega))).tr hs.2⟩)
        refine Okv.i (fun e => go 2 ?_) (fun e1 => Okv.i (fun e => go 3 ?_) (fun e2 => Okv.i (fun e => go 4 ?_) (fun e3 => go 5 ?_)))
        · rw [hw] at e; have : w = 8 := by have : (w : Int) = 8 := e; omega
          subst this; rfl
        · rw [hw] at e; have : w = 9 := by have : (w : Int) = 9 := e; omega
          subst this; rfl
        · rw [hw] at e; have : w = 10 := by have : (w : Int) = 10 := e; omega
          subst this; rfl
        · rw [hw] at e1 e2 e3
          unfold opk
          rw [if_neg (by intro e; subst e; exact e1 rfl), if_neg (by intro e; subst e; exact e2 rfl), if_neg (by intro e; subst e; exact e3 rfl)]; rfl
      cases bs with
      | false => exact Okv.t rfl (pop (by simp; exact c6))
      | true =>
        refine Okv.f (by decide) (Okv.i (fun e => ?_) (fun e1 => Okv.i (fun e => ?_) (fun e2 => pop ?_)))
        · rw [hw] at e
          have : (w : Int) = 8 := e
          rw [outS_st (Or.inr ⟨rfl, Or.inl (by omega)⟩)]
          exact Okv.ret ⟨h, frm.rf⟩
        · rw [hw] at e
          have : (w : Int) = 9 := e
          rw [outS_st (Or.inr ⟨rfl, Or.inr (by omega)⟩)]
          exact Okv.ret ⟨h, frm.rf⟩
        · rw [hw] at e1 e2
          rintro (e | ⟨-, e | e⟩)
          · exact c6 e
          · subst e; exact e1 rfl
          · subst e; exact e2 rfl
/-! faults change little -/
def wFm (a k : Nat) : Bool := a == 236 && (k == 13 || k == 14)
def wGo (a k : Nat) : Bool := a == 236 && (k == 11 || k == 13 || k == 14)
theorem wFm_Go {a k : Nat} (h : wGo a k = false) : wFm a k = false := by
  unfold wGo at h
  unfold wFm
  cases e : (a == 236) with
  | false => rfl
  | true => rw [e] at h; simp at h ⊢; omega
theorem fr_fail {x : Int32} : ∀ s, f_X12_fail x σ = some s → frm wFm wl0 σ s := by
  intro s h
  unfold f_X12_fail at h
  split at h
  · injection h with h; subst h; exact frm.rf
  · simp only [Bd] at h
    split at h
    · injection h with h; subst h; exact (frm.rf.I rfl).I rfl
    · exact absurd h (by simp)
theorem fr_goesOn : ∀ s, f_X12_goesOn σ = some s → frm wGo wl0 σ s := by
  intro s h
  unfold f_X12_goesOn at h
  split at h
  · cases e : f_X12_fail 2 σ with
    | none => rw [e] at h; exact absurd h (by simp [Cv])
    | some s1 =>
      rw [e] at h
      simp only [Cv] at h
      injection h with h; subst h
      exact (fr_fail s1 e).mono (fun _ _ => wFm_Go) (fun _ e => e)
  · simp only [Bd] at h
    injection h with h; subst h
    exact frm.rf.I rfl
theorem Okv.fr {x : Option HS} {P Q : HS → Prop} (h : Okv x P) (k : ∀ s, x = some s → P s → Q s) : Okv x Q := by
  obtain ⟨s, e, h⟩ := h
  exact ⟨s, e, k s e h⟩
theorem mr_goesOn_f {e : FA} (h : FLM sd σc e σ) : Okv (f_X12_goesOn σ) (fun s => FLM sd σc e s ∧ frm wGo wl0 σ s) := by
  obtain ⟨a1, a2, a3, a4, t, ht, a5⟩ := h
  unfold f_X12_goesOn
  rw [a5, nIt (by omega)]
  by_cases c : t = 400
  · exact Okv.t (by omega) (Okv.cve (mr_fail_f (e := e) ⟨a1, a2, a3, a4, t, ht, a5⟩) (Okv.ret ⟨⟨a1, a2, a3, a4, t, ht, a5⟩, frm.rf⟩))
  · refine Okv.f (by omega) (Okv.bd (Okv.ret ?_))
    rw [nI_1]
    refine ⟨⟨?_, a2, ?_, a4.I (by unfold wPm; simp), t + 1, by omega, rI_s⟩, frm.rf.I rfl⟩
    · rw [rI_k (by decide)]; exact a1
    · rw [rI_k (by decide)]; exact a3
theorem XS.go {q0 : Nat} {S : List Nat} {c : COD} {s : HS} {w : Nat → Nat → Bool} {wl : Nat → Bool} (h : XS q0 S c σ) (hf : frm w wl σ s) (h1 : w 236 43 = false) (h2 : w 236 39 = false) (h3 : ∀ k, w 261 k = false) (h4 : ∀ k, w 262 k = false) (h5 : ∀ k, w 263 k = false) : XS q0 S c s := h.fr (hf.1 _ _ h1) (hf.1 _ _ h2) (funext fun k => hf.1 _ _ (h3 k)) (funext fun k => hf.1 _ _ (h4 k)) (funext fun k => hf.1 _ _ (h5 k))
theorem XS.gow {q0 : Nat} {S : List Nat} {c : COD} {s : HS} (h : XS q0 S c σ) (hf : frm wGo wl0 σ s) : XS q0 S c s := h.go hf rfl rfl (fun _ => rfl) (fun _ => rfl) (fun _ => rfl)
theorem FLM.fr {e : FA} {s : HS} {w : Nat → Nat → Bool} {wl : Nat → Bool} (h : FLM sd σc e σ) (hf : frm w wl σ s) (hw : ∀ a k, wPm sd a k = false → w a k = false) (hl : ∀ a, wlPm a = false → wl a = false) (h1 : w 236 11 = false) (h2 : w 236 13 = false) (h3 : w 236 14 = false) : FLM sd σc e s := by
  obtain ⟨a1, a2, a3, a4, t, ht, a5⟩ := h
  exact ⟨by rw [hf.1 _ _ h2]; exact a1, a2, by rw [hf.1 _ _ h3]; exact a3, a4.tr (hf.mono hw hl), t, ht, by rw [hf.1 _ _ h1]; exact a5⟩
theorem RZ.fr {t : Nat} {s : HS} {w : Nat → Nat → Bool} {wl : Nat → Bool} (h : RZ b n sd σc t σ) (hf : frm w wl σ s) (hw : ∀ a k, wPm sd a k = false → w a k = false) (hl : ∀ a, wlPm a = false → wl a = false) (h1 : w 236 11 = false) (h2 : w 236 13 = false) : RZ b n sd σc t s := ⟨h.1.tr (hf.mono hw hl), h.2.1, h.2.2.1, by rw [hf.1 _ _ h1]; exact h.2.2.2.1, by rw [hf.1 _ _ h2]; exact h.2.2.2.2⟩
end MEX
