/-! the reference's reading: primitives -/
def PostM {α : Type} (F : FA → HS → Prop) (x : Except FA α) (K : α → HS → Prop) (s : HS) : Prop := match x with
  | .error e => F e s
  | .ok a => K a s
theorem PostM.err {α : Type} {F : FA → HS → Prop} {x : Except FA α} {K : α → HS → Prop} {e : FA} {s : HS} (h : x = .error e) (hF : F e s) : PostM F x K s := by subst h; exact hF
theorem PostM.ok {α : Type} {F : FA → HS → Prop} {x : Except FA α} {K : α → HS → Prop} {a : α} {s : HS} (h : x = .ok a) (hK : K a s) : PostM F x K s := by subst h; exact hK
/-- what the reading may write, the half sd of the rows -/
def wPm (sd a k : Nat) : Bool :=
  (a == 236 && (k == 11 || k == 12 || k == 13 || k == 14 || k == 15 || k == 16 || k == 20 || k == 33 || k == 39 || k == 43)) ||
  ((a == 245 || a == 249 || a == 252 || a == 253) && k == sd) ||
  ((a == 246 || a == 247 || a == 248) && decide (7 * sd ≤ k) && decide (k < 7 * sd + 7)) ||
  (a == 250 && decide (5 * sd ≤ k) && decide (k < 5 * sd + 5)) ||
  (a == 251 && decide (40 * sd ≤ k) && decide (k < 40 * sd + 40)) ||
  ((a == 254 || a == 255) && decide (4 * sd ≤ k) && decide (k < 4 * sd + 4)) ||
  ((a == 256 || a == 257 || a == 258 || a == 259 || a == 260) && decide (130 * sd ≤ k) && decide (k < 130 * sd + 130)) ||
  ((a == 261 || a == 262) && decide (420 * sd ≤ k) && decide (k < 420 * sd + 420)) || a == 263
def wlPm (a : Nat) : Bool := a == 244
theorem pl_lt {b : Nat → Int32} {n t : Nat} (h : kdT b n t ≠ 0) : plI b n t < plI b n (t + 1) := by
  unfold plI
  have h1 : plT b n t < n := by
    by_cases c : n ≤ plT b n t
    · exact absurd (kd_end rfl c) h
    · omega
  show ((plT b n t : Nat) : Int) < ((rn isBl b n (tkE b n (plT b n t)) : Nat) : Int)
  have h2 : plT b n t < tkE b n (plT b n t) := by
    unfold tkE
    rw [if_neg (by omega)]
    split
    · rename_i hl
      have := (rn_le (p := isLt) (b := b) (n := n) (i := plT b n t + 1)).1
      rw [rn_in h1 hl]; omega
    · split
      · rename_i hl
        have := (rn_le (p := isDg) (b := b) (n := n) (i := plT b n t + 1)).1
        rw [rn_in h1 hl]; omega
      · omega
  have := (rn_le (p := isBl) (b := b) (n := n) (i := tkE b n (plT b n t))).1
  omega
section MPR
variable {b : Nat → Int32} {n sd : Nat} {σc σ : HS}
def RZ (b : Nat → Int32) (n sd : Nat) (σc : HS) (t : Nat) (s : HS) : Prop := frm (wPm sd) wlPm σc s ∧ t ≤ 400 ∧ (∀ p, p < t → kdT b n p ≠ 0) ∧ s.1 236 11 = nI t ∧ (s.1 236 13).toInt = 0
def FLM (sd : Nat) (σc : HS) (e : FA) (s : HS) : Prop := (s.1 236 13).toInt = e.1 ∧ 0 < e.1 ∧ (s.1 236 14).toInt = e.2 ∧ frm (wPm sd) wlPm σc s ∧ ∃ t, t ≤ 400 ∧ s.1 236 11 = nI t
theorem RZ.tk {t : Nat} (hT : TKA b n σc) (h : RZ b n sd σc t σ) : (σ.1 239 t).toInt = kdT b n t ∧ (σ.1 240 t).toInt = plI b n t ∧ (kdT b n t = 2 → (σ.1 241 t).toInt = vlT b n t) ∧ (kdT b n t = 1 → σ.2.1 242 t = nmT b n t) := by
  have := hT t h.2.1 h.2.2.1
  rw [h.1.1 239 t (by unfold wPm; simp), h.1.1 240 t (by unfold wPm; simp), h.1.1 241 t (by unfold wPm; simp), h.1.2.1 242 rfl]
  exact this
theorem mr_is {t : Nat} {x : Int32} (hT : TKA b n σc) (h : RZ b n sd σc t σ) : f_X12_is x σ = some (bI (decide (kdT b n t = x.toInt)), σ) := by
  have ht := h.2.1
  unfold f_X12_is
  rw [h.2.2.2.1, nIt (by omega), if_pos h.2.2.2.2, if_pos (by omega), Int.toNat_natCast, (RZ.tk hT h).1]
  by_cases c : kdT b n t = x.toInt
  · rw [if_pos c, decide_eq_true c]; rfl
  · rw [if_neg c, decide_eq_false c]; rfl
theorem mr_is_f {e : FA} {x : Int32} (h : FLM sd σc e σ) : f_X12_is x σ = some (0, σ) := by
  unfold f_X12_is
  rw [if_neg (by rw [h.1]; have := h.2.1; omega)]
theorem mr_fail_f {e : FA} {x : Int32} (h : FLM sd σc e σ) : f_X12_fail x σ = some σ := by
  unfold f_X12_fail
  rw [if_pos (by rw [h.1]; exact h.2.1)]
theorem mr_fail {t : Nat} {x : Int32} (hT : TKA b n σc) (h : RZ b n sd σc t σ) (hx : 0 < x.toInt) : Okv (f_X12_fail x σ) (FLM sd σc (x.toInt, plI b n t)) := by
  have ht := h.2.1
  unfold f_X12_fail
  refine Okv.f (by rw [h.2.2.2.2]; omega) (Okv.bd ?_)
  have a5 : (hI σ 236 13 x).1 236 11 = nI t := by rw [rI_k (by decide)]; exact h.2.2.2.1
  rw [a5, nIt (by omega), Int.toNat_natCast]
  refine Okv.t (by omega) (Okv.bd (Okv.ret ⟨?_, hx, ?_, ?_, t, ht, ?_⟩))
  · rw [rI_k (by decide), rI_s]
  · rw [rI_s, rI_i (by decide)]; exact (RZ.tk hT h).2.1
  · exact (h.1.I (by unfold wPm; simp)).I (by unfold wPm; simp)
  · rw [rI_k (by decide), rI_k (by decide)]; exact h.2.2.2.1
theorem RZ.step {t : Nat} (h : RZ b n sd σc t σ) (h4 : t < 400) (hk : kdT b n t ≠ 0) : RZ b n sd σc (t + 1) (hI σ 236 11 (nI (t + 1))) := ⟨h.1.I (by unfold wPm; simp), by omega, fun p hp => by
  by_cases e : p = t
  · rw [e]; exact hk
  · exact h.2.2.1 p (by omega), rI_s, by rw [rI_k (by decide)]; exact h.2.2.2.2⟩
theorem mr_goesOn {t : Nat} (hT : TKA b n σc) (h : RZ b n sd σc t σ) (hk : kdT b n t ≠ 0) : Okv (f_X12_goesOn σ) (PostM (FLM sd σc) (advS (plI b n) t) (fun t1 s => t1 = t + 1 ∧ t < 400 ∧ RZ b n sd σc (t + 1) s ∧ s = hI σ 236 11 (nI (t + 1)))) := by
  have ht := h.2.1
  unfold f_X12_goesOn advS
  rw [h.2.2.2.1, nIt (by omega)]
  by_cases c : t = 400
  · rw [if_pos c]
    exact Okv.t (by omega) (Okv.cv (mr_fail hT h (by decide)) (fun s hs => Okv.ret hs))
  · rw [if_neg c]
    refine Okv.f (by omega) (Okv.bd ?_)
    rw [nI_1]
    exact Okv.ret ⟨rfl, by omega, h.step (by omega) hk, rfl⟩
theorem mr_must {t : Nat} {x : Int32} {k : Int} (hT : TKA b n σc) (h : RZ b n sd σc t σ) (hx : x.toInt = k) (h0 : k ≠ 0) : Okv (f_X12_must x σ) (PostM (FLM sd σc) (tkS (kdT b n) (plI b n) k t) (fun t1 s => t1 = t + 1 ∧ t < 400 ∧ kdT b n t = k ∧ RZ b n sd σc (t + 1) s ∧ s = hI σ 236 11 (nI (t + 1)))) := by
  subst hx
  unfold f_X12_must tkS
  refine Okv.cle (mr_is hT h) ?_
  by_cases c : kdT b n t = x.toInt
  · rw [if_pos c, decide_eq_true c]
    refine Okv.f (by decide) (Okv.cv (mr_goesOn hT h (by rw [c]; exact h0)) (fun s hs => Okv.ret ?_))
    revert hs
    cases advS (plI b n) t with
    | error e => exact fun hs => hs
    | ok a => exact fun hs => ⟨hs.1, hs.2.1, c, hs.2.2⟩
  · rw [if_neg c, decide_eq_false c]
    exact Okv.t (by decide) (Okv.cv (mr_fail hT h (by decide)) (fun s hs => Okv.ret hs))
theorem mr_must_f {e : FA} {x : Int32} (h : FLM sd σc e σ) : f_X12_must x σ = some σ := by
  unfold f_X12_must
  rw [mr_is_f h]
  simp only [Cl]
  rw [if_pos (show (0 : Int32).toInt = 0 from rfl), mr_fail_f h]; rfl
/-! later faults -/
def LTM (b : Nat → Int32) (n t : Nat) (s : HS) (lt : FA) : Prop := (s.1 236 15).toInt = lt.1 ∧ (lt.1 ≠ 0 → (s.1 236 16).toInt = lt.2 ∧ lt.2 < plI b n t)
theorem RZ.wr {t a k : Nat} {v : Int32} (h : RZ b n sd σc t σ) (hw : wPm sd a k = true) (h1 : a ≠ 236 ∨ (k ≠ 11 ∧ k ≠ 13)) : RZ b n sd σc t (hI σ a k v) := by
  refine ⟨h.1.I hw, h.2.1, h.2.2.1, ?_, ?_⟩
  · by_cases e : a = 236
    · subst e; rw [rI_k (by omega)]; exact h.2.2.2.1
    · rw [rI_i (Ne.symm e)]; exact h.2.2.2.1
  · by_cases e : a = 236
    · subst e; rw [rI_k (by omega)]; exact h.2.2.2.2
    · rw [rI_i (Ne.symm e)]; exact h.2.2.2.2
theorem FLM.wr {e : FA} {a k : Nat} {v : Int32} (h : FLM sd σc e σ) (hw : wPm sd a k = true) (h1 : a ≠ 236 ∨ (k ≠ 11 ∧ k ≠ 13 ∧ k ≠ 14)) : FLM sd σc e (hI σ a k v) := by
  obtain ⟨a1, a2, a3, a4, t, ht, a5⟩ := h
  refine ⟨?_, a2, ?_, a4.I hw, t, ht, ?_⟩
  · by_cases e : a = 236
    · subst e; rw [rI_k (by omega)]; exact a1
    · rw [rI_i (Ne.symm e)]; exact a1
  · by_cases e : a = 236
    · subst e; rw [rI_k (by omega)]; exact a3
    · rw [rI_i (Ne.symm e)]; exact a3
  · by_cases e : a = 236
    · subst e; rw [rI_k (by omega)]; exact a5
    · rw [rI_i (Ne.symm e)]; exact a5
/-- token t is noted, behind which the reading may stand already (then the place noted lies below that of u) -/
theorem mr_wrong {t u : Nat} {x : Int32} {lt : FA} (hT : TKA b n σc) (h : RZ b n sd σc u σ) (htu : t ≤ u) (hl : (σ.1 236 15).toInt = lt.1 ∧ (lt.1 ≠ 0 → (σ.1 236 16).toInt = lt.2 ∧ (lt.2 < plI b n t ∨ (lt.2 = plI b n t ∧ lt.1 ≤ x.toInt)))) (hx : 0 < x.toInt) : Okv (f_X12_wrong x (nI t) σ) (fun s => RZ b n sd σc u s ∧ (s.1 236 15).toInt = (ltS (plI b n) t x.toInt lt).1 ∧ (s.1 236 16).toInt = (if lt.1 = 0 then plI b n t else lt.2) ∧ (s = σ ∨ ∃ v w, s = hI (hI σ 236 15 v) 236 16 w)) := by
  have hu := h.2.1
  have hp : (σ.1 240 t).toInt = plI b n t := by
    have := hT t (by omega) (fun p hp => h.2.2.1 p (by omega))
    rw [h.1.1 240 t (by unfold wPm; simp)]
    exact this.2.1
  unfold f_X12_wrong
  rw [nIt (by omega), Int.toNat_natCast]
  refine Okv.t (by omega) (Okv.bd ?_)
  refine Okv.f (by rw [h.2.2.2.2]; omega) ?_
  refine Okv.i (fun c => ?_) (fun c => ?_)
  · have e0 : lt.1 = 0 := by rw [← hl.1]; exact c
    unfold f_X12_wrong_46
    refine Okv.bd (Okv.bd (Okv.ret ⟨(h.wr (by unfold wPm; simp) (Or.inr (by decide))).wr (by unfold wPm; simp) (Or.inr (by decide)), ?_, ?_, Or.inr ⟨_, _, rfl⟩⟩))
    · unfold ltS; rw [if_pos e0, rI_k (by decide), rI_s]
    · rw [if_pos e0, rI_s]; exact hp
  · have e0 : lt.1 ≠ 0 := by rw [← hl.1]; exact c
    obtain ⟨l1, l2⟩ := hl.2 e0
    have fin : (fun s => RZ b n sd σc u s ∧ (s.1 236 15).toInt = (ltS (plI b n) t x.toInt lt).1 ∧ (s.1 236 16).toInt = (if lt.1 = 0 then plI b n t else lt.2) ∧ (s = σ ∨ ∃ v w, s = hI (hI σ 236 15 v) 236 16 w)) σ := by
      refine ⟨h, ?_, ?_, Or.inl rfl⟩
      · unfold ltS; rw [if_neg e0]; exact hl.1
      · rw [if_neg e0]; exact l1
    refine Okv.i (fun c1 => Okv.ret fin) (fun c1 => ?_)
    refine Okv.t (by rw [hp, l1] at *; omega) ?_
    exact Okv.f (by rw [hp, l1] at c1; rw [hl.1]; omega) (Okv.ret fin)
theorem LTM.up {t : Nat} {lt : FA} (h : LTM b n t σ lt) (hk : kdT b n t ≠ 0) : LTM b n (t + 1) σ lt := ⟨h.1, fun e => ⟨(h.2 e).1, by have := (h.2 e).2; have := pl_lt hk; omega⟩⟩
theorem LTM.eq {t : Nat} {lt : FA} {s : HS} (h : LTM b n t σ lt) (e1 : s.1 236 15 = σ.1 236 15) (e2 : s.1 236 16 = σ.1 236 16) : LTM b n t s lt := by unfold LTM; rw [e1, e2]; exact h
theorem mr_bounded_f {e : FA} {x1 x2 : Int32} (h : FLM sd σc e σ) : f_X12_bounded x1 x2 σ = some (x1, σ) := by
  unfold f_X12_bounded f_X12_bounded_15
  rw [if_pos (by rw [h.1]; exact h.2.1), mr_fail_f h]; rfl
/-- what a number taken changes -/
def wNmm (a k : Nat) : Bool := a == 236 && (k == 11 || k == 13 || k == 14 || k == 15 || k == 16)
theorem mr_bounded {t : Nat} {x1 x2 : Int32} {lt : FA} (hT : TKA b n σc) (h : RZ b n sd σc t σ) (hl : LTM b n t σ lt) : Ok (f_X12_bounded x1 x2 σ) (fun r s => PostM (FLM sd σc) (numS (kdT b n) (vlT b n) (plI b n) x1.toInt x2.toInt t lt) (fun a s => a.1 = t + 1 ∧ t < 400 ∧ kdT b n t = 2 ∧ a.2.1 = vlT b n t ∧ r.toInt = a.2.1 ∧ RZ b n sd σc (t + 1) s ∧ LTM b n (t + 1) s a.2.2 ∧ frm wNmm wl0 σ s) s) := by
  have ht := h.2.1
  have tk := RZ.tk hT h
  unfold f_X12_bounded
  refine Ok.f (by rw [h.2.2.2.2]; omega) ?_
  refine Ok.cle (mr_is hT h) ?_
  by_cases c : kdT b n t = 2
  · rw [show (decide (kdT b n t = (2 : Int32).toInt)) = true from decide_eq_true c]
    refine Ok.f (by decide) ?_
    rw [h.2.2.2.1, nIt (by omega), Int.toNat_natCast]
    refine Ok.t (by omega) (Ok.bd ?_)
    have hv := tk.2.2.1 c
    have pl1 := pl_lt (b := b) (n := n) (t := t) (by rw [c]; decide)
    -- the INT taken, behind what was noted
    have go : ∀ (s : HS) (lt1 : FA), RZ b n sd σc t s → (s.1 236 15).toInt = lt1.1 → (lt1.1 ≠ 0 → (s.1 236 16).toInt = lt1.2 ∧ lt1.2 < plI b n (t + 1)) → frm wNmm wl0 σ s → lt1 = (if vlT b n t < x1.toInt ∨ x2.toInt < vlT b n t then ltS (plI b n) t 5 lt else lt) → Ok (f_X12_bounded_51 (σ.1 241 t) s) (fun r s => PostM (FLM sd σc) (numS (kdT b n) (vlT b n) (plI b n) x1.toInt x2.toInt t lt) (fun a s => a.1 = t + 1 ∧ t < 400 ∧ kdT b n t = 2 ∧ a.2.1 = vlT b n t ∧ r.toInt = a.2.1 ∧ RZ b n sd σc (t + 1) s ∧ LTM b n (t + 1) s a.2.2 ∧ frm wNmm wl0 σ s) s) := by
      intro s lt1 hs h15 h16 hf e
      unfold f_X12_bounded_51 numS tkS
      rw [if_pos c]
      refine Ok.cv (mr_goesOn hT hs (by rw [c]; decide)) (fun s1 h1 => Ok.ret ?_)
      revert h1
      cases advS (plI b n) t with
      | error e => exact fun h1 => h1
      | ok a =>
        rintro ⟨rfl, h4, h5, h6⟩
        refine ⟨rfl, h4, c, rfl, hv, h5, ?_, ?_⟩
        · rw [← e]
          refine LTM.eq (σ := s) ⟨h15, h16⟩ ?_ ?_ <;> (rw [h6, rI_k (by decide)])
        · rw [h6]; exact hf.I rfl
    have note : (vlT b n t < x1.toInt ∨ x2.toInt < vlT b n t) → Ok (f_X12_bounded_42 (σ.1 241 t) σ) (fun r s => PostM (FLM sd σc) (numS (kdT b n) (vlT b n) (plI b n) x1.toInt x2.toInt t lt) (fun a s => a.1 = t + 1 ∧ t < 400 ∧ kdT b n t = 2 ∧ a.2.1 = vlT b n t ∧ r.toInt = a.2.1 ∧ RZ b n sd σc (t + 1) s ∧ LTM b n (t + 1) s a.2.2 ∧ frm wNmm wl0 σ s) s) := by
      intro hb
      unfold f_X12_bounded_42
      rw [h.2.2.2.1]
      refine Ok.cv (mr_wrong (t := t) (x := 5) hT h (Nat.le_refl _) ⟨hl.1, fun e => ⟨(hl.2 e).1, Or.inl (hl.2 e).2⟩⟩ (by decide)) (fun s hs => ?_)
      obtain ⟨h1, h2, h3, h4⟩ := hs
      refine go s (ltS (plI b n) t 5 lt) h1 h2 (fun e => ?_) ?_ (by rw [if_pos hb])
      · unfold ltS
        by_cases c0 : lt.1 = 0
        · rw [if_pos c0] at h3 ⊢; exact ⟨h3, pl1⟩
        · rw [if_neg c0] at h3 ⊢; exact ⟨h3, by have := (hl.2 c0).2; omega⟩
      · rcases h4 with rfl | ⟨v, w, rfl⟩
        · exact frm.rf
        · exact (frm.rf.I rfl).I rfl
    have plain : ¬ (vlT b n t < x1.toInt ∨ x2.toInt < vlT b n t) → Ok (f_X12_bounded_51 (σ.1 241 t) σ) _ := fun hb => go σ lt h hl.1 (fun e => ⟨(hl.2 e).1, by have := (hl.2 e).2; omega⟩) frm.rf (by rw [if_neg hb])
    refine Ok.i (fun c1 => note (Or.inl (by rw [← hv]; exact c1))) (fun c1 => ?_)
    rw [hv] at c1
    refine Ok.i (fun c2 => note (Or.inr (by rw [← hv]; exact c2))) (fun c2 => ?_)
    rw [hv] at c2
    exact plain (by omega)
  · rw [show (decide (kdT b n t = (2 : Int32).toInt)) = false from decide_eq_false c]
    refine Ok.t (by decide) ?_
    unfold f_X12_bounded_15
    refine Ok.cv (mr_fail (x := 1) hT h (by decide)) (fun s hs => Ok.ret (PostM.err ?_ hs))
    unfold numS tkS
    rw [if_neg c]; rfl
end MPR
