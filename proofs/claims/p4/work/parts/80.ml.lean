/-! later faults are told by numbers from 0 on -/
section OKL
variable {kd vl pl : Nat → Int} {nm : Nat → Int64}
def okG {α : Type} (g : α → FA) (x : Except FA α) : Prop := ∀ a, x = .ok a → 0 ≤ (g a).1
theorem okG.err {α : Type} {g : α → FA} {e : FA} : okG g (.error e) := fun a h => by cases h
theorem okG.ok {α : Type} {g : α → FA} {a : α} (h : 0 ≤ (g a).1) : okG g (.ok a) := fun a1 h1 => by cases h1; exact h
theorem okG.b {α β : Type} {f : α → FA} {g : β → FA} {x : Except FA α} {y : α → Except FA β} (h : okG f x) (k : ∀ a, 0 ≤ (f a).1 → okG g (y a)) : okG g (x >>= y) := by
  cases x with
  | error e => exact okG.err
  | ok a => exact k a (h a rfl)
theorem okG.b0 {α β : Type} {g : β → FA} {x : Except FA α} {y : α → Except FA β} (k : ∀ a, okG g (y a)) : okG g (x >>= y) := by
  cases x with
  | error e => exact okG.err
  | ok a => exact k a
theorem okG.ite {α : Type} {g : α → FA} {P : Prop} {dP : Decidable P} {x y : Except FA α} (h1 : okG g x) (h2 : okG g y) : okG g (if P then x else y) := by
  by_cases c : P
  · rw [if_pos c]; exact h1
  · rw [if_neg c]; exact h2
theorem ltS_ge {t : Nat} {k : Int} {q : FA} (hk : 0 ≤ k) (h : 0 ≤ q.1) : 0 ≤ (ltS pl t k q).1 := by
  unfold ltS
  by_cases c : q.1 = 0
  · rw [if_pos c]; exact hk
  · rw [if_neg c]; exact h
theorem okG_num {a c : Int} {t : Nat} {lt : FA} (h : 0 ≤ lt.1) : okG (fun a : Nat × Int × FA => a.2.2) (numS kd vl pl a c t lt) := okG.b0 (fun t1 => okG.ok (by
  show 0 ≤ (if vl t < a ∨ c < vl t then ltS pl t 5 lt else lt).1
  by_cases e : vl t < a ∨ c < vl t
  · rw [if_pos e]; exact ltS_ge (by decide) h
  · rw [if_neg e]; exact h))
theorem okG_name {t nc : Nat} {ns : Nat → Int64} {lt : FA} (h : 0 ≤ lt.1) : okG (fun a : Nat × FA => a.2) (nameS kd pl nm t nc ns lt) := okG.b0 (fun t1 => okG.ok (by
  show 0 ≤ (if hasN nc ns (nm t) = true then ltS pl t 3 lt else lt).1
  by_cases e : hasN nc ns (nm t) = true
  · rw [if_pos e]; exact ltS_ge (by decide) h
  · rw [if_neg e]; exact h))
theorem okG_thing {nT t nc : Nat} {ns : Nat → Int64} {lt : FA} (h : 0 ≤ lt.1) : okG (fun a : Nat × (Int × Int × Int) × FA => a.2.2) (thingS kd vl pl nm nT t nc ns lt) := okG.ite (okG.b0 (fun _ => (okG_name h).b (fun _ h => (okG_num h).b (fun _ h => (okG_num h).b (fun _ h => (okG_num h).b (fun _ h => okG.b0 (fun _ => okG.ok h))))))) okG.err
theorem okG_hts : ∀ (m k : Nat) (hs : Nat → Int) (t : Nat) (lt : FA), 0 ≤ lt.1 → okG (fun a : Nat × Nat × (Nat → Int) × FA => a.2.2.2) (htsS kd vl pl k hs t lt m) := by
  intro m
  induction m with
  | zero => intro k hs t lt h; exact okG.ite okG.err (okG.b0 (fun _ => okG.ok h))
  | succ m ih => intro k hs t lt h; exact okG.ite ((okG_num h).b (fun _ h => ih _ _ _ _ h)) (okG.b0 (fun _ => okG.ok h))
theorem okG_pat {nP t nc : Nat} {ns : Nat → Int64} {lt : FA} (h : 0 ≤ lt.1) : okG (fun a : Nat × Nat × (Nat → Int) × FA => a.2.2.2) (patS kd vl pl nm nP t nc ns lt) := okG.ite (okG.b0 (fun _ => (okG_name h).b (fun _ h => (okG_num h).b (fun _ h => okG_hts _ _ _ _ _ h)))) okG.err
theorem okG_one {k most : Int} {t : Nat} {lt : FA} (h : 0 ≤ lt.1) : okG (fun a : Nat × Int × FA => a.2.2) (oneS kd vl pl k most t lt) := okG.b0 (fun _ => (okG_num h).b (fun _ h => okG.b0 (fun _ => okG.ok h)))
def pLt (S : PST) : FA := S.2.2.1
theorem okG_tell {S : PST} (h : 0 ≤ S.2.2.1.1) : okG pLt (tellS kd vl pl nm S) := okG.ite ((okG_thing h).b (fun _ h => okG.ok h)) (okG.ite ((okG_pat h).b (fun _ h => okG.ok h)) (okG.ite (okG.b0 (fun _ => okG.ok h)) (okG.ite ((okG_one h).b (fun _ h => okG.ok h)) (okG.ite ((okG_one h).b (fun _ h => okG.ok h)) okG.err))))
end OKL
/-! the reference's reading -/
section MRD
variable {b : Nat → Int32} {n sd : Nat} {σc σ s : HS}
def wRd0 (sd a k : Nat) : Bool := wPm sd a k || (a == 236 && k == 17)
def wRd1 (sd a k : Nat) : Bool := wPm sd a k || (a == 236 && (k == 17 || k == 18 || k == 49 || k == 50 || k == 54 || k == 60)) || a == 266 || a == 267 || a == 275
/-- the reference has begun anew, with the text of the half sd -/
def ACm (sd : Nat) (s : HS) : Prop := s.1 236 18 = nI sd ∧ s.1 236 49 = s.1 253 sd ∧ s.1 236 50 = 0 ∧ s.1 236 54 = 0 ∧ s.1 236 60 = 0 ∧ (∀ i, i < 3 → s.1 275 i = 0) ∧ ∀ i, i < 29 → s.1 267 i = rowB s sd (s.1 245 sd).toInt.toNat (s.1 249 sd).toInt.toNat i ∧ s.1 266 i = rowB s sd (s.1 245 sd).toInt.toNat (s.1 249 sd).toInt.toNat i
/-- what the reference's reading leaves: the answer, the place; the text, where there is no fault -/
def RDm (sd : Nat) (σ0 : HS) (x : Except FA PST) (r : Int32) (s : HS) : Prop := r.toInt = (resS x).1 ∧ (s.1 236 17).toInt = (resS x).2 ∧ (r.toInt ≠ 0 → frm (wRd0 sd) wlPm σ0 s) ∧ (r.toInt = 0 → frm (wRd1 sd) wlPm σ0 s ∧ ACm sd s ∧ ∃ S : PST, x = .ok S ∧ S.2.2.1.1 = 0 ∧ DTm sd s S.2.2.2.1.1 ∧ DPm sd s S.2.2.2.1.2 ∧ DRm sd s S.2.2.2.2.1 ∧ ∃ p q, p ≤ 130 * sd + 130 ∧ q ≤ 420 * sd + 420 ∧ DLm sd s q p S.2.2.2.2.2)
theorem mr_ref {v : Int32} {Q : Int32 → HS → Prop} (h : 0 < (σ.1 236 13).toInt) (k : Q (σ.1 236 13) (hI σ 236 17 v)) : Ok (f_X12_read_164 v σ) Q := by
  unfold f_X12_read_164
  refine Ok.bd ?_
  rw [rI_k (show (13 : Nat) ≠ 17 by decide)]
  exact Ok.t h (Ok.ret k)
theorem mr_134_f {e : FA} (h : FLM sd σc e σ) : Ok (f_X12_read_134 σ) (RDm sd σc (.error e)) := by
  unfold f_X12_read_134
  refine Ok.t (by rw [h.1]; exact h.2.1) ?_
  have h2 := h.2.1
  refine mr_ref (by rw [h.1]; exact h.2.1) ⟨h.1, ?_, fun _ => ?_, fun e0 => ?_⟩
  · rw [rI_s]; exact h.2.2.1
  · exact (h.2.2.2.1.mono (fun a k e => by unfold wRd0 at e; simp only [Bool.or_eq_false_iff] at e; exact e.1) (fun _ e => e)).I (by unfold wRd0; simp)
  · rw [h.1] at e0; omega
theorem mr_134 {S : PST} (hsd : sd ≤ 1) (hlt : 0 ≤ S.2.2.1.1) (h : TMs b n sd σc S σ) : Ok (f_X12_read_134 σ) (RDm sd σc (.ok S)) := by
  obtain ⟨hR, hN, hL, hc, hDT, hDP, hDR, ⟨p, q, e33, hp1, hp2, e39, hq1, hq2, hDL⟩, e12, hside⟩ := h
  have ht := hR.2.1
  have f0 : frm (wRd0 sd) wlPm σc σ := hR.1.mono (fun a k e => by unfold wRd0 at e; simp only [Bool.or_eq_false_iff] at e; exact e.1) (fun _ e => e)
  unfold f_X12_read_134
  refine Ok.f (by rw [hR.2.2.2.2]; omega) ?_
  by_cases c : S.2.2.1.1 = 0
  · have er : resS (.ok S) = (0, -1) := if_pos c
    refine Ok.f (by rw [hL.1]; omega) ?_
    unfold f_X12_read_164
    refine Ok.bd (Ok.f ?_ (Ok.f ?_ (Ok.bd ?_)))
    · rw [rI_k (by decide), hR.2.2.2.2]; omega
    · rw [rI_k (by decide), hL.1]; omega
    rw [rI_k (show (19 : Nat) ≠ 17 by decide), hside]
    generalize hs2 : hI (hI σ 236 17 (-1)) 236 18 (nI sd) = s2
    have g2 : ∀ a k, a ≠ 236 → s2.1 a k = σ.1 a k := fun a k ha => by rw [← hs2, rI_i ha, rI_i ha]
    have F2 : frm (wRd1 sd) wlPm σc s2 := by
      rw [← hs2]
      exact ((hR.1.mono (fun a k e => by unfold wRd1 at e; simp only [Bool.or_eq_false_iff] at e; exact e.1.1.1.1) (fun _ e => e)).I (by unfold wRd1; simp)).I (by unfold wRd1; simp)
    refine Ok.cv (mr_begins (σ := s2) (sd := sd) (nT := S.2.2.2.1.1.1) (nP := S.2.2.2.1.2.1) hsd hDT.2.1 hDP.2.1 (by rw [← hs2, rI_s]) (by rw [g2 _ _ (by decide)]; exact hDT.1) (by rw [g2 _ _ (by decide)]; exact hDP.1)) (fun s3 h3 => ?_)
    obtain ⟨f3, e49, e50, erow⟩ := h3
    have o3 : ∀ a k, a ≠ 236 → a ≠ 267 → s3.1 a k = s2.1 a k := fun a k h1 h2 => f3.1 _ _ (by unfold wBg; simp [h1, h2])
    unfold f_X12_keepsRow
    have k0 := mr_keepsRow (σ := s3) 29 0 5000 s3 (by omega) (by omega) frm.rf (fun i hi => absurd hi (by omega))
    refine Ok.cv k0 (fun s5 h5 => Ok.bd (Ok.bd ?_))
    obtain ⟨f5, e5⟩ := h5
    generalize hs8 : hI (hI s5 236 54 0) 236 60 0 = s8
    have g8 : ∀ a k, a ≠ 236 → s8.1 a k = s5.1 a k := fun a k ha => by rw [← hs8, rI_i ha, rI_i ha]
    have q8 : ∀ k, k ≠ 54 → k ≠ 60 → s8.1 236 k = s5.1 236 k := fun k h1 h2 => by rw [← hs8, rI_k h2, rI_k h1]
    rw [nI0]
    refine (mr_r219 (σ := s8) 3 0 5000 s8 (by omega) (by omega) frm.rf (fun i hi => absurd hi (by omega))).mono (fun r s9 h9 => ?_)
    obtain ⟨rfl, f9, e9⟩ := h9
    have o9 : ∀ a k, a ≠ 275 → s9.1 a k = s8.1 a k := fun a k h1 => f9.1 _ _ (by unfold w275; simp [h1])
    have o5 : ∀ a k, a ≠ 266 → s5.1 a k = s3.1 a k := fun a k h1 => f5.1 _ _ (by unfold w266; simp [h1])
    have al : ∀ a k, a ≠ 236 → a ≠ 266 → a ≠ 267 → a ≠ 275 → s9.1 a k = σ.1 a k := fun a k h1 h2 h3 h4 => by rw [o9 a k h4, g8 a k h1, o5 a k h2, o3 a k h1 h3, g2 a k h1]
    have a36 : ∀ k, k ≠ 54 → k ≠ 60 → k ≠ 49 → k ≠ 50 → s9.1 236 k = s2.1 236 k := fun k h1 h2 h3 h4 => by
      rw [o9 _ _ (by decide), q8 k h1 h2, o5 _ _ (by decide), f3.1 _ _ (by unfold wBg; simp [h3, h4])]
    have frAll : frm (fun a _ => a == 236 || a == 266 || a == 267 || a == 275) wl0 σ s9 := ⟨fun a k e => by
      simp only [Bool.or_eq_false_iff, beq_eq_false_iff_ne, ne_eq] at e
      exact al a k e.1.1.1 e.1.1.2 e.1.2 e.2, fun a _ => by
        rw [f9.2.1 a rfl, ← hs8]
        show s5.2.1 a = _
        rw [f5.2.1 a rfl, f3.2.1 a rfl, ← hs2]; rfl, by
        rw [f9.2.2, ← hs8]
        show s5.2.2 = _
        rw [f5.2.2, f3.2.2, ← hs2]; rfl⟩
    have e245 : s9.1 245 sd = nI S.2.2.2.1.1.1 := by rw [al _ _ (by decide) (by decide) (by decide) (by decide)]; exact hDT.1
    have e249 : s9.1 249 sd = nI S.2.2.2.1.2.1 := by rw [al _ _ (by decide) (by decide) (by decide) (by decide)]; exact hDP.1
    have rb : ∀ i, rowB s9 sd S.2.2.2.1.1.1 S.2.2.2.1.2.1 i = rowB s2 sd S.2.2.2.1.1.1 S.2.2.2.1.2.1 i := fun i => by
      unfold rowB
      rw [al 248 _ (by decide) (by decide) (by decide) (by decide), g2 248 _ (by decide)]
    have wo : ∀ (a k : Nat), 245 ≤ a → a ≤ 262 → (a == 236 || a == 266 || a == 267 || a == 275) = false := fun a _ h1 h2 => by simp; omega
    have h7 := hDT.2.1
    have h5 := hDP.2.1
    refine ⟨by rw [er]; rfl, ?_, fun h0 => absurd rfl h0, fun _ => ⟨?_, ⟨?_, ?_, ?_, ?_, ?_, e9, fun i hi => ?_⟩, S, rfl, c, hDT.fr frAll (fun a k h1 h2 => wo a k (by omega) (by omega)), hDP.fr frAll (fun a k h1 h2 => wo a k (by omega) (by omega)), hDR.fr frAll (fun a k h1 h2 => wo a k (by omega) (by omega)), p, q, by omega, by omega, hDL.fr frAll (fun a k h1 h2 => wo a k (by omega) (by omega))⟩⟩
    · rw [er, a36 17 (by decide) (by decide) (by decide) (by decide), ← hs2, rI_k (by decide), rI_s]; rfl
    · refine ((F2.tr (f3.mono (fun a k e => ?_) (fun _ _ => rfl))).tr (f5.mono (fun a k e => ?_) (fun _ _ => rfl))).tr ((?_ : frm (wRd1 sd) wlPm s5 s8).tr (f9.mono (fun a k e => ?_) (fun _ _ => rfl)))
      · unfold wRd1 at e
        unfold wBg
        simp only [Bool.or_eq_false_iff] at e ⊢
        refine ⟨e.1.2, ?_⟩
        have e := e.1.1.1.2
        cases c : (a == 236) with
        | false => rfl
        | true => rw [c] at e; simp at e ⊢; omega
      · unfold wRd1 at e
        simp only [Bool.or_eq_false_iff] at e
        exact e.1.1.2
      · rw [← hs8]
        exact (frm.rf.I (by unfold wRd1; simp)).I (by unfold wRd1; simp)
      · unfold wRd1 at e
        simp only [Bool.or_eq_false_iff] at e
        exact e.2
    · rw [a36 18 (by decide) (by decide) (by decide) (by decide), ← hs2, rI_s]
    · rw [o9 236 49 (by decide), q8 49 (by decide) (by decide), o5 _ _ (by decide), e49, al 253 sd (by decide) (by decide) (by decide) (by decide), g2 _ _ (by decide)]
    · rw [o9 236 50 (by decide), q8 50 (by decide) (by decide), o5 _ _ (by decide), e50]
    · rw [o9 236 54 (by decide), ← hs8, rI_k (by decide), rI_s]
    · rw [o9 236 60 (by decide), ← hs8, rI_s]
    · rw [e245, e249, nIt (by omega), nIt (by omega), Int.toNat_natCast, Int.toNat_natCast, rb i, ← erow i hi]
      refine ⟨?_, ?_⟩
      · rw [o9 _ _ (by decide), g8 _ _ (by decide), o5 _ _ (by decide)]
      · rw [o9 _ _ (by decide), g8 _ _ (by decide), e5 i hi]
  · have er : resS (.ok S) = S.2.2.1 := if_neg c
    have hl2 := hL.2 c
    refine Ok.t (by rw [hL.1]; omega) ?_
    unfold f_X12_read_164
    refine Ok.bd (Ok.f ?_ (Ok.t ?_ (Ok.ret ⟨?_, ?_, fun _ => ?_, fun e0 => ?_⟩)))
    · rw [rI_k (by decide), hR.2.2.2.2]; omega
    · rw [rI_k (by decide), hL.1]; omega
    · rw [rI_k (by decide), er]; exact hL.1
    · rw [rI_s, er]; exact hl2.1
    · exact f0.I (by unfold wRd0; simp)
    · rw [rI_k (by decide), hL.1] at e0; exact absurd e0 c
theorem mr_top (hT : TKA b n σc) (hsd : sd ≤ 1) : ∀ (d N : Nat) (S : PST) (s : HS), 401 - S.1 < d → d < N → 0 ≤ S.2.2.1.1 → TMs b n sd σc S s → Ok (f_X12_read_112 N s) (RDm sd σc (topS (kdT b n) (vlT b n) (plI b n) (nmT b n) d S)) := by
  intro d
  induction d with
  | zero => intro N S s h; omega
  | succ d ih =>
    intro N S s hd hN hlt h
    obtain ⟨N, rfl⟩ : ∃ q, N = q + 1 := ⟨N - 1, by omega⟩
    have ht := h.1.2.1
    show Ok (b_X12_read_112 (f_X12_read_112 N) s) (RDm sd σc (if kdT b n S.1 = 0 then .ok S else tellS (kdT b n) (vlT b n) (plI b n) (nmT b n) S >>= fun s1 => topS (kdT b n) (vlT b n) (plI b n) (nmT b n) d s1))
    unfold b_X12_read_112
    refine Ok.t h.1.2.2.2.2 (Ok.cle (mr_is hT h.1) ?_)
    by_cases c0 : kdT b n S.1 = 0
    · rw [if_pos c0, show (decide (kdT b n S.1 = (0 : Int32).toInt)) = true from decide_eq_true c0]
      exact Ok.f (by decide) (mr_134 hsd hlt h)
    · rw [if_neg c0, show (decide (kdT b n S.1 = (0 : Int32).toInt)) = false from decide_eq_false c0]
      refine Ok.t (by decide) (Ok.cv (mr_tellOne hT hsd c0 h) (fun s1 h1 => ?_))
      have hl := okG_tell (kd := kdT b n) (vl := vlT b n) (pl := plI b n) (nm := nmT b n) hlt
      revert h1
      cases ex : tellS (kdT b n) (vlT b n) (plI b n) (nmT b n) S with
      | error e =>
        intro hF
        obtain ⟨N1, rfl⟩ : ∃ q, N = q + 1 := ⟨N - 1, by omega⟩
        show Ok (b_X12_read_112 (f_X12_read_112 N1) s1) (RDm sd σc (.error e))
        unfold b_X12_read_112
        exact Ok.f (by rw [hF.1]; have := hF.2.1; omega) (mr_134_f hF)
      | ok S1 =>
        rintro ⟨h2, h3⟩
        exact ih N S1 s1 (by omega) (by omega) (hl S1 ex) h3
end MRD
