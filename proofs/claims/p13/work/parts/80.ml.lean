/-! later faults are told by numbers from 0 on -/
section OKL
variable {kd vl pl : Nat → Int} {nm : Nat → Int64}
def okG {α : Type} (g : α → FA) (x : Except FA α) : Prop := ∀ a, x = .ok a → 0 ≤ (g a).1
theorem okG.err {α : Type} {g : α → FA} {e : FA} : okG g (.error e) := fun a h => by cases h
theorem okG.ok {α : Type} {g : α → FA} {a : α} (h : 0 ≤ (g a).1) : okG g (.ok a) := fun a1 h1 => by cases h1; exact h
theorem okG.b {α β : Type} {f : α → FA} {g : β → FA} {x : Except FA α} {y : α → Except FA β} (h : okG f x) (k : ∀ a, 0 ≤ (f a).1 → okG g (y a)) : okG g (x >>= y) := by
  cases x with
  | error e => exact okG.err
  | ok a => exact k a (h a rfl)
theorem okG.b0 {α β : Type} {g : β → FA} {x : Except FA α} {y : α → Except FA β} (k : ∀ a, okG g (y a)) : okG g (x >>= y) := by
  cases x with
  | error e => exact okG.err
  | ok a => exact k a
theorem okG.ite {α : Type} {g : α → FA} {P : Prop} {dP : Decidable P} {x y : Except FA α} (h1 : okG g x) (h2 : okG g y) : okG g (if P then x else y) := by
  by_cases c : P
  · rw [if_pos c]; exact h1
  · rw [if_neg c]; exact h2
theorem ltS_ge {t : Nat} {k : Int} {q : FA} (hk : 0 ≤ k) (h : 0 ≤ q.1) : 0 ≤ (ltS pl t k q).1 := by
  unfold ltS
  by_cases c : q.1 = 0
  · rw [if_pos c]; exact hk
  · rw [if_neg c]; exact h
theorem okG_num {a c : Int} {t : Nat} {lt : FA} (h : 0 ≤ lt.1) : okG (fun a : Nat × Int × FA => a.2.2) (numS kd vl pl a c t lt) := okG.b0 (fun t1 => okG.ok (by
  show 0 ≤ (if vl t < a ∨ c < vl t then ltS pl t 5 lt else lt).1
  by_cases e : vl t < a ∨ c < vl t
  · rw [if_pos e]; exact ltS_ge (by decide) h
  · rw [if_neg e]; exact h))
theorem okG_name {t nc : Nat} {ns : Nat → Int64} {lt : FA} (h : 0 ≤ lt.1) : okG (fun a : Nat × FA => a.2) (nameS kd pl nm t nc ns lt) := okG.b0 (fun t1 => okG.ok (by
  show 0 ≤ (if hasN nc ns (nm t) = true then ltS pl t 3 lt else lt).1
  by_cases e : hasN nc ns (nm t) = true
  · rw [if_pos e]; exact ltS_ge (by decide) h
  · rw [if_neg e]; exact h))
theorem okG_thing {nT t nc : Nat} {ns : Nat → Int64} {lt : FA} (h : 0 ≤ lt.1) : okG (fun a : Nat × (Int × Int × Int) × FA => a.2.2) (thingS kd vl pl nm nT t nc ns lt) := okG.ite (okG.b0 (fun _ => (okG_name h).b (fun _ h => (okG_num h).b (fun _ h => (okG_num h).b (fun _ h => (okG_num h).b (fun _ h => okG.b0 (fun _ => okG.ok h))))))) okG.err
theorem okG_hts : ∀ (m k : Nat) (hs : Nat → Int) (t : Nat) (lt : FA), 0 ≤ lt.1 → okG (fun a : Nat × Nat × (Nat → Int) × FA => a.2.2.2) (htsS kd vl pl k hs t lt m) := by
  intro m
  induction m with
  | zero => intro k hs t lt h; exact okG.ite okG.err (okG.b0 (fun _ => okG.ok h))
  | succ m ih => intro k hs t lt h; exact okG.ite ((okG_num h).b (fun _ h => ih _ _ _ _ h)) (okG.b0 (fun _ => okG.ok h))
theorem okG_pat {nP t nc : Nat} {ns : Nat → Int64} {lt : FA} (h : 0 ≤ lt.1) : okG (fun a : Nat × Nat × (Nat → Int) × FA => a.2.2.2) (patS kd vl pl nm nP t nc ns lt) := okG.ite (okG.b0 (fun _ => (okG_name h).b (fun _ h => (okG_num h).b (fun _ h => okG_hts _ _ _ _ _ h)))) okG.err
theorem okG_one {k most : Int} {t : Nat} {lt : FA} (h : 0 ≤ lt.1) : okG (fun a : Nat × Int × FA => a.2.2) (oneS kd vl pl k most t lt) := okG.b0 (fun _ => (okG_num h).b (fun _ h => okG.b0 (fun _ => okG.ok h)))
def pLt (S : PST) : FA := S.2.2.1
theorem okG_tell {S : PST} (h : 0 ≤ S.2.2.1.1) : okG pLt (tellS kd vl pl nm S) := okG.ite ((okG_thing h).b (fun _ h => okG.ok h)) (okG.ite ((okG_pat h).b (fun _ h => okG.ok h)) (okG.ite (okG.b0 (fun _ => okG.ok h)) (okG.ite ((okG_one h).b (fun _ h => okG.ok h)) (okG.ite ((okG_one h).b (fun _ h => okG.ok h)) okG.err))))
end OKL
/-! the reference's reading -/
section MRD
variable {b : Nat → Int32} {n sd : Nat} {σc σ s : HS}
def wRd0 (sd a k : Nat) : Bool := wPm sd a k || (a == 236 && k == 17)
def wRd1 (sd a k : Nat) : Bool := wPm sd a k || (a == 236 && (k == 17 || k == 18 || k == 49 || k == 50 || k == 54 || k == 60)) || a == 266 || a == 267 || a == 275
/-- the reference has begun anew, with the text of the half sd -/
def ACm (sd : Nat) (s : HS) : Prop := s.1 236 18 = nI sd ∧ s.1 236 49 = s.1 253 sd ∧ s.1 236 50 = 0 ∧ s.1 236 54 = 0 ∧ s.1 236 60 = 0 ∧ (∀ i, i < 3 → s.1 275 i = 0) ∧ ∀ i, i < 29 → s.1 267 i = rowB s sd (s.1 245 sd).toInt.toNat (s.1 249 sd).toInt.toNat i ∧ s.1 266 i = rowB s sd (s.1 245 sd).toInt.toNat (s.1 249 sd).toInt.toNat i
/-- what the reference's reading leaves: the answer, the place; the text, where there is no fault -/
def RDm (sd : Nat) (σ0 : HS) (x : Except FA PST) (r : Int32) (s : HS) : Prop := r.toInt = (resS x).1 ∧ (s.1 236 17).toInt = (resS x).2 ∧ (r.toInt ≠ 0 → frm (wRd0 sd) wlPm σ0 s) ∧ (r.toInt = 0 → frm (wRd1 sd) wlPm σ0 s ∧ ACm sd s ∧ ∃ S : PST, x = .ok S ∧ S.2.2.1.1 = 0 ∧ DTm sd s S.2.2.2.1.1 ∧ DPm sd s S.2.2.2.1.2 ∧ DRm sd s S.2.2.2.2.1 ∧ ∃ p q, p ≤ 130 * sd + 130 ∧ q ≤ 420 * sd + 420 ∧ DLm sd s q p S.2.2.2.2.2)
theorem mr_ref {v : Int32} {Q : Int32 → HS → Prop} (h : 0 < (σ.1 236 13).toInt) (k : Q (σ.1 236 13) (hI σ 236 17 v)) : Ok (f_X12_read_164 v σ) Q := by
  unfold f_X12_read_164
  refine Ok.bd ?_
  rw [rI_k (show (13 : Nat) ≠ 17 by decide)]
  exact Ok.t h (Ok.ret k)
theorem mr_134_f {e : FA} (h : FLM sd σc e σ) : Ok (f_X12_read_134 σ) (RDm sd σc (.error e)) := by
  unfold f_X12_read_134
  refine Ok.t (by rw [h.1]; exact h.2.1) ?_
  have h2 := h.2.1
  refine mr_ref (by rw [h.1]; exact h.2.1) ⟨h.1, ?_, fun _ => ?_, fun e0 => ?_⟩
  · rw [rI_s]; exact h.2.2.1
  · exact (h.2.2.2.1.mono (fun a k e => by unfold wRd0 at e; simp only [Bool.or_eq_false_iff] at e; exact e.1) (fun _ e => e)).I (by unfold wRd0; simp)
  · rw [h.1] at e0; omega
theorem mr_134 {S : PST} (hsd : sd ≤ 1) (hlt : 0 ≤ S.2.2.1.1) (h : TMs b n sd σc S σ) : Ok (f_X12_read_134 σ) (RDm sd σc (.ok S)) := by
  obtain ⟨hR, hN, hL, hc, hDT, hDP, hDR, ⟨p, q, e33, hp1, hp2, e39, hq1, hq2, hDL⟩, e12, hside⟩ := h
  have ht := hR.2.1
  have f0 : frm (wRd0 sd) wlPm σc σ := hR.1.mono (fun a k e => by unfold wRd0 at e; simp only [Bool.or_eq_false_iff] at e; exact e.1) (fun _ e => e)
  unfold f_X12_read_134
  refine Ok.f (by rw [hR.2.2.2.2]; omega) ?_
  by_cases c : S.2.2.1.1 = 0
  · have er : resS (.ok S) = (0, -1) := if_pos c
    refine Ok.f (by rw [hL.1]; omega) ?_
    unfold f_X12_read_164
    refine Ok.bd (Ok.f ?_ (Ok.f ?_ (Ok.bd ?_)))
    · rw [rI_k (by decide), hR.2.2.2.2]; omega
    · rw [rI_k (by decide), hL.1]; omega
    rw [rI_k (show (19 : Nat) ≠ 17 by decide), hside]
    generalize hs2 : hI (hI σ 236 17 (-1)) 236 18 (nI sd) = s2
    have g2 : ∀ a k, a ≠ 236 → s2.1 a k = σ.1 a k := fun a k ha => by rw [← hs2, rI_i ha, rI_i ha]
    have F2 : frm (wRd1 sd) wlPm σc s2 := by
      rw [← hs2]
      exact ((hR.1.mono (fun a k e => by unfold wRd1 at e; simp only [Bool.or_eq_false_iff] at e; exact e.1.1.1.1) (fun _ e => e)).I (by unfold wRd1; simp)).I (by unfold wRd1; simp)
    refine Ok.cv (mr_begins (σ := s2) (sd := sd) (nT := S.2.2.2.1.1.1) (nP := S.2.2.2.1.2.1) hsd hDT.2.1 hDP.2.1 (by rw [← hs2, rI_s]) (by rw [g2 _ _ (by decide)]; exact hDT.1) (by rw [g2 _ _ (by decide)]; exact hDP.1)) (fun s3 h3 => ?_)
    obtain ⟨f3, e49, e50, erow⟩ := h3
    have o3 : ∀ a k, a ≠ 236 → a ≠ 267 → s3.1 a k = s2.1 a k := fun a k h1 h2 => f3.1 _ _ (by unfold wBg; simp [h1, h2])
    unfold f_X12_keepsRow
    have k0 := mr_keepsRow (σ := s3) 29 0 5000 s3 (by omega) (by omega) frm.rf (fun i hi => absurd hi (by omega))
    refine Ok.cv k0 (fun s5 h5 => Ok.bd (Ok.bd ?_))
    obtain ⟨f5, e5⟩ := h5
    generalize hs8 : hI (hI s5 236 54 0) 236 60 0 = s8
    have g8 : ∀ a k, a ≠ 236 → s8.1 a k = s5.1 a k := fun a k ha => by rw [← hs8, rI_i ha, rI_i ha]
    have q8 : ∀ k, k ≠ 54 → k ≠ 60 → s8.1 236 k = s5.1 236 k := fun k h1 h2 => by rw [← hs8, rI_k h2, rI_k h1]
    rw [nI0]
    refine (mr_r219 (σ := s8) 3 0 5000 s8 (by omega) (by omega) frm.rf (fun i hi => absurd hi (by omega))).mono (fun r s9 h9 => ?_)
    obtain ⟨rfl, f9, e9⟩ := h9
    have o9 : ∀ a k, a ≠ 275 → s9.1 a k = s8.1 a k := fun a k h1 => f9.1 _ _ (by unfold w275; simp [h1])
    have o5 : ∀ a k, a ≠ 266 → s5.1 a k = s3.1 a k := fun a k h1 => f5.1 _ _ (by unfold w266; simp [h1])
    have al : ∀ a k, a ≠ 236 → a ≠ 266 → a ≠ 267 → a ≠ 275 → s9.1 a k = σ.1 a k := fun a k h1 h2 h3 h4 => by rw [o9 a k h4, g8 a k h1, o5 a k h2, o3 a k h1 h3, g2 a k h1]
    have a36 : ∀ k, k ≠ 54 → k ≠ 60 → k ≠ 49 → k ≠ 50 → s9.1 236 k = s2.1 236 k := fun k h1 h2 h3 h4 => by
      rw [o9 _ _ (by decide), q8 k h1 h2, o5 _ _ (by decide), f3.1 _ _ (by unfold wBg; simp [h3, h4])]
    have frAll : frm (fun a _ => a == 236 || a == 266 || a == 267 || a == 275) wl0 σ s9 := ⟨fun a k e => by
      simp only [Bool.or_eq_false_iff, beq_eq_false_iff_ne, ne_eq] at e
      exact al a k e.1.1.1 e.1.1.2 e.1.2 e.2, fun a _ => by
        rw [f9.2.1 a rfl, ← hs8]
        show s5.2.1 a = _
        rw [f5.2.1 a rfl, f3.2.1 a rfl, ← hs2]; rfl, by
        rw [f9.2.2, ← hs8]
        show s5.2.2 = _
        rw [f5.2.2, f3.2.2, ← hs2]; rfl⟩
    have e245 : s9.1 245 sd = nI S.2.2.2.1.1.1 := by rw [al _ _ (by decide) (by decide) (by decide) (by decide)]; exact hDT.1
    have e249 : s9.1 249 sd = nI S.2.2.2.1.2.1 := by rw [al _ _ (by decide) (by decide) (by decide) (by decide)]; exact hDP.1
    have rb : ∀ i, rowB s9 sd S.2.2.2.1.1.1 S.2.2.2.1.2.1 i = rowB s2 sd S.2.2.2.1.1.1 S.2.2.2.1.2.1 i := fun i => by
      unfold rowB
      rw [al 248 _ (by decide) (by decide) (by decide) (by decide), g2 248 _ (by decide)]
    have wo : ∀ (a k : Nat), 245 ≤ a → a ≤ 262 → (a == 236 || a == 266 || a == 267 || a == 275) = false := fun a _ h1 h2 => by simp; omega
    have h7 := hDT.2.1
    have h5 := hDP.2.1
    refine ⟨by rw [er]; rfl, ?_, fun h0 => absurd rfl h0, fun _ => ⟨?_, ⟨?_, ?_, ?_, ?_, ?_, e9, fun i hi => ?_⟩, S, rfl, c, hDT.fr frAll (fun a k h1 h2 => wo a k (by omega) (by omega)), hDP.fr frAll (fun a k h1 h2 => wo a k (by omega) (by omega)), hDR.fr frAll (fun a k h1 h2 => wo a k (by omega) (by omega)), p, q, by omega, by omega, hDL.fr frAll (fun a k h1 h2 => wo a k (by omega) (by omega))⟩⟩
    · rw [er, a36 17 (by decide) (by decide) (by decide) (by decide), ← hs2, rI_k (by decide), rI_s]; rfl
    · refine ((F2.tr (f3.mono (fun a k e => ?_) (fun _ _ => rfl))).tr (f5.mono (fun a k e => ?_) (fun _ _ => rfl))).tr ((?_ : frm (wRd1 sd) wlPm s5 s8).tr (f9.mono (fun a k e => ?_) (fun _ _ => rfl)))
      · unfold wRd1 at e
        unfold wBg
        simp only [Bool.or_eq_false_iff] at e ⊢
        refine ⟨e.1.2, ?_⟩
        have e := e.1.1.1.2
        cases c : (a == 236) with
        | false => rfl
        | true => rw [c] at e; simp at e ⊢; omega
      · unfold wRd1 at e
        simp only [Bool.or_eq_false_iff] at e
        exact e.1.1.2
      · rw [← hs8]
        exact (frm.rf.I (by unfold wRd1; simp)).I (by unfold wRd1; simp)
      · unfold wRd1 at e
        simp only [Bool.or_eq_false_iff] at e
        exact e.2
    · rw [a36 18 (by decide) (by decide) (by decide) (by decide), ← hs2, rI_s]
    · rw [o9 236 49 (by decide), q8 49 (by decide) (by decide), o5 _ _ (by decide), e49, al 253 sd (by decide) (by decide) (by decide) (by decide), g2 _ _ (by decide)]
    · rw [o9 236 50 (by decide), q8 50 (by decide) (by decide), o5 _ _ (by decide), e50]
    · rw [o9 236 54 (by decide), ← hs8, rI_k (by decide), rI_s]
    · rw [o9 236 60 (by decide), ← hs8, rI_s]
    · rw [e245, e249, nIt (by omega), nIt (by omega), Int.toNat_natCast, Int.toNat_natCast, rb i, ← erow i hi]
      refine ⟨?_, ?_⟩
      · rw [o9 _ _ (by decide), g8 _ _ (by decide), o5 _ _ (by decide)]
      · rw [o9 _ _ (by decide), g8 _ _ (by decide), e5 i hi]
  · have er : resS (.ok S) = S.2.2.1 := if_neg c
    have hl2 := hL.2 c
    refine Ok.t (by rw [hL.1]; omega) ?_
    unfold f_X12_read_164
    refine Ok.bd (Ok.f ?_ (Ok.t ?_ (Ok.ret ⟨?_, ?_, fun _ => ?_, fun e0 => ?_⟩)))
    · rw [rI_k (by decide), hR.2.2.2.2]; omega
    · rw [rI_k (by decide), hL.1]; omega
    · rw [rI_k (by decide), er]; exact hL.1
    · rw [rI_s, er]; exact hl2.1
    · exact f0.I (by unfold wRd0; simp)
    · rw [rI_k (by decide), hL.1] at e0; exact absurd e0 c
theorem mr_top (hT : TKA b n σc) (hsd : sd ≤ 1) : ∀ (d N : Nat) (S : PST) (s : HS), 401 - S.1 < d → d < N → 0 ≤ S.2.2.1.1 → TMs b n sd σc S s → Ok (f_X12_read_112 N s) (RDm sd σc (topS (kdT b n) (vlT b n) (plI b n) (nmT b n) d S)) := by
  intro d
  induction d with
  | zero => intro N S s h; omega
  | succ d ih =>
    intro N S s hd hN hlt h
    obtain ⟨N, rfl⟩ : ∃ q, N = q + 1 := ⟨N - 1, by omega⟩
    have ht := h.1.2.1
    show Ok (b_X12_read_112 (f_X12_read_112 N) s) (RDm sd σc (if kdT b n S.1 = 0 then .ok S else tellS (kdT b n) (vlT b n) (plI b n) (nmT b n) S >>= fun s1 => topS (kdT b n) (vlT b n) (plI b n) (nmT b n) d s1))
    unfold b_X12_read_112
    refine Ok.t h.1.2.2.2.2 (Ok.cle (mr_is hT h.1) ?_)
    by_cases c0 : kdT b n S.1 = 0
    · rw [if_pos c0, show (decide (kdT b n S.1 = (0 : Int32).toInt)) = true from decide_eq_true c0]
      exact Ok.f (by decide) (mr_134 hsd hlt h)
    · rw [if_neg c0, show (decide (kdT b n S.1 = (0 : Int32).toInt)) = false from decide_eq_false c0]
      refine Ok.t (by decide) (Ok.cv (mr_tellOne hT hsd c0 h) (fun s1 h1 => ?_))
      have hl := okG_tell (kd := kdT b n) (vl := vlT b n) (pl := plI b n) (nm := nmT b n) hlt
      revert h1
      cases ex : tellS (kdT b n) (vlT b n) (plI b n) (nmT b n) S with
      | error e =>
        intro hF
        obtain ⟨N1, rfl⟩ : ∃ q, N = q + 1 := ⟨N - 1, by omega⟩
        show Ok (b_X12_read_112 (f_X12_read_112 N1) s1) (RDm sd σc (.error e))
        unfold b_X12_read_112
        exact Ok.f (by rw [hF.1]; have := hF.2.1; omega) (mr_134_f hF)
      | ok S1 =>
        rintro ⟨h2, h3⟩
        exact ih N S1 s1 (by omega) (by omega) (hl S1 ex) h3
end MRD
/-! the reference's read, from its call on -/
section MHD
variable {b : Nat → Int32} {n sd : Nat} {σc σ s : HS}
def bT (σ : HS) (i : Nat) : Int32 := (vp_nar .byte (σ.1 237 i)) &&& 255
def nT2 (σ : HS) : Nat := (σ.1 236 2).toInt.toNat
theorem mr_plain (hsd : sd ≤ 1) : Okv (f_X12_plain (nI sd) σ) (fun s => frm (wPm sd) wl0 σ s ∧ (∀ k, s.1 236 k = σ.1 236 k) ∧ s.1 245 sd = 0 ∧ s.1 249 sd = 0 ∧ s.1 252 sd = 1 ∧ s.1 253 sd = 0 ∧ ∀ k, k < 4 → s.1 254 (4 * sd + k) = 0 ∧ s.1 255 (4 * sd + k) = 0) := by
  unfold f_X12_plain
  rw [nIt (by omega), Int.toNat_natCast]
  refine Okv.t (by omega) (Okv.bd (Okv.t (by omega) (Okv.bd (Okv.t (by omega) (Okv.bd (Okv.t (by omega) (Okv.bd ?_)))))))
  generalize hs4 : hI (hI (hI (hI σ 245 sd 0) 249 sd 0) 252 sd 1) 253 sd 0 = s4
  have f4 : frm (wPm sd) wl0 σ s4 := by
    rw [← hs4]
    exact (((frm.rf.I (by unfold wPm; simp)).I (by unfold wPm; simp)).I (by unfold wPm; simp)).I (by unfold wPm; simp)
  have loop : ∀ (d k N : Nat) (s : HS), k + d = 4 → d < N → frm (wPm sd) wl0 σ s → (∀ k, s.1 236 k = σ.1 236 k) → s.1 245 sd = 0 → s.1 249 sd = 0 → s.1 252 sd = 1 → s.1 253 sd = 0 → (∀ j, j < k → s.1 254 (4 * sd + j) = 0 ∧ s.1 255 (4 * sd + j) = 0) → Okv (f_X12_plain_30 N (nI sd) (nI k) s) (fun s => frm (wPm sd) wl0 σ s ∧ (∀ k, s.1 236 k = σ.1 236 k) ∧ s.1 245 sd = 0 ∧ s.1 249 sd = 0 ∧ s.1 252 sd = 1 ∧ s.1 253 sd = 0 ∧ ∀ k, k < 4 → s.1 254 (4 * sd + k) = 0 ∧ s.1 255 (4 * sd + k) = 0) := by
    intro d
    induction d with
    | zero =>
      intro k N s hk hN hf h36 h1 h2 h3 h4 hz
      obtain ⟨N, rfl⟩ : ∃ q, N = q + 1 := ⟨N - 1, by omega⟩
      show Okv (b_X12_plain_30 (f_X12_plain_30 N) (nI sd) (nI k) s) _
      unfold b_X12_plain_30
      rw [nIt (n := k) (by omega)]
      exact Okv.f (by omega) (Okv.ret ⟨hf, h36, h1, h2, h3, h4, fun j hj => hz j (by omega)⟩)
    | succ d ih =>
      intro k N s hk hN hf h36 h1 h2 h3 h4 hz
      obtain ⟨N, rfl⟩ : ∃ q, N = q + 1 := ⟨N - 1, by omega⟩
      show Okv (b_X12_plain_30 (f_X12_plain_30 N) (nI sd) (nI k) s) _
      unfold b_X12_plain_30
      rw [z4m sd (by omega), nI_add, nIt (n := k) (by omega), nIt (by omega), Int.toNat_natCast]
      refine Okv.t (by omega) (Okv.t (by omega) (Okv.bd (Okv.t (by omega) (Okv.bd (Okv.bd ?_)))))
      rw [nI_1]
      refine ih (k + 1) N _ (by omega) (by omega) ((hf.I (by unfold wPm; simp; omega)).I (by unfold wPm; simp; omega)) (fun k => by rw [rI_i (by decide), rI_i (by decide)]; exact h36 k) (by rw [rI_i (by decide), rI_i (by decide)]; exact h1) (by rw [rI_i (by decide), rI_i (by decide)]; exact h2) (by rw [rI_i (by decide), rI_i (by decide)]; exact h3) (by rw [rI_i (by decide), rI_i (by decide)]; exact h4) (fun j hj => ?_)
      by_cases c : j = k
      · subst c
        exact ⟨by rw [rI_i (by decide), rI_s], rI_s⟩
      · exact ⟨by rw [rI_i (by decide), rI_k (by omega)]; exact (hz j (by omega)).1, by rw [rI_k (by omega), rI_i (by decide)]; exact (hz j (by omega)).2⟩
  rw [nI0]
  refine loop 4 0 5000 s4 (by omega) (by omega) f4 (fun k => ?_) ?_ ?_ ?_ ?_ (fun j hj => absurd hj (by omega)) <;> rw [← hs4]
  · rw [rI_i (by decide), rI_i (by decide), rI_i (by decide), rI_i (by decide)]
  · rw [rI_i (by decide), rI_i (by decide), rI_i (by decide), rI_s]
  · rw [rI_i (by decide), rI_i (by decide), rI_s]
  · rw [rI_i (by decide), rI_s]
  · rw [rI_s]
/-- what a read may write: one that accepts, one that refuses -/
def wRM (sd a k : Nat) : Bool := wRd1 sd a k || a == 238 || wr LC a k || (a == 236 && (k == 2 || k == 4 || k == 19))
def wRMr (sd a k : Nat) : Bool := wRd0 sd a k || a == 238 || wr LC a k || (a == 236 && (k == 2 || k == 4 || k == 19))
def wlRM (a : Nat) : Bool := a == 244 || LC.contains a
theorem wRd1_0 {a k : Nat} (e : wRd1 sd a k = false) : wRd0 sd a k = false := by
  have h2 := e
  unfold wRd1 at h2
  unfold wRd0
  simp only [Bool.or_eq_false_iff] at h2 ⊢
  refine ⟨h2.1.1.1.1, ?_⟩
  have h2 := h2.1.1.1.2
  cases c : (a == 236) with
  | false => rfl
  | true => rw [c] at h2; simp at h2 ⊢; omega
theorem wRM_r {a k : Nat} (e : wRM sd a k = false) : wRMr sd a k = false := by
  unfold wRM at e
  unfold wRMr
  simp only [Bool.or_eq_false_iff] at e ⊢
  exact ⟨⟨⟨wRd1_0 e.1.1.1, e.1.1.2⟩, e.1.2⟩, e.2⟩
theorem wRM_1 {a k : Nat} (e : wRM sd a k = false) : wRd1 sd a k = false := by
  unfold wRM at e
  simp only [Bool.or_eq_false_iff] at e
  exact e.1.1.1
theorem wRMr_x {a k : Nat} (e : wRMr sd a k = false) : wRd0 sd a k = false ∧ wPm sd a k = false ∧ wr LC a k = false ∧ a ≠ 238 ∧ (a ≠ 236 ∨ (k ≠ 2 ∧ k ≠ 4 ∧ k ≠ 19)) := by
  unfold wRMr at e
  simp only [Bool.or_eq_false_iff, beq_eq_false_iff_ne, ne_eq] at e
  obtain ⟨⟨⟨e0, e1⟩, e2⟩, e3⟩ := e
  refine ⟨e0, ?_, e2, e1, ?_⟩
  · unfold wRd0 at e0
    simp only [Bool.or_eq_false_iff] at e0
    exact e0.1
  · by_cases c : a = 236
    · subst c; simp at e3; omega
    · exact Or.inl c
theorem onm_frm {L : List Nat} {σ1 : HS} (h : onm L σ σ1) : frm (wr L) (fun a => L.contains a) σ σ1 := h
theorem z130 : ∀ z, z < 2 → (130 : Int32) * nI z = nI (130 * z) := by decide +kernel
theorem z420 : ∀ z, z < 2 → (420 : Int32) * nI z = nI (420 * z) := by decide +kernel
def rdT (σ : HS) : Option (Int32 × HS) :=
    Bd (hI σ 236 2 0) fun σ1 =>
    Cv (f_X12_cut σ1) fun σ2 =>
    Bd (hI σ2 236 11 0) fun σ4 =>
    Bd (hI σ4 236 12 0) fun σ5 =>
    Bd (hI σ5 236 13 0) fun σ6 =>
    Bd (hI σ6 236 15 0) fun σ7 =>
    Bd (hI σ7 236 19 ((1 : Int32) - (σ7.1 236 18))) fun σ8 =>
    Bd (hI σ8 236 20 0) fun σ9 =>
    Cv (f_X12_plain (σ9.1 236 19) σ9) fun σ10 =>
    Bd (hI σ10 236 33 ((130 : Int32) * (σ10.1 236 19))) fun σ12 =>
    Bd (hI σ12 236 39 ((420 : Int32) * (σ12.1 236 19))) fun σ13 =>
    f_X12_read_112 5000 σ13
theorem mr_copy {m : Nat} {Q : Int32 → HS → Prop} (hm : m ≤ 2000) (e4 : σ.1 236 4 = nI m) (cont : ∀ s2, frm (fun a _ => a == 238) wl0 σ s2 → (∀ i, i < m → s2.1 238 i = vp_nar .byte (σ.1 237 i)) → Ok (rdT s2) Q) : ∀ (d k N : Nat) (s : HS), k + d = m → d < N → frm (fun a _ => a == 238) wl0 σ s → (∀ i, i < k → s.1 238 i = vp_nar .byte (σ.1 237 i)) → Ok (f_X12_read_10 N (nI k) s) Q := by
  intro d
  induction d with
  | zero =>
    intro k N s hk hN hf hz
    obtain ⟨N, rfl⟩ : ∃ q, N = q + 1 := ⟨N - 1, by omega⟩
    show Ok (b_X12_read_10 (f_X12_read_10 N) (nI k) s) _
    unfold b_X12_read_10
    rw [hf.1 236 4 rfl, e4, nIt (by omega), nIt (by omega)]
    exact Ok.f (by omega) (cont s hf (fun i hi => hz i (by omega)))
  | succ d ih =>
    intro k N s hk hN hf hz
    obtain ⟨N, rfl⟩ : ∃ q, N = q + 1 := ⟨N - 1, by omega⟩
    show Ok (b_X12_read_10 (f_X12_read_10 N) (nI k) s) _
    unfold b_X12_read_10
    rw [hf.1 236 4 rfl, e4, nIt (n := k) (by omega), nIt (n := m) (by omega), Int.toNat_natCast]
    refine Ok.t (by omega) (Ok.t (by omega) (Ok.t (by omega) (Ok.bd (Ok.bd ?_))))
    rw [nI_1, hf.1 237 k rfl]
    refine ih (k + 1) N _ (by omega) (by omega) (hf.I rfl) (fun i hi => ?_)
    by_cases c : i = k
    · rw [c, rI_s]
    · rw [rI_k c]; exact hz i (by omega)
theorem TKA.same {b : Nat → Int32} {n : Nat} {s : HS} (h : TKA b n σ) (e : ∀ a k, 239 ≤ a → a ≤ 241 → s.1 a k = σ.1 a k) (e2 : s.2.1 242 = σ.2.1 242) : TKA b n s := fun q h4 hp => by
  rw [e 239 q (by omega) (by omega), e 240 q (by omega) (by omega), e 241 q (by omega) (by omega), e2]
  exact h q h4 hp
theorem mr_tail {m : Nat} (hsd : sd ≤ 1) (hm : m ≤ 2000) (e4 : σ.1 236 4 = nI m) (hlv : σ.1 236 18 = nI (1 - sd)) (hK : KEY σ) : Ok (rdT σ) (fun r s => s.1 236 2 = 0 ∧ frm (wRM sd) wlRM σ s ∧ (r.toInt ≠ 0 → frm (wRMr sd) wlRM σ s) ∧ ∃ σb, RDm sd σb (readS (kdT (bM σ) m) (vlT (bM σ) m) (plI (bM σ) m) (nmT (bM σ) m)) r s) := by
  unfold rdT
  refine Ok.bd ?_
  generalize hs1 : hI σ 236 2 0 = s1
  have c1 : CM s1 := by
    unfold CM
    rw [← hs1, rI_k (by decide), e4, nIt (by omega)]; omega
  have k1 : KEY s1 := by rw [← hs1]; exact hK
  refine Ok.cv (w_X12_cut c1 k1) (fun s2 h2 => ?_)
  obtain ⟨on2, hT2⟩ := h2
  have eb : bM s1 = bM σ := by rw [← hs1]; exact funext fun i => by unfold bM; rw [rI_i (by decide)]
  have en : nM s1 = m := by unfold nM; rw [← hs1, rI_k (by decide), e4, nIt (by omega), Int.toNat_natCast]
  rw [eb, en] at hT2
  have F2 := onm_frm on2
  have q2 : ∀ k, k ≠ 10 → k ≠ 2 → s2.1 236 k = σ.1 236 k := fun k h1 h2 => by
    rw [F2.1 236 k (by unfold wr; rw [if_pos rfl]; simp [LC]; omega), ← hs1, rI_k h2]
  refine Ok.bd (Ok.bd (Ok.bd (Ok.bd ?_)))
  rw [rI_k (show (18 : Nat) ≠ 15 by decide), rI_k (show (18 : Nat) ≠ 13 by decide), rI_k (show (18 : Nat) ≠ 12 by decide), rI_k (show (18 : Nat) ≠ 11 by decide), q2 18 (by decide) (by decide), hlv, show (1 : Int32) - nI (1 - sd) = nI sd from (nI_sub (a := 1 - sd) (b := 1) (by omega) (by omega)).trans (congrArg nI (by omega))]
  refine Ok.bd (Ok.bd ?_)
  generalize hs9 : hI (hI (hI (hI (hI (hI s2 236 11 0) 236 12 0) 236 13 0) 236 15 0) 236 19 (nI sd)) 236 20 0 = s9
  have F9 : frm (fun a k => a == 236 && (k == 11 || k == 12 || k == 13 || k == 15 || k == 19 || k == 20)) wl0 s2 s9 := by
    rw [← hs9]
    exact (((((frm.rf.I rfl).I rfl).I rfl).I rfl).I rfl).I rfl
  have e11 : s9.1 236 11 = 0 := by rw [← hs9, rI_k (by decide), rI_k (by decide), rI_k (by decide), rI_k (by decide), rI_k (by decide), rI_s]
  have e12 : s9.1 236 12 = 0 := by rw [← hs9, rI_k (by decide), rI_k (by decide), rI_k (by decide), rI_k (by decide), rI_s]
  have e13 : s9.1 236 13 = 0 := by rw [← hs9, rI_k (by decide), rI_k (by decide), rI_k (by decide), rI_s]
  have e15 : s9.1 236 15 = 0 := by rw [← hs9, rI_k (by decide), rI_k (by decide), rI_s]
  have e19 : s9.1 236 19 = nI sd := by rw [← hs9, rI_k (by decide), rI_s]
  have e20 : s9.1 236 20 = 0 := by rw [← hs9, rI_s]
  rw [e19]
  refine Ok.cv (mr_plain (σ := s9) hsd) (fun s10 h10 => ?_)
  obtain ⟨F10, g10, p245, p249, p252, p253, p254⟩ := h10
  refine Ok.bd ?_
  rw [g10 19, e19, z130 sd (by omega)]
  refine Ok.bd ?_
  rw [rI_k (show (19 : Nat) ≠ 33 by decide), g10 19, e19, z420 sd (by omega)]
  generalize hs13 : hI (hI s10 236 33 (nI (130 * sd))) 236 39 (nI (420 * sd)) = s13
  have F13 : frm (wPm sd) wl0 s10 s13 := by rw [← hs13]; exact (frm.rf.I (by unfold wPm; simp)).I (by unfold wPm; simp)
  have o13 : ∀ a k, a ≠ 236 → s13.1 a k = s10.1 a k := fun a k ha => by rw [← hs13, rI_i ha, rI_i ha]
  have q13 : ∀ k, k ≠ 33 → k ≠ 39 → s13.1 236 k = s9.1 236 k := fun k h1 h2 => by rw [← hs13, rI_k h2, rI_k h1, g10 k]
  have hT13 : TKA (bM σ) m s13 := hT2.same (fun a k h1 h2 => by
    rw [o13 a k (by omega), F10.1 a k (by unfold wPm; simp; omega), F9.1 a k (by simp; omega)]) (by
    rw [F13.2.1 242 rfl, F10.2.1 242 rfl, F9.2.1 242 rfl])
  have T0 : TMs (bM σ) m sd s13 (0, (0, fun _ => 0), (0, -1), dat0) s13 := by
    refine ⟨⟨frm.rf, by show (0 : Nat) ≤ 400; omega, fun p hp => absurd hp (by show ¬ p < 0; omega), ?_, ?_⟩, ⟨?_, by show (0 : Nat) ≤ 12; omega, fun i hi => absurd hi (by show ¬ i < 0; omega)⟩, ⟨?_, fun h => absurd rfl h⟩, rfl, ⟨?_, by show (0 : Nat) ≤ 7; omega, fun e he => absurd he (by show ¬ e < 0; omega)⟩, ⟨?_, by show (0 : Nat) ≤ 5; omega, fun e he => absurd he (by show ¬ e < 0; omega)⟩, ⟨?_, ?_⟩, ⟨130 * sd, 420 * sd, ?_, Nat.le_refl _, by show 4 * (130 * sd) ≤ 520 * sd + 0; omega, ?_, Nat.le_refl _, by show 420 * sd ≤ 420 * sd + 0; omega, fun k hk => ⟨?_, ?_⟩⟩, ?_, ?_⟩
    · rw [q13 11 (by decide) (by decide), e11]; rfl
    · rw [q13 13 (by decide) (by decide), e13]; rfl
    · rw [q13 20 (by decide) (by decide), e20]; rfl
    · rw [q13 15 (by decide) (by decide), e15]; rfl
    · rw [o13 _ _ (by decide), p245]; rfl
    · rw [o13 _ _ (by decide), p249]; rfl
    · rw [o13 _ _ (by decide), p252]; rfl
    · rw [o13 _ _ (by decide), p253]; rfl
    · rw [← hs13, rI_k (by decide), rI_s]
    · rw [← hs13, rI_s]
    · rw [o13 _ _ (by decide)]; exact (p254 k hk).1
    · rw [o13 _ _ (by decide)]; exact (p254 k hk).2
    · rw [q13 12 (by decide) (by decide), e12]
    · rw [q13 19 (by decide) (by decide), e19]
  have base : frm (wRMr sd) wlRM σ s13 := by
    refine (((frm.tr (?_ : frm (wRMr sd) wlRM σ s1) (F2.mono (fun a k e => (wRMr_x e).2.2.1) (fun a e => ?_))).tr (F9.mono (fun a k e => ?_) (fun _ _ => rfl))).tr (F10.mono (fun a k e => (wRMr_x e).2.1) (fun _ _ => rfl))).tr (F13.mono (fun a k e => (wRMr_x e).2.1) (fun _ _ => rfl))
    · rw [← hs1]; exact frm.rf.I (by unfold wRMr; simp)
    · unfold wlRM at e
      simp only [Bool.or_eq_false_iff] at e
      exact e.2
    · have h1 := (wRMr_x e).2.1
      have h2 := (wRMr_x e).2.2.2.2
      unfold wPm at h1
      simp only [Bool.or_eq_false_iff] at h1
      have h1 := h1.1.1.1.1.1.1.1.1
      cases c : (a == 236) with
      | false => rfl
      | true =>
        rw [c] at h1
        have ca : a = 236 := by simpa using c
        simp at h1 ⊢
        omega
  refine (mr_top hT13 hsd 402 5000 _ s13 (by show 401 - 0 < 402; omega) (by omega) (by show (0 : Int) ≤ 0; omega) T0).mono (fun r s hr => ?_)
  have z2 : s13.1 236 2 = 0 := by
    rw [q13 2 (by decide) (by decide), F9.1 236 2 rfl, F2.1 236 2 rfl, ← hs1, rI_s]
  have hr4 := hr
  obtain ⟨r1, r2, r3, r4⟩ := hr
  by_cases c : r.toInt = 0
  · have f := (r4 c).1
    refine ⟨?_, (base.mono (fun _ _ => wRM_r) (fun _ e => e)).tr (f.mono (fun _ _ => wRM_1) (fun a e => ?_)), fun h => absurd c h, s13, hr4⟩
    · rw [f.1 236 2 (by unfold wRd1 wPm; simp)]; exact z2
    · unfold wlRM at e
      simp only [Bool.or_eq_false_iff] at e
      exact e.1
  · have f := r3 c
    have ff : frm (wRMr sd) wlRM σ s := base.tr (f.mono (fun _ _ e => (wRMr_x e).1) (fun a e => by
      unfold wlRM at e
      simp only [Bool.or_eq_false_iff] at e
      exact e.1))
    refine ⟨?_, ff.mono (fun _ _ => wRM_r) (fun _ e => e), fun _ => ff, s13, hr4⟩
    rw [f.1 236 2 (by unfold wRd0 wPm; simp)]; exact z2
/-- the reference's read, wholly -/
theorem mr_read (hsd : sd ≤ 1) (hlv : σ.1 236 18 = nI (1 - sd)) (h2 : 0 ≤ (σ.1 236 2).toInt ∧ (σ.1 236 2).toInt ≤ 2000) (hK : KEY σ) : Ok (f_X12_read σ) (fun r s => s.1 236 2 = 0 ∧ frm (wRM sd) wlRM σ s ∧ (r.toInt ≠ 0 → frm (wRMr sd) wlRM σ s) ∧ ∃ σb, RDm sd σb (readS (kdT (bT σ) (nT2 σ)) (vlT (bT σ) (nT2 σ)) (plI (bT σ) (nT2 σ)) (nmT (bT σ) (nT2 σ))) r s) := by
  obtain ⟨m, hm, hm2⟩ : ∃ m : Nat, σ.1 236 2 = nI m ∧ m ≤ 2000 := ⟨(σ.1 236 2).toInt.toNat, Int32.toInt_inj.mp (by rw [nIt (by omega)]; omega), by omega⟩
  have en : nT2 σ = m := by unfold nT2; rw [hm, nIt (by omega), Int.toNat_natCast]
  rw [en]
  unfold f_X12_read
  refine Ok.bd ?_
  rw [hm, nI0]
  generalize hs0 : hI σ 236 4 (nI m) = s0
  have f0 : frm (wRMr sd) wlRM σ s0 := by rw [← hs0]; exact frm.rf.I (by unfold wRMr; simp)
  refine mr_copy (σ := s0) (m := m) hm2 (by rw [← hs0, rI_s]) (fun s2 hf hz => ?_) m 0 5000 s0 (by omega) (by omega) frm.rf (fun i hi => absurd hi (by omega))
  have q2 : ∀ k, k ≠ 4 → s2.1 236 k = σ.1 236 k := fun k hk => by rw [hf.1 236 k rfl, ← hs0, rI_k hk]
  refine (mr_tail (m := m) hsd hm2 (by rw [hf.1 236 4 rfl, ← hs0, rI_s]) (by rw [q2 18 (by decide)]; exact hlv) (fun k hk => by rw [hf.2.1 243 rfl, ← hs0]; exact hK k hk)).mono (fun r s h => ?_)
  obtain ⟨a1, a2, a3, σb, a4⟩ := h
  have f2 : frm (wRMr sd) wlRM σ s2 := f0.tr (hf.mono (fun a k e => by simpa using (wRMr_x e).2.2.2.1) (fun _ _ => rfl))
  have ec := readS_cg (b := bM s2) (b' := bT σ) (n := m) (fun i hi => by
    unfold bM bT
    rw [hz i hi, ← hs0, rI_i (by decide)])
  rw [ec] at a4
  exact ⟨a1, (f2.mono (fun _ _ => wRM_r) (fun _ e => e)).tr a2, fun h => f2.tr (a3 h), σb, a4⟩
end MHD
set_option maxHeartbeats 4000000 in
set_option maxRecDepth 100000 in
theorem Z_J7_fill_53178 {l : Launch} {D : va_G} {ids : List Nat} {ad : Nat → Nat} {ca : Nat → ClassId} {σ : HS} {p1 : Nat} {x2 : Int32} {s0 : HS} (hid : ∀ i, i < 277 → i ∈ ids) (hp1 : rowOK p1) (h : f_J7_fill_53178 p1 x2 σ = some s0) : Kv l D ids ad ca yJ7_fill_53178 cJ7_fill_53178 4 0 0 [.ref (ad p1), .int x2] σ (fun σ1 => σ1 = s0) := by
  obtain ⟨R, hR⟩ : ∃ R, s0 = R := ⟨_, rfl⟩
  replace h := h.trans (congrArg some hR)
  refine Kv.ofF (by decide +kernel) (Nat.le_of_ble_eq_true rfl) 2 (fun Γ C Rt => ?_)
  show AW ids ad ca Γ 0 [some (.ref (ad p1)), some (.int x2), none, none] [] σ
  unfold f_J7_fill_53178 at h
  have j5 : ∀ (n : Nat) (y1 : Int32) (y2 : Int32) (y3 : Int32) (σ : HS), f_J7_fill_53178_5 p1 n y1 y2 y3 σ = some R → AW ids ad ca Γ 5 [some (.ref (ad p1)), some (.int y1), some (.int y2), some (.int y3)] [] σ := by
    intro n
    induction n with
    | zero => intro y1 y2 y3 σ h; exact nn h
    | succ n ih =>
      intro y1 y2 y3 σ h
      have h : b_J7_fill_53178_5 p1 (f_J7_fill_53178_5 p1 n) y1 y2 y3 σ = some R := h
      unfold b_J7_fill_53178_5 at h
      refine a_iload_n C dJ7_fill_53178_5 (i := 2) rfl rfl ?_
      refine a_iload_n C dJ7_fill_53178_6 (i := 3) rfl rfl ?_
      refine p_ic_ge C (X := y2.toInt) (Y := y3.toInt) rfl rfl dJ7_fill_53178_7 (tgt := 20) rfl h (fun h => ?_) (fun h => ?_)
      ·
        exact a_vret Rt dJ7_fill_53178_20 (retv_eq (h.trans (congrArg some hR.symm)))
      ·
        refine a_aload_n C dJ7_fill_53178_10 (i := 0) rfl rfl ?_
        refine a_iload_n C dJ7_fill_53178_11 (i := 2) rfl rfl ?_
        refine a_iload_n C dJ7_fill_53178_12 (i := 1) rfl rfl ?_
        refine p_iast C (i := p1) hp1 hid rfl dJ7_fill_53178_13 h (fun σ1 h => ?_)
        refine p_iinc C (y := (y2 + 1)) (fun z2 => [some (.ref (ad p1)), some (.int y1), some (.int z2), some (.int y3)]) dJ7_fill_53178_14 rfl rfl (by decide) rfl (fun _ => rfl) h (fun z2 h => ?_)
        refine a_goto C dJ7_fill_53178_17 (tgt := 5) rfl ?_
        exact ih _ _ _ _ h
  refine a_iconst C dJ7_fill_53178_0 (v := 0) rfl ?_
  refine a_istore_n C dJ7_fill_53178_1 (i := 2) rfl (by decide) rfl (vs1 := [some (.ref (ad p1)), some (.int x2), some (.int 0), none]) rfl ?_
  refine a_aload_n C dJ7_fill_53178_2 (i := 0) rfl rfl ?_
  refine a_alen C (by rw [hp1.1]; decide) (hid _ hp1.2) rfl dJ7_fill_53178_3 ?_
  refine p_istore_n C (fun z1 => [some (.ref (ad p1)), some (.int x2), some (.int 0), some (.int z1)]) dJ7_fill_53178_4 (i := 3) rfl (by decide) rfl (fun _ => rfl) h (fun z1 h => ?_)
  exact j5 _ _ _ _ _ h
set_option maxHeartbeats 4000000 in
set_option maxRecDepth 100000 in
theorem Z_X0_begin {l : Launch} {D : va_G} {ids : List Nat} {ad : Nat → Nat} {ca : Nat → ClassId} {σ : HS} {a : Nat} {p1 : Nat} {s0 : HS} (hid : ∀ i, i < 277 → i ∈ ids) (ha : airOK a) (hp1 : txtOK p1) (h : f_X0_begin a p1 σ = some s0) : Kv l D ids ad ca yX0_begin cX0_begin 2 1 60 [.ref (ad a), .ref (ad p1)] σ (fun σ1 => σ1 = s0) := by
  obtain ⟨R, hR⟩ : ∃ R, s0 = R := ⟨_, rfl⟩
  replace h := h.trans (congrArg some hR)
  refine Kv.of (by decide) (Nat.le_of_ble_eq_true rfl) 0 (fun Γ C Rt => ?_)
  show AW ids ad ca Γ 0 [some (.ref (ad a)), some (.ref (ad p1))] [] σ
  unfold f_X0_begin at h
  have j77 : ∀ (v0 : Int32) (σ : HS), f_X0_begin_77 a p1 v0 σ = some R → AW ids ad ca Γ 77 [some (.ref (ad a)), none] [.int v0, .ref (ad a)] σ := by
    intro v0 σ h
    unfold f_X0_begin_77 at h
    refine p_put C fp_RX0_21 (i := a) ha.1.1 (hid _ ha.1.2) rfl rfl dX0_begin_77 h (fun σ1 h => ?_)
    refine a_aload_n C dX0_begin_80 (i := 0) rfl rfl ?_
    refine a_iconst C dX0_begin_81 (v := 0) rfl ?_
    refine p_put C fp_RX0_67 (i := a) ha.1.1 (hid _ ha.1.2) rfl rfl dX0_begin_82 h (fun σ2 h => ?_)
    refine a_aload_n C dX0_begin_85 (i := 0) rfl rfl ?_
    refine a_iconst C dX0_begin_86 (v := (-1)) rfl ?_
    refine p_put C fp_RX0_25 (i := a) ha.1.1 (hid _ ha.1.2) rfl rfl dX0_begin_87 h (fun σ3 h => ?_)
    exact a_vret Rt dX0_begin_90 (retv_eq (h.trans (congrArg some hR.symm)))
  refine a_aload_n C dX0_begin_0 (i := 0) rfl rfl ?_
  refine a_aload_n C dX0_begin_1 (i := 1) rfl rfl ?_
  refine a_get C fl_RX0_28 (i := p1) hp1.1.1 (hid _ hp1.1.2) (v := .int (σ.1 p1 0)) rfl dX0_begin_2 ?_
  refine p_put C fp_RX0_33 (i := a) ha.1.1 (hid _ ha.1.2) rfl rfl dX0_begin_5 h (fun σ1 h => ?_)
  refine a_aload_n C dX0_begin_8 (i := 0) rfl rfl ?_
  refine a_get C fl_RX0_9 (i := a) ha.1.1 (hid _ ha.1.2) (v := .ref (ad (a + 1))) rfl dX0_begin_9 ?_
  refine a_iconst C dX0_begin_12 (v := 0) rfl ?_
  refine p_callSv C (As := [.ref (ad (a + 1)), .int 0]) h (fun _ e => Z_J7_fill_53178 hid ha.2.1.1 e) ms_J7_fill_53178 ml_RX0_34 rfl rfl (Nat.le_of_ble_eq_true rfl) (Nat.le_of_ble_eq_true rfl) (Nat.le_of_ble_eq_true rfl) dX0_begin_13 (fun σ2 h => ?_)
  refine a_aload_n C dX0_begin_16 (i := 0) rfl rfl ?_
  refine a_get C fl_RX0_18 (i := a) ha.1.1 (hid _ ha.1.2) (v := .ref (ad (a + 3))) rfl dX0_begin_17 ?_
  refine a_iconst C dX0_begin_20 (v := 0) rfl ?_
  refine p_callSv C (As := [.ref (ad (a + 3)), .int 0]) h (fun _ e => Z_J7_fill_53178 hid ha.2.2.2.1 e) ms_J7_fill_53178 ml_RX0_34 rfl rfl (Nat.le_of_ble_eq_true rfl) (Nat.le_of_ble_eq_true rfl) (Nat.le_of_ble_eq_true rfl) dX0_begin_21 (fun σ4 h => ?_)
  refine a_aload_n C dX0_begin_24 (i := 1) rfl rfl ?_
  refine a_get C fl_RX0_40 (i := p1) hp1.1.1 (hid _ hp1.1.2) (v := .ref (ad (p1 + 3))) rfl dX0_begin_25 ?_
  refine a_iconst C dX0_begin_28 (v := 0) rfl ?_
  refine a_aload_n C dX0_begin_29 (i := 0) rfl rfl ?_
  refine a_get C fl_RX0_15 (i := a) ha.1.1 (hid _ ha.1.2) (v := .ref (ad (a + 2))) rfl dX0_begin_30 ?_
  refine a_iconst C dX0_begin_33 (v := 0) rfl ?_
  refine a_bipush C dX0_begin_34 (v := 7) rfl ?_
  refine p_copyi C (i0 := (p1 + 3)) (i1 := (a + 2)) (SP := 0) (DP := 0) (Z := 7) ml_RX0_43 ac_w.1 ac_w.2.1 ac_w.2.2 hp1.2.2.2.1.1 ha.2.2.1.1 hid (by rw [hp1.2.2.2.1.2]; rfl) (by rw [ha.2.2.1.2]; rfl) (by decide) (by decide) (by decide) (Nat.le_of_ble_eq_true rfl) (Nat.le_of_ble_eq_true rfl) dX0_begin_36 h (fun σ6 h => ?_)
  refine a_aload_n C dX0_begin_39 (i := 0) rfl rfl ?_
  refine a_iconst C dX0_begin_40 (v := 0) rfl ?_
  refine p_put C fp_RX0_49 (i := a) ha.1.1 (hid _ ha.1.2) rfl rfl dX0_begin_41 h (fun σ7 h => ?_)
  refine a_aload_n C dX0_begin_44 (i := 0) rfl rfl ?_
  refine a_iconst C dX0_begin_45 (v := 0) rfl ?_
  refine p_put C fp_RX0_52 (i := a) ha.1.1 (hid _ ha.1.2) rfl rfl dX0_begin_46 h (fun σ8 h => ?_)
  refine a_aload_n C dX0_begin_49 (i := 0) rfl rfl ?_
  refine a_iconst C dX0_begin_50 (v := 0) rfl ?_
  refine p_put C fp_RX0_55 (i := a) ha.1.1 (hid _ ha.1.2) rfl rfl dX0_begin_51 h (fun σ9 h => ?_)
  refine a_aload_n C dX0_begin_54 (i := 0) rfl rfl ?_
  refine a_iconst C dX0_begin_55 (v := 0) rfl ?_
  refine p_put C fp_RX0_58 (i := a) ha.1.1 (hid _ ha.1.2) rfl rfl dX0_begin_56 h (fun σ10 h => ?_)
  refine a_aload_n C dX0_begin_59 (i := 0) rfl rfl ?_
  refine a_iconst C dX0_begin_60 (v := 0) rfl ?_
  refine p_put C fp_RX0_61 (i := a) ha.1.1 (hid _ ha.1.2) rfl rfl dX0_begin_61 h (fun σ11 h => ?_)
  refine a_aload_n C dX0_begin_64 (i := 0) rfl rfl ?_
  refine a_aload_n C dX0_begin_65 (i := 1) rfl rfl ?_
  refine a_get C fl_RX0_64 (i := p1) hp1.1.1 (hid _ hp1.1.2) (v := .int (σ11.1 p1 4)) rfl dX0_begin_66 ?_
  refine p_if_le C (X := (σ11.1 p1 4).toInt) rfl dX0_begin_69 (tgt := 76) rfl h (fun h => ?_) (fun h => ?_)
  ·
    refine a_iconst C dX0_begin_76 (v := (-1)) rfl ?_
    refine AW.sub (vs' := [some (.ref (ad a)), none]) (lsub_of (by simp [lsubB])) ?_
    exact j77 _ _ h
  ·
    refine a_iconst C dX0_begin_72 (v := 0) rfl ?_
    refine a_goto C dX0_begin_73 (tgt := 77) rfl ?_
    refine AW.sub (vs' := [some (.ref (ad a)), none]) (lsub_of (by simp [lsubB])) ?_
    exact j77 _ _ h
set_option maxHeartbeats 4000000 in
set_option maxRecDepth 100000 in
theorem Z_X0_copy {l : Launch} {D : va_G} {ids : List Nat} {ad : Nat → Nat} {ca : Nat → ClassId} {σ : HS} {a : Nat} {p1 : Nat} {s0 : HS} (hid : ∀ i, i < 277 → i ∈ ids) (ha : airOK a) (hp1 : airOK p1) (h : f_X0_copy a p1 σ = some s0) : Kv l D ids ad ca yX0_copy cX0_copy 2 1 60 [.ref (ad a), .ref (ad p1)] σ (fun σ1 => σ1 = s0) := by
  obtain ⟨R, hR⟩ : ∃ R, s0 = R := ⟨_, rfl⟩
  replace h := h.trans (congrArg some hR)
  refine Kv.of (by decide) (Nat.le_of_ble_eq_true rfl) 0 (fun Γ C Rt => ?_)
  show AW ids ad ca Γ 0 [some (.ref (ad a)), some (.ref (ad p1))] [] σ
  unfold f_X0_copy at h
  refine a_aload_n C dX0_copy_0 (i := 0) rfl rfl ?_
  refine a_aload_n C dX0_copy_1 (i := 1) rfl rfl ?_
  refine a_get C fl_RX0_33 (i := p1) hp1.1.1 (hid _ hp1.1.2) (v := .int (σ.1 p1 0)) rfl dX0_copy_2 ?_
  refine p_put C fp_RX0_33 (i := a) ha.1.1 (hid _ ha.1.2) rfl rfl dX0_copy_5 h (fun σ1 h => ?_)
  refine a_aload_n C dX0_copy_8 (i := 1) rfl rfl ?_
  refine a_get C fl_RX0_9 (i := p1) hp1.1.1 (hid _ hp1.1.2) (v := .ref (ad (p1 + 1))) rfl dX0_copy_9 ?_
  refine a_iconst C dX0_copy_12 (v := 0) rfl ?_
  refine a_aload_n C dX0_copy_13 (i := 0) rfl rfl ?_
  refine a_get C fl_RX0_9 (i := a) ha.1.1 (hid _ ha.1.2) (v := .ref (ad (a + 1))) rfl dX0_copy_14 ?_
  refine a_iconst C dX0_copy_17 (v := 0) rfl ?_
  refine a_bipush C dX0_copy_18 (v := 7) rfl ?_
  refine p_copyi C (i0 := (p1 + 1)) (i1 := (a + 1)) (SP := 0) (DP := 0) (Z := 7) ml_RX0_43 ac_w.1 ac_w.2.1 ac_w.2.2 hp1.2.1.1 ha.2.1.1 hid (by rw [hp1.2.1.2]; rfl) (by rw [ha.2.1.2]; rfl) (by decide) (by decide) (by decide) (Nat.le_of_ble_eq_true rfl) (Nat.le_of_ble_eq_true rfl) dX0_copy_20 h (fun σ2 h => ?_)
  refine a_aload_n C dX0_copy_23 (i := 1) rfl rfl ?_
  refine a_get C fl_RX0_15 (i := p1) hp1.1.1 (hid _ hp1.1.2) (v := .ref (ad (p1 + 2))) rfl dX0_copy_24 ?_
  refine a_iconst C dX0_copy_27 (v := 0) rfl ?_
  refine a_aload_n C dX0_copy_28 (i := 0) rfl rfl ?_
  refine a_get C fl_RX0_15 (i := a) ha.1.1 (hid _ ha.1.2) (v := .ref (ad (a + 2))) rfl dX0_copy_29 ?_
  refine a_iconst C dX0_copy_32 (v := 0) rfl ?_
  refine a_bipush C dX0_copy_33 (v := 7) rfl ?_
  refine p_copyi C (i0 := (p1 + 2)) (i1 := (a + 2)) (SP := 0) (DP := 0) (Z := 7) ml_RX0_43 ac_w.1 ac_w.2.1 ac_w.2.2 hp1.2.2.1.1 ha.2.2.1.1 hid (by rw [hp1.2.2.1.2]; rfl) (by rw [ha.2.2.1.2]; rfl) (by decide) (by decide) (by decide) (Nat.le_of_ble_eq_true rfl) (Nat.le_of_ble_eq_true rfl) dX0_copy_35 h (fun σ3 h => ?_)
  refine a_aload_n C dX0_copy_38 (i := 1) rfl rfl ?_
  refine a_get C fl_RX0_18 (i := p1) hp1.1.1 (hid _ hp1.1.2) (v := .ref (ad (p1 + 3))) rfl dX0_copy_39 ?_
  refine a_iconst C dX0_copy_42 (v := 0) rfl ?_
  refine a_aload_n C dX0_copy_43 (i := 0) rfl rfl ?_
  refine a_get C fl_RX0_18 (i := a) ha.1.1 (hid _ ha.1.2) (v := .ref (ad (a + 3))) rfl dX0_copy_44 ?_
  refine a_iconst C dX0_copy_47 (v := 0) rfl ?_
  refine a_bipush C dX0_copy_48 (v := 7) rfl ?_
  refine p_copyi C (i0 := (p1 + 3)) (i1 := (a + 3)) (SP := 0) (DP := 0) (Z := 7) ml_RX0_43 ac_w.1 ac_w.2.1 ac_w.2.2 hp1.2.2.2.1 ha.2.2.2.1 hid (by rw [hp1.2.2.2.2]; rfl) (by rw [ha.2.2.2.2]; rfl) (by decide) (by decide) (by decide) (Nat.le_of_ble_eq_true rfl) (Nat.le_of_ble_eq_true rfl) dX0_copy_50 h (fun σ4 h => ?_)
  refine a_aload_n C dX0_copy_53 (i := 0) rfl rfl ?_
  refine a_aload_n C dX0_copy_54 (i := 1) rfl rfl ?_
  refine a_get C fl_RX0_49 (i := p1) hp1.1.1 (hid _ hp1.1.2) (v := .int (σ4.1 p1 4)) rfl dX0_copy_55 ?_
  refine p_put C fp_RX0_49 (i := a) ha.1.1 (hid _ ha.1.2) rfl rfl dX0_copy_58 h (fun σ5 h => ?_)
  refine a_aload_n C dX0_copy_61 (i := 0) rfl rfl ?_
  refine a_aload_n C dX0_copy_62 (i := 1) rfl rfl ?_
  refine a_get C fl_RX0_52 (i := p1) hp1.1.1 (hid _ hp1.1.2) (v := .int (σ5.1 p1 5)) rfl dX0_copy_63 ?_
  refine p_put C fp_RX0_52 (i := a) ha.1.1 (hid _ ha.1.2) rfl rfl dX0_copy_66 h (fun σ6 h => ?_)
  refine a_aload_n C dX0_copy_69 (i := 0) rfl rfl ?_
  refine a_aload_n C dX0_copy_70 (i := 1) rfl rfl ?_
  refine a_get C fl_RX0_55 (i := p1) hp1.1.1 (hid _ hp1.1.2) (v := .int (σ6.1 p1 6)) rfl dX0_copy_71 ?_
  refine p_put C fp_RX0_55 (i := a) ha.1.1 (hid _ ha.1.2) rfl rfl dX0_copy_74 h (fun σ7 h => ?_)
  refine a_aload_n C dX0_copy_77 (i := 0) rfl rfl ?_
  refine a_aload_n C dX0_copy_78 (i := 1) rfl rfl ?_
  refine a_get C fl_RX0_58 (i := p1) hp1.1.1 (hid _ hp1.1.2) (v := .int (σ7.1 p1 7)) rfl dX0_copy_79 ?_
  refine p_put C fp_RX0_58 (i := a) ha.1.1 (hid _ ha.1.2) rfl rfl dX0_copy_82 h (fun σ8 h => ?_)
  refine a_aload_n C dX0_copy_85 (i := 0) rfl rfl ?_
  refine a_aload_n C dX0_copy_86 (i := 1) rfl rfl ?_
  refine a_get C fl_RX0_61 (i := p1) hp1.1.1 (hid _ hp1.1.2) (v := .int (σ8.1 p1 8)) rfl dX0_copy_87 ?_
  refine p_put C fp_RX0_61 (i := a) ha.1.1 (hid _ ha.1.2) rfl rfl dX0_copy_90 h (fun σ9 h => ?_)
  refine a_aload_n C dX0_copy_93 (i := 0) rfl rfl ?_
  refine a_aload_n C dX0_copy_94 (i := 1) rfl rfl ?_
  refine a_get C fl_RX0_21 (i := p1) hp1.1.1 (hid _ hp1.1.2) (v := .int (σ9.1 p1 9)) rfl dX0_copy_95 ?_
  refine p_put C fp_RX0_21 (i := a) ha.1.1 (hid _ ha.1.2) rfl rfl dX0_copy_98 h (fun σ10 h => ?_)
  refine a_aload_n C dX0_copy_101 (i := 0) rfl rfl ?_
  refine a_aload_n C dX0_copy_102 (i := 1) rfl rfl ?_
  refine a_get C fl_RX0_67 (i := p1) hp1.1.1 (hid _ hp1.1.2) (v := .int (σ10.1 p1 10)) rfl dX0_copy_103 ?_
  refine p_put C fp_RX0_67 (i := a) ha.1.1 (hid _ ha.1.2) rfl rfl dX0_copy_106 h (fun σ11 h => ?_)
  refine a_aload_n C dX0_copy_109 (i := 0) rfl rfl ?_
  refine a_aload_n C dX0_copy_110 (i := 1) rfl rfl ?_
  refine a_get C fl_RX0_25 (i := p1) hp1.1.1 (hid _ hp1.1.2) (v := .int (σ11.1 p1 11)) rfl dX0_copy_111 ?_
  refine p_put C fp_RX0_25 (i := a) ha.1.1 (hid _ ha.1.2) rfl rfl dX0_copy_114 h (fun σ12 h => ?_)
  exact a_vret Rt dX0_copy_117 (retv_eq (h.trans (congrArg some hR.symm)))
set_option maxHeartbeats 4000000 in
set_option maxRecDepth 100000 in
theorem Z_X0_isUp {l : Launch} {D : va_G} {ids : List Nat} {ad : Nat → Nat} {ca : Nat → ClassId} {σ : HS} {a : Nat} {x1 : Int32} {r0 : Int32} {s0 : HS} (hid : ∀ i, i < 277 → i ∈ ids) (ha : airOK a) (h : f_X0_isUp a x1 σ = some (r0, s0)) : Ki l D ids ad ca yX0_isUp cX0_isUp 2 .boolean 0 0 [.ref (ad a), .int x1] σ (fun r σ1 => r = r0 ∧ σ1 = s0) := by
  obtain ⟨R, hR⟩ : ∃ R, (r0, s0) = R := ⟨_, rfl⟩
  replace h := h.trans (congrArg some hR)
  refine Ki.of (by decide) (Nat.le_of_ble_eq_true rfl) 0 (fun Γ C Rt => ?_)
  show AW ids ad ca Γ 0 [some (.ref (ad a)), some (.int x1)] [] σ
  unfold f_X0_isUp at h
  refine a_aload_n C dX0_isUp_0 (i := 0) rfl rfl ?_
  refine a_get C fl_RX0_9 (i := a) ha.1.1 (hid _ ha.1.2) (v := .ref (ad (a + 1))) rfl dX0_isUp_1 ?_
  refine a_iload_n C dX0_isUp_4 (i := 1) rfl rfl ?_
  refine p_iald C (i := (a + 1)) ha.2.1.1 hid (by rw [ha.2.1.2]; rfl) dX0_isUp_5 h (fun h => ?_)
  refine p_if_ne C (X := (σ.1 (a + 1) x1.toInt.toNat).toInt) rfl dX0_isUp_6 (tgt := 13) rfl h (fun h => ?_) (fun h => ?_)
  ·
    refine a_iconst C dX0_isUp_13 (v := 0) rfl ?_
    exact a_iret Rt dX0_isUp_14 (nar_z (by decide)).1 (ret_eq (h.trans (congrArg some hR.symm)))
  ·
    refine a_iconst C dX0_isUp_9 (v := 1) rfl ?_
    refine a_goto C dX0_isUp_10 (tgt := 14) rfl ?_
    exact a_iret Rt dX0_isUp_14 (nar_z (by decide)).1 (ret_eq (h.trans (congrArg some hR.symm)))
set_option maxHeartbeats 4000000 in
set_option maxRecDepth 100000 in
theorem Z_X0_landsNow {l : Launch} {D : va_G} {ids : List Nat} {ad : Nat → Nat} {ca : Nat → ClassId} {σ : HS} {a : Nat} {x1 : Int32} {r0 : Int32} {s0 : HS} (hid : ∀ i, i < 277 → i ∈ ids) (ha : airOK a) (h : f_X0_landsNow a x1 σ = some (r0, s0)) : Ki l D ids ad ca yX0_landsNow cX0_landsNow 2 .boolean 0 0 [.ref (ad a), .int x1] σ (fun r σ1 => r = r0 ∧ σ1 = s0) := by
  obtain ⟨R, hR⟩ : ∃ R, (r0, s0) = R := ⟨_, rfl⟩
  replace h := h.trans (congrArg some hR)
  refine Ki.of (by decide) (Nat.le_of_ble_eq_true rfl) 0 (fun Γ C Rt => ?_)
  show AW ids ad ca Γ 0 [some (.ref (ad a)), some (.int x1)] [] σ
  unfold f_X0_landsNow at h
  refine a_aload_n C dX0_landsNow_0 (i := 0) rfl rfl ?_
  refine a_get C fl_RX0_9 (i := a) ha.1.1 (hid _ ha.1.2) (v := .ref (ad (a + 1))) rfl dX0_landsNow_1 ?_
  refine a_iload_n C dX0_landsNow_4 (i := 1) rfl rfl ?_
  refine p_iald C (i := (a + 1)) ha.2.1.1 hid (by rw [ha.2.1.2]; rfl) dX0_landsNow_5 h (fun h => ?_)
  refine p_if_ne C (X := (σ.1 (a + 1) x1.toInt.toNat).toInt) rfl dX0_landsNow_6 (tgt := 22) rfl h (fun h => ?_) (fun h => ?_)
  ·
    refine a_iconst C dX0_landsNow_22 (v := 0) rfl ?_
    exact a_iret Rt dX0_landsNow_23 (nar_z (by decide)).1 (ret_eq (h.trans (congrArg some hR.symm)))
  ·
    refine a_aload_n C dX0_landsNow_9 (i := 0) rfl rfl ?_
    refine a_get C fl_RX0_15 (i := a) ha.1.1 (hid _ ha.1.2) (v := .ref (ad (a + 2))) rfl dX0_landsNow_10 ?_
    refine a_iload_n C dX0_landsNow_13 (i := 1) rfl rfl ?_
    refine p_iald C (i := (a + 2)) ha.2.2.1.1 hid (by rw [ha.2.2.1.2]; rfl) dX0_landsNow_14 h (fun h => ?_)
    refine p_if_ne C (X := (σ.1 (a + 2) x1.toInt.toNat).toInt) rfl dX0_landsNow_15 (tgt := 22) rfl h (fun h => ?_) (fun h => ?_)
    ·
      refine a_iconst C dX0_landsNow_22 (v := 0) rfl ?_
      exact a_iret Rt dX0_landsNow_23 (nar_z (by decide)).1 (ret_eq (h.trans (congrArg some hR.symm)))
    ·
      refine a_iconst C dX0_landsNow_18 (v := 1) rfl ?_
      refine a_goto C dX0_landsNow_19 (tgt := 23) rfl ?_
      exact a_iret Rt dX0_landsNow_23 (nar_z (by decide)).1 (ret_eq (h.trans (congrArg some hR.symm)))
set_option maxHeartbeats 4000000 in
set_option maxRecDepth 100000 in
theorem Z_X0_putUp {l : Launch} {D : va_G} {ids : List Nat} {ad : Nat → Nat} {ca : Nat → ClassId} {σ : HS} {a : Nat} {x1 : Int32} {x2 : Int32} {s0 : HS} (hid : ∀ i, i < 277 → i ∈ ids) (ha : airOK a) (h : f_X0_putUp a x1 x2 σ = some s0) : Kv l D ids ad ca yX0_putUp cX0_putUp 3 0 0 [.ref (ad a), .int x1, .int x2] σ (fun σ1 => σ1 = s0) := by
  obtain ⟨R, hR⟩ : ∃ R, s0 = R := ⟨_, rfl⟩
  replace h := h.trans (congrArg some hR)
  refine Kv.of (by decide) (Nat.le_of_ble_eq_true rfl) 0 (fun Γ C Rt => ?_)
  show AW ids ad ca Γ 0 [some (.ref (ad a)), some (.int x1), some (.int x2)] [] σ
  unfold f_X0_putUp at h
  refine a_aload_n C dX0_putUp_0 (i := 0) rfl rfl ?_
  refine a_get C fl_RX0_9 (i := a) ha.1.1 (hid _ ha.1.2) (v := .ref (ad (a + 1))) rfl dX0_putUp_1 ?_
  refine a_iload_n C dX0_putUp_4 (i := 1) rfl rfl ?_
  refine a_iconst C dX0_putUp_5 (v := 0) rfl ?_
  refine p_iast C (i := (a + 1)) ha.2.1.1 hid (by rw [ha.2.1.2]; rfl) dX0_putUp_6 h (fun σ1 h => ?_)
  refine a_aload_n C dX0_putUp_7 (i := 0) rfl rfl ?_
  refine a_get C fl_RX0_15 (i := a) ha.1.1 (hid _ ha.1.2) (v := .ref (ad (a + 2))) rfl dX0_putUp_8 ?_
  refine a_iload_n C dX0_putUp_11 (i := 1) rfl rfl ?_
  refine a_iload_n C dX0_putUp_12 (i := 2) rfl rfl ?_
  refine p_iast C (i := (a + 2)) ha.2.2.1.1 hid (by rw [ha.2.2.1.2]; rfl) dX0_putUp_13 h (fun σ2 h => ?_)
  exact a_vret Rt dX0_putUp_14 (retv_eq (h.trans (congrArg some hR.symm)))
set_option maxHeartbeats 4000000 in
set_option maxRecDepth 100000 in
theorem Z_X0_takeUp {l : Launch} {D : va_G} {ids : List Nat} {ad : Nat → Nat} {ca : Nat → ClassId} {σ : HS} {a : Nat} {x1 : Int32} {s0 : HS} (hid : ∀ i, i < 277 → i ∈ ids) (ha : airOK a) (h : f_X0_takeUp a x1 σ = some s0) : Kv l D ids ad ca yX0_takeUp cX0_takeUp 2 0 0 [.ref (ad a), .int x1] σ (fun σ1 => σ1 = s0) := by
  obtain ⟨R, hR⟩ : ∃ R, s0 = R := ⟨_, rfl⟩
  replace h := h.trans (congrArg some hR)
  refine Kv.of (by decide) (Nat.le_of_ble_eq_true rfl) 0 (fun Γ C Rt => ?_)
  show AW ids ad ca Γ 0 [some (.ref (ad a)), some (.int x1)] [] σ
  unfold f_X0_takeUp at h
  refine a_aload_n C dX0_takeUp_0 (i := 0) rfl rfl ?_
  refine a_iload_n C dX0_takeUp_1 (i := 1) rfl rfl ?_
  refine p_put C fp_RX0_21 (i := a) ha.1.1 (hid _ ha.1.2) rfl rfl dX0_takeUp_2 h (fun σ1 h => ?_)
  refine a_aload_n C dX0_takeUp_5 (i := 0) rfl rfl ?_
  refine a_aload_n C dX0_takeUp_6 (i := 0) rfl rfl ?_
  refine a_get C fl_RX0_49 (i := a) ha.1.1 (hid _ ha.1.2) (v := .int (σ1.1 a 4)) rfl dX0_takeUp_7 ?_
  refine p_put C fp_RX0_67 (i := a) ha.1.1 (hid _ ha.1.2) rfl rfl dX0_takeUp_10 h (fun σ2 h => ?_)
  exact a_vret Rt dX0_takeUp_13 (retv_eq (h.trans (congrArg some hR.symm)))
set_option maxHeartbeats 4000000 in
set_option maxRecDepth 100000 in
theorem Z_X0_drop {l : Launch} {D : va_G} {ids : List Nat} {ad : Nat → Nat} {ca : Nat → ClassId} {σ : HS} {a : Nat} {x1 : Int32} {s0 : HS} (hid : ∀ i, i < 277 → i ∈ ids) (ha : airOK a) (h : f_X0_drop a x1 σ = some s0) : Kv l D ids ad ca yX0_drop cX0_drop 2 0 0 [.ref (ad a), .int x1] σ (fun σ1 => σ1 = s0) := by
  obtain ⟨R, hR⟩ : ∃ R, s0 = R := ⟨_, rfl⟩
  replace h := h.trans (congrArg some hR)
  refine Kv.of (by decide) (Nat.le_of_ble_eq_true rfl) 0 (fun Γ C Rt => ?_)
  show AW ids ad ca Γ 0 [some (.ref (ad a)), some (.int x1)] [] σ
  unfold f_X0_drop at h
  refine a_aload_n C dX0_drop_0 (i := 0) rfl rfl ?_
  refine a_get C fl_RX0_9 (i := a) ha.1.1 (hid _ ha.1.2) (v := .ref (ad (a + 1))) rfl dX0_drop_1 ?_
  refine a_iload_n C dX0_drop_4 (i := 1) rfl rfl ?_
  refine a_iconst C dX0_drop_5 (v := 2) rfl ?_
  refine p_iast C (i := (a + 1)) ha.2.1.1 hid (by rw [ha.2.1.2]; rfl) dX0_drop_6 h (fun σ1 h => ?_)
  refine a_aload_n C dX0_drop_7 (i := 0) rfl rfl ?_
  refine a_dup C dX0_drop_8 rfl ?_
  refine a_get C fl_RX0_55 (i := a) ha.1.1 (hid _ ha.1.2) (v := .int (σ1.1 a 6)) rfl dX0_drop_9 ?_
  refine a_iconst C dX0_drop_12 (v := 1) rfl ?_
  refine a_iadd C dX0_drop_13 ?_
  refine p_put C fp_RX0_55 (i := a) ha.1.1 (hid _ ha.1.2) rfl rfl dX0_drop_14 h (fun σ2 h => ?_)
  exact a_vret Rt dX0_drop_17 (retv_eq (h.trans (congrArg some hR.symm)))
set_option maxHeartbeats 4000000 in
set_option maxRecDepth 100000 in
theorem Z_X0_bitsOf {l : Launch} {D : va_G} {ids : List Nat} {ad : Nat → Nat} {ca : Nat → ClassId} {σ : HS} {a : Nat} {x1 : Int32} {r0 : Int32} {s0 : HS} (hid : ∀ i, i < 277 → i ∈ ids) (ha : airOK a) (h : f_X0_bitsOf a x1 σ = some (r0, s0)) : Ki l D ids ad ca yX0_bitsOf cX0_bitsOf 4 .int 0 0 [.ref (ad a), .int x1] σ (fun r σ1 => r = r0 ∧ σ1 = s0) := by
  obtain ⟨R, hR⟩ : ∃ R, (r0, s0) = R := ⟨_, rfl⟩
  replace h := h.trans (congrArg some hR)
  refine Ki.of (by decide) (Nat.le_of_ble_eq_true rfl) 2 (fun Γ C Rt => ?_)
  show AW ids ad ca Γ 0 [some (.ref (ad a)), some (.int x1), none, none] [] σ
  unfold f_X0_bitsOf at h
  have j28 : ∀ (k4 : Int32 → Int32 → Int32 → HS → Option (Int32 × HS)) (hk4 : ∀ (y1 : Int32) (y2 : Int32) (y3 : Int32) (σ : HS), k4 y1 y2 y3 σ = some R → AW ids ad ca Γ 4 [some (.ref (ad a)), some (.int y1), some (.int y2), some (.int y3)] [] σ) (y1 : Int32) (y2 : Int32) (y3 : Int32) (σ : HS), f_X0_bitsOf_28 a k4 y1 y2 y3 σ = some R → AW ids ad ca Γ 28 [some (.ref (ad a)), some (.int y1), some (.int y2), some (.int y3)] [] σ := by
    intro k4 hk4 y1 y2 y3 σ h
    unfold f_X0_bitsOf_28 at h
    refine p_iinc C (y := (y3 + 1)) (fun z1 => [some (.ref (ad a)), some (.int y1), some (.int y2), some (.int z1)]) dX0_bitsOf_28 rfl rfl (by decide) rfl (fun _ => rfl) h (fun z1 h => ?_)
    refine a_goto C dX0_bitsOf_31 (tgt := 4) rfl ?_
    exact hk4 _ _ _ _ h
  have j4 : ∀ (n : Nat) (y1 : Int32) (y2 : Int32) (y3 : Int32) (σ : HS), f_X0_bitsOf_4 a n y1 y2 y3 σ = some R → AW ids ad ca Γ 4 [some (.ref (ad a)), some (.int y1), some (.int y2), some (.int y3)] [] σ := by
    intro n
    induction n with
    | zero => intro y1 y2 y3 σ h; exact nn h
    | succ n ih =>
      intro y1 y2 y3 σ h
      have h : b_X0_bitsOf_4 a (f_X0_bitsOf_4 a n) y1 y2 y3 σ = some R := h
      unfold b_X0_bitsOf_4 at h
      refine a_iload_n C dX0_bitsOf_4 (i := 3) rfl rfl ?_
      refine a_aload_n C dX0_bitsOf_5 (i := 0) rfl rfl ?_
      refine a_get C fl_RX0_33 (i := a) ha.1.1 (hid _ ha.1.2) (v := .int (σ.1 a 0)) rfl dX0_bitsOf_6 ?_
      refine p_ic_ge C (X := y3.toInt) (Y := (σ.1 a 0).toInt) rfl rfl dX0_bitsOf_9 (tgt := 34) rfl h (fun h => ?_) (fun h => ?_)
      ·
        refine a_iload_n C dX0_bitsOf_34 (i := 2) rfl rfl ?_
        exact a_iret Rt dX0_bitsOf_35 rfl (ret_eq (h.trans (congrArg some hR.symm)))
      ·
        refine a_aload_n C dX0_bitsOf_12 (i := 0) rfl rfl ?_
        refine a_get C fl_RX0_9 (i := a) ha.1.1 (hid _ ha.1.2) (v := .ref (ad (a + 1))) rfl dX0_bitsOf_13 ?_
        refine a_iload_n C dX0_bitsOf_16 (i := 3) rfl rfl ?_
        refine p_iald C (i := (a + 1)) ha.2.1.1 hid (by rw [ha.2.1.2]; rfl) dX0_bitsOf_17 h (fun h => ?_)
        refine a_iload_n C dX0_bitsOf_18 (i := 1) rfl rfl ?_
        refine p_ic_ne C (X := (σ.1 (a + 1) y3.toInt.toNat).toInt) (Y := y1.toInt) rfl rfl dX0_bitsOf_19 (tgt := 28) rfl h (fun h => ?_) (fun h => ?_)
        ·
          exact j28 (f_X0_bitsOf_4 a n) (fun y1 y2 y3 σ h => ih y1 y2 y3 σ h) _ _ _ _ h
        ·
          refine a_iload_n C dX0_bitsOf_22 (i := 2) rfl rfl ?_
          refine a_iconst C dX0_bitsOf_23 (v := 1) rfl ?_
          refine a_iload_n C dX0_bitsOf_24 (i := 3) rfl rfl ?_
          refine a_ishl C dX0_bitsOf_25 ?_
          refine a_ior C dX0_bitsOf_26 ?_
          refine p_istore_n C (fun z1 => [some (.ref (ad a)), some (.int y1), some (.int z1), some (.int y3)]) dX0_bitsOf_27 (i := 2) rfl (by decide) rfl (fun _ => rfl) h (fun z1 h => ?_)
          exact j28 (f_X0_bitsOf_4 a n) (fun y1 y2 y3 σ h => ih y1 y2 y3 σ h) _ _ _ _ h
  refine a_iconst C dX0_bitsOf_0 (v := 0) rfl ?_
  refine a_istore_n C dX0_bitsOf_1 (i := 2) rfl (by decide) rfl (vs1 := [some (.ref (ad a)), some (.int x1), some (.int 0), none]) rfl ?_
  refine a_iconst C dX0_bitsOf_2 (v := 0) rfl ?_
  refine a_istore_n C dX0_bitsOf_3 (i := 3) rfl (by decide) rfl (vs1 := [some (.ref (ad a)), some (.int x1), some (.int 0), some (.int 0)]) rfl ?_
  exact j4 _ _ _ _ _ h
set_option maxHeartbeats 4000000 in
set_option maxRecDepth 100000 in
theorem Z_J6_bitCount_0f7a4 {l : Launch} {D : va_G} {ids : List Nat} {ad : Nat → Nat} {ca : Nat → ClassId} {σ : HS} {x1 : Int32} {r0 : Int32} {s0 : HS} (hid : ∀ i, i < 277 → i ∈ ids) (h : f_J6_bitCount_0f7a4 x1 σ = some (r0, s0)) : Ki l D ids ad ca yJ6_bitCount_0f7a4 cJ6_bitCount_0f7a4 1 .int 0 0 [.int x1] σ (fun r σ1 => r = r0 ∧ σ1 = s0) := by
  obtain ⟨R, hR⟩ : ∃ R, (r0, s0) = R := ⟨_, rfl⟩
  replace h := h.trans (congrArg some hR)
  refine Ki.ofF (by decide +kernel) (Nat.le_of_ble_eq_true rfl) 0 (fun Γ C Rt => ?_)
  show AW ids ad ca Γ 0 [some (.int x1)] [] σ
  unfold f_J6_bitCount_0f7a4 at h
  refine a_iload_n C dJ6_bitCount_0f7a4_0 (i := 0) rfl rfl ?_
  refine a_iload_n C dJ6_bitCount_0f7a4_1 (i := 0) rfl rfl ?_
  refine a_iconst C dJ6_bitCount_0f7a4_2 (v := 1) rfl ?_
  refine a_iushr C dJ6_bitCount_0f7a4_3 ?_
  refine a_ldcw C dJ6_bitCount_0f7a4_4 ko_RJ6_265 ?_
  refine a_iand C dJ6_bitCount_0f7a4_7 ?_
  refine a_isub C dJ6_bitCount_0f7a4_8 ?_
  refine p_istore_n C (fun z1 => [some (.int z1)]) dJ6_bitCount_0f7a4_9 (i := 0) rfl (by decide) rfl (fun _ => rfl) h (fun z1 h => ?_)
  refine a_iload_n C dJ6_bitCount_0f7a4_10 (i := 0) rfl rfl ?_
  refine a_ldcw C dJ6_bitCount_0f7a4_11 ko_RJ6_266 ?_
  refine a_iand C dJ6_bitCount_0f7a4_14 ?_
  refine a_iload_n C dJ6_bitCount_0f7a4_15 (i := 0) rfl rfl ?_
  refine a_iconst C dJ6_bitCount_0f7a4_16 (v := 2) rfl ?_
  refine a_iushr C dJ6_bitCount_0f7a4_17 ?_
  refine a_ldcw C dJ6_bitCount_0f7a4_18 ko_RJ6_266 ?_
  refine a_iand C dJ6_bitCount_0f7a4_21 ?_
  refine a_iadd C dJ6_bitCount_0f7a4_22 ?_
  refine p_istore_n C (fun z2 => [some (.int z2)]) dJ6_bitCount_0f7a4_23 (i := 0) rfl (by decide) rfl (fun _ => rfl) h (fun z2 h => ?_)
  refine a_iload_n C dJ6_bitCount_0f7a4_24 (i := 0) rfl rfl ?_
  refine a_iload_n C dJ6_bitCount_0f7a4_25 (i := 0) rfl rfl ?_
  refine a_iconst C dJ6_bitCount_0f7a4_26 (v := 4) rfl ?_
  refine a_iushr C dJ6_bitCount_0f7a4_27 ?_
  refine a_iadd C dJ6_bitCount_0f7a4_28 ?_
  refine a_ldcw C dJ6_bitCount_0f7a4_29 ko_RJ6_267 ?_
  refine a_iand C dJ6_bitCount_0f7a4_32 ?_
  refine p_istore_n C (fun z3 => [some (.int z3)]) dJ6_bitCount_0f7a4_33 (i := 0) rfl (by decide) rfl (fun _ => rfl) h (fun z3 h => ?_)
  refine a_iload_n C dJ6_bitCount_0f7a4_34 (i := 0) rfl rfl ?_
  refine a_iload_n C dJ6_bitCount_0f7a4_35 (i := 0) rfl rfl ?_
  refine a_bipush C dJ6_bitCount_0f7a4_36 (v := 8) rfl ?_
  refine a_iushr C dJ6_bitCount_0f7a4_38 ?_
  refine a_iadd C dJ6_bitCount_0f7a4_39 ?_
  refine p_istore_n C (fun z4 => [some (.int z4)]) dJ6_bitCount_0f7a4_40 (i := 0) rfl (by decide) rfl (fun _ => rfl) h (fun z4 h => ?_)
  refine a_iload_n C dJ6_bitCount_0f7a4_41 (i := 0) rfl rfl ?_
  refine a_iload_n C dJ6_bitCount_0f7a4_42 (i := 0) rfl rfl ?_
  refine a_bipush C dJ6_bitCount_0f7a4_43 (v := 16) rfl ?_
  refine a_iushr C dJ6_bitCount_0f7a4_45 ?_
  refine a_iadd C dJ6_bitCount_0f7a4_46 ?_
  refine p_istore_n C (fun z5 => [some (.int z5)]) dJ6_bitCount_0f7a4_47 (i := 0) rfl (by decide) rfl (fun _ => rfl) h (fun z5 h => ?_)
  refine a_iload_n C dJ6_bitCount_0f7a4_48 (i := 0) rfl rfl ?_
  refine a_bipush C dJ6_bitCount_0f7a4_49 (v := 63) rfl ?_
  refine a_iand C dJ6_bitCount_0f7a4_51 ?_
  exact a_iret Rt dJ6_bitCount_0f7a4_52 rfl (ret_eq (h.trans (congrArg some hR.symm)))
set_option maxHeartbeats 4000000 in
set_option maxRecDepth 100000 in
theorem Z_X0_howManyUp {l : Launch} {D : va_G} {ids : List Nat} {ad : Nat → Nat} {ca : Nat → ClassId} {σ : HS} {a : Nat} {r0 : Int32} {s0 : HS} (hid : ∀ i, i < 277 → i ∈ ids) (ha : airOK a) (h : f_X0_howManyUp a σ = some (r0, s0)) : Ki l D ids ad ca yX0_howManyUp cX0_howManyUp 1 .int 1 23 [.ref (ad a)] σ (fun r σ1 => r = r0 ∧ σ1 = s0) := by
  obtain ⟨R, hR⟩ : ∃ R, (r0, s0) = R := ⟨_, rfl⟩
  replace h := h.trans (congrArg some hR)
  refine Ki.of (by decide) (Nat.le_of_ble_eq_true rfl) 0 (fun Γ C Rt => ?_)
  show AW ids ad ca Γ 0 [some (.ref (ad a))] [] σ
  unfold f_X0_howManyUp at h
  refine a_aload_n C dX0_howManyUp_0 (i := 0) rfl rfl ?_
  refine a_iconst C dX0_howManyUp_1 (v := 0) rfl ?_
  refine p_callVi C (As := [.int 0]) (i := a) ha.1.1 (hid _ ha.1.2) ⟨_, _, rfl⟩ (by decide) h (fun _ _ e => Z_X0_bitsOf hid ha e) mi_X0_bitsOf ml_RX0_70 rfl rfl (Nat.le_of_ble_eq_true rfl) (Nat.le_of_ble_eq_true rfl) (Nat.le_of_ble_eq_true rfl) dX0_howManyUp_2 (fun r2 σ1 h => ?_)
  refine p_callSi C (As := [.int r2]) h (fun _ _ e => Z_J6_bitCount_0f7a4 hid e) ms_J6_bitCount_0f7a4 ml_RX0_74 rfl rfl (Nat.le_of_ble_eq_true rfl) (Nat.le_of_ble_eq_true rfl) (Nat.le_of_ble_eq_true rfl) dX0_howManyUp_5 (fun r4 σ3 h => ?_)
  exact a_iret Rt dX0_howManyUp_8 rfl (ret_eq (h.trans (congrArg some hR.symm)))
set_option maxHeartbeats 4000000 in
set_option maxRecDepth 100000 in
theorem Z_X0_howManyLand {l : Launch} {D : va_G} {ids : List Nat} {ad : Nat → Nat} {ca : Nat → ClassId} {σ : HS} {a : Nat} {r0 : Int32} {s0 : HS} (hid : ∀ i, i < 277 → i ∈ ids) (ha : airOK a) (h : f_X0_howManyLand a σ = some (r0, s0)) : Ki l D ids ad ca yX0_howManyLand cX0_howManyLand 3 .int 1 21 [.ref (ad a)] σ (fun r σ1 => r = r0 ∧ σ1 = s0) := by
  obtain ⟨R, hR⟩ : ∃ R, (r0, s0) = R := ⟨_, rfl⟩
  replace h := h.trans (congrArg some hR)
  refine Ki.of (by decide) (Nat.le_of_ble_eq_true rfl) 2 (fun Γ C Rt => ?_)
  show AW ids ad ca Γ 0 [some (.ref (ad a)), none, none] [] σ
  unfold f_X0_howManyLand at h
  have j23 : ∀ (k4 : Int32 → Int32 → HS → Option (Int32 × HS)) (hk4 : ∀ (y1 : Int32) (y2 : Int32) (σ : HS), k4 y1 y2 σ = some R → AW ids ad ca Γ 4 [some (.ref (ad a)), some (.int y1), some (.int y2)] [] σ) (y1 : Int32) (y2 : Int32) (σ : HS), f_X0_howManyLand_23 a k4 y1 y2 σ = some R → AW ids ad ca Γ 23 [some (.ref (ad a)), some (.int y1), some (.int y2)] [] σ := by
    intro k4 hk4 y1 y2 σ h
    unfold f_X0_howManyLand_23 at h
    refine p_iinc C (y := (y2 + 1)) (fun z1 => [some (.ref (ad a)), some (.int y1), some (.int z1)]) dX0_howManyLand_23 rfl rfl (by decide) rfl (fun _ => rfl) h (fun z1 h => ?_)
    refine a_goto C dX0_howManyLand_26 (tgt := 4) rfl ?_
    exact hk4 _ _ _ h
  have j4 : ∀ (n : Nat) (y1 : Int32) (y2 : Int32) (σ : HS), f_X0_howManyLand_4 a n y1 y2 σ = some R → AW ids ad ca Γ 4 [some (.ref (ad a)), some (.int y1), some (.int y2)] [] σ := by
    intro n
    induction n with
    | zero => intro y1 y2 σ h; exact nn h
    | succ n ih =>
      intro y1 y2 σ h
      have h : b_X0_howManyLand_4 a (f_X0_howManyLand_4 a n) y1 y2 σ = some R := h
      unfold b_X0_howManyLand_4 at h
      refine a_iload_n C dX0_howManyLand_4 (i := 2) rfl rfl ?_
      refine a_aload_n C dX0_howManyLand_5 (i := 0) rfl rfl ?_
      refine a_get C fl_RX0_33 (i := a) ha.1.1 (hid _ ha.1.2) (v := .int (σ.1 a 0)) rfl dX0_howManyLand_6 ?_
      refine p_ic_ge C (X := y2.toInt) (Y := (σ.1 a 0).toInt) rfl rfl dX0_howManyLand_9 (tgt := 29) rfl h (fun h => ?_) (fun h => ?_)
      ·
        refine a_iload_n C dX0_howManyLand_29 (i := 1) rfl rfl ?_
        exact a_iret Rt dX0_howManyLand_30 rfl (ret_eq (h.trans (congrArg some hR.symm)))
      ·
        refine a_aload_n C dX0_howManyLand_12 (i := 0) rfl rfl ?_
        refine a_iload_n C dX0_howManyLand_13 (i := 2) rfl rfl ?_
        refine p_callVi C (As := [.int y2]) (i := a) ha.1.1 (hid _ ha.1.2) ⟨_, _, rfl⟩ (by decide) h (fun _ _ e => Z_X0_landsNow hid ha e) mi_X0_landsNow ml_RX0_79 rfl rfl (Nat.le_of_ble_eq_true rfl) (Nat.le_of_ble_eq_true rfl) (Nat.le_of_ble_eq_true rfl) dX0_howManyLand_14 (fun r2 σ1 h => ?_)
        refine p_if_eq C (X := r2.toInt) rfl dX0_howManyLand_17 (tgt := 23) rfl h (fun h => ?_) (fun h => ?_)
        ·
          exact j23 (f_X0_howManyLand_4 a n) (fun y1 y2 σ h => ih y1 y2 σ h) _ _ _ h
        ·
          refine p_iinc C (y := (y1 + 1)) (fun z3 => [some (.ref (ad a)), some (.int z3), some (.int y2)]) dX0_howManyLand_20 rfl rfl (by decide) rfl (fun _ => rfl) h (fun z3 h => ?_)
          exact j23 (f_X0_howManyLand_4 a n) (fun y1 y2 σ h => ih y1 y2 σ h) _ _ _ h
  refine a_iconst C dX0_howManyLand_0 (v := 0) rfl ?_
  refine a_istore_n C dX0_howManyLand_1 (i := 1) rfl (by decide) rfl (vs1 := [some (.ref (ad a)), some (.int 0), none]) rfl ?_
  refine a_iconst C dX0_howManyLand_2 (v := 0) rfl ?_
  refine a_istore_n C dX0_howManyLand_3 (i := 2) rfl (by decide) rfl (vs1 := [some (.ref (ad a)), some (.int 0), some (.int 0)]) rfl ?_
  exact j4 _ _ _ _ h
set_option maxHeartbeats 4000000 in
set_option maxRecDepth 100000 in
theorem Z_X0_firstLanding {l : Launch} {D : va_G} {ids : List Nat} {ad : Nat → Nat} {ca : Nat → ClassId} {σ : HS} {a : Nat} {r0 : Int32} {s0 : HS} (hid : ∀ i, i < 277 → i ∈ ids) (ha : airOK a) (h : f_X0_firstLanding a σ = some (r0, s0)) : Ki l D ids ad ca yX0_firstLanding cX0_firstLanding 2 .int 1 21 [.ref (ad a)] σ (fun r σ1 => r = r0 ∧ σ1 = s0) := by
  obtain ⟨R, hR⟩ : ∃ R, (r0, s0) = R := ⟨_, rfl⟩
  replace h := h.trans (congrArg some hR)
  refine Ki.of (by decide) (Nat.le_of_ble_eq_true rfl) 1 (fun Γ C Rt => ?_)
  show AW ids ad ca Γ 0 [some (.ref (ad a)), none] [] σ
  unfold f_X0_firstLanding at h
  have j2 : ∀ (n : Nat) (y1 : Int32) (σ : HS), f_X0_firstLanding_2 a n y1 σ = some R → AW ids ad ca Γ 2 [some (.ref (ad a)), some (.int y1)] [] σ := by
    intro n
    induction n with
    | zero => intro y1 σ h; exact nn h
    | succ n ih =>
      intro y1 σ h
      have h : b_X0_firstLanding_2 a (f_X0_firstLanding_2 a n) y1 σ = some R := h
      unfold b_X0_firstLanding_2 at h
      refine a_iload_n C dX0_firstLanding_2 (i := 1) rfl rfl ?_
      refine a_aload_n C dX0_firstLanding_3 (i := 0) rfl rfl ?_
      refine a_get C fl_RX0_33 (i := a) ha.1.1 (hid _ ha.1.2) (v := .int (σ.1 a 0)) rfl dX0_firstLanding_4 ?_
      refine p_ic_ge C (X := y1.toInt) (Y := (σ.1 a 0).toInt) rfl rfl dX0_firstLanding_7 (tgt := 26) rfl h (fun h => ?_) (fun h => ?_)
      ·
        refine a_iconst C dX0_firstLanding_26 (v := (-1)) rfl ?_
        exact a_iret Rt dX0_firstLanding_27 rfl (ret_eq (h.trans (congrArg some hR.symm)))
      ·
        refine a_aload_n C dX0_firstLanding_10 (i := 0) rfl rfl ?_
        refine a_iload_n C dX0_firstLanding_11 (i := 1) rfl rfl ?_
        refine p_callVi C (As := [.int y1]) (i := a) ha.1.1 (hid _ ha.1.2) ⟨_, _, rfl⟩ (by decide) h (fun _ _ e => Z_X0_landsNow hid ha e) mi_X0_landsNow ml_RX0_79 rfl rfl (Nat.le_of_ble_eq_true rfl) (Nat.le_of_ble_eq_true rfl) (Nat.le_of_ble_eq_true rfl) dX0_firstLanding_12 (fun r2 σ1 h => ?_)
        refine p_if_eq C (X := r2.toInt) rfl dX0_firstLanding_15 (tgt := 20) rfl h (fun h => ?_) (fun h => ?_)
        ·
          refine p_iinc C (y := (y1 + 1)) (fun z3 => [some (.ref (ad a)), some (.int z3)]) dX0_firstLanding_20 rfl rfl (by decide) rfl (fun _ => rfl) h (fun z3 h => ?_)
          refine a_goto C dX0_firstLanding_23 (tgt := 2) rfl ?_
          exact ih _ _ h
        ·
          refine a_iload_n C dX0_firstLanding_18 (i := 1) rfl rfl ?_
          exact a_iret Rt dX0_firstLanding_19 rfl (ret_eq (h.trans (congrArg some hR.symm)))
  refine a_iconst C dX0_firstLanding_0 (v := 0) rfl ?_
  refine a_istore_n C dX0_firstLanding_1 (i := 1) rfl (by decide) rfl (vs1 := [some (.ref (ad a)), some (.int 0)]) rfl ?_
  exact j2 _ _ _ h
set_option maxHeartbeats 4000000 in
set_option maxRecDepth 100000 in
theorem Z_X0_landingBits {l : Launch} {D : va_G} {ids : List Nat} {ad : Nat → Nat} {ca : Nat → ClassId} {σ : HS} {a : Nat} {r0 : Int32} {s0 : HS} (hid : ∀ i, i < 277 → i ∈ ids) (ha : airOK a) (h : f_X0_landingBits a σ = some (r0, s0)) : Ki l D ids ad ca yX0_landingBits cX0_landingBits 3 .int 1 21 [.ref (ad a)] σ (fun r σ1 => r = r0 ∧ σ1 = s0) := by
  obtain ⟨R, hR⟩ : ∃ R, (r0, s0) = R := ⟨_, rfl⟩
  replace h := h.trans (congrArg some hR)
  refine Ki.of (by decide) (Nat.le_of_ble_eq_true rfl) 2 (fun Γ C Rt => ?_)
  show AW ids ad ca Γ 0 [some (.ref (ad a)), none, none] [] σ
  unfold f_X0_landingBits at h
  have j31 : ∀ (k4 : Int32 → Int32 → HS → Option (Int32 × HS)) (hk4 : ∀ (y1 : Int32) (y2 : Int32) (σ : HS), k4 y1 y2 σ = some R → AW ids ad ca Γ 4 [some (.ref (ad a)), some (.int y1), some (.int y2)] [] σ) (y1 : Int32) (y2 : Int32) (σ : HS), f_X0_landingBits_31 a k4 y1 y2 σ = some R → AW ids ad ca Γ 31 [some (.ref (ad a)), some (.int y1), some (.int y2)] [] σ := by
    intro k4 hk4 y1 y2 σ h
    unfold f_X0_landingBits_31 at h
    refine p_iinc C (y := (y2 + 1)) (fun z1 => [some (.ref (ad a)), some (.int y1), some (.int z1)]) dX0_landingBits_31 rfl rfl (by decide) rfl (fun _ => rfl) h (fun z1 h => ?_)
    refine a_goto C dX0_landingBits_34 (tgt := 4) rfl ?_
    exact hk4 _ _ _ h
  have j4 : ∀ (n : Nat) (y1 : Int32) (y2 : Int32) (σ : HS), f_X0_landingBits_4 a n y1 y2 σ = some R → AW ids ad ca Γ 4 [some (.ref (ad a)), some (.int y1), some (.int y2)] [] σ := by
    intro n
    induction n with
    | zero => intro y1 y2 σ h; exact nn h
    | succ n ih =>
      intro y1 y2 σ h
      have h : b_X0_landingBits_4 a (f_X0_landingBits_4 a n) y1 y2 σ = some R := h
      unfold b_X0_landingBits_4 at h
      refine a_iload_n C dX0_landingBits_4 (i := 2) rfl rfl ?_
      refine a_aload_n C dX0_landingBits_5 (i := 0) rfl rfl ?_
      refine a_get C fl_RX0_33 (i := a) ha.1.1 (hid _ ha.1.2) (v := .int (σ.1 a 0)) rfl dX0_landingBits_6 ?_
      refine p_ic_ge C (X := y2.toInt) (Y := (σ.1 a 0).toInt) rfl rfl dX0_landingBits_9 (tgt := 37) rfl h (fun h => ?_) (fun h => ?_)
      ·
        refine a_iload_n C dX0_landingBits_37 (i := 1) rfl rfl ?_
        exact a_iret Rt dX0_landingBits_38 rfl (ret_eq (h.trans (congrArg some hR.symm)))
      ·
        refine a_aload_n C dX0_landingBits_12 (i := 0) rfl rfl ?_
        refine a_iload_n C dX0_landingBits_13 (i := 2) rfl rfl ?_
        refine p_callVi C (As := [.int y2]) (i := a) ha.1.1 (hid _ ha.1.2) ⟨_, _, rfl⟩ (by decide) h (fun _ _ e => Z_X0_isUp hid ha e) mi_X0_isUp ml_RX0_83 rfl rfl (Nat.le_of_ble_eq_true rfl) (Nat.le_of_ble_eq_true rfl) (Nat.le_of_ble_eq_true rfl) dX0_landingBits_14 (fun r2 σ1 h => ?_)
        refine p_if_eq C (X := r2.toInt) rfl dX0_landingBits_17 (tgt := 31) rfl h (fun h => ?_) (fun h => ?_)
        ·
          exact j31 (f_X0_landingBits_4 a n) (fun y1 y2 σ h => ih y1 y2 σ h) _ _ _ h
        ·
          refine a_iload_n C dX0_landingBits_20 (i := 1) rfl rfl ?_
          refine a_iconst C dX0_landingBits_21 (v := 1) rfl ?_
          refine a_aload_n C dX0_landingBits_22 (i := 0) rfl rfl ?_
          refine a_get C fl_RX0_15 (i := a) ha.1.1 (hid _ ha.1.2) (v := .ref (ad (a + 2))) rfl dX0_landingBits_23 ?_
          refine a_iload_n C dX0_landingBits_26 (i := 2) rfl rfl ?_
          refine p_iald C (i := (a + 2)) ha.2.2.1.1 hid (by rw [ha.2.2.1.2]; rfl) dX0_landingBits_27 h (fun h => ?_)
          refine a_ishl C dX0_landingBits_28 ?_
          refine a_ior C dX0_landingBits_29 ?_
          refine p_istore_n C (fun z3 => [some (.ref (ad a)), some (.int z3), some (.int y2)]) dX0_landingBits_30 (i := 1) rfl (by decide) rfl (fun _ => rfl) h (fun z3 h => ?_)
          exact j31 (f_X0_landingBits_4 a n) (fun y1 y2 σ h => ih y1 y2 σ h) _ _ _ h
  refine a_iconst C dX0_landingBits_0 (v := 0) rfl ?_
  refine a_istore_n C dX0_landingBits_1 (i := 1) rfl (by decide) rfl (vs1 := [some (.ref (ad a)), some (.int 0), none]) rfl ?_
  refine a_iconst C dX0_landingBits_2 (v := 0) rfl ?_
  refine a_istore_n C dX0_landingBits_3 (i := 2) rfl (by decide) rfl (vs1 := [some (.ref (ad a)), some (.int 0), some (.int 0)]) rfl ?_
  exact j4 _ _ _ _ h
set_option maxHeartbeats 4000000 in
set_option maxRecDepth 100000 in
theorem Z_X0_twoLandAlike {l : Launch} {D : va_G} {ids : List Nat} {ad : Nat → Nat} {ca : Nat → ClassId} {σ : HS} {a : Nat} {r0 : Int32} {s0 : HS} (hid : ∀ i, i < 277 → i ∈ ids) (ha : airOK a) (h : f_X0_twoLandAlike a σ = some (r0, s0)) : Ki l D ids ad ca yX0_twoLandAlike cX0_twoLandAlike 1 .boolean 2 43 [.ref (ad a)] σ (fun r σ1 => r = r0 ∧ σ1 = s0) := by
  obtain ⟨R, hR⟩ : ∃ R, (r0, s0) = R := ⟨_, rfl⟩
  replace h := h.trans (congrArg some hR)
  refine Ki.of (by decide) (Nat.le_of_ble_eq_true rfl) 0 (fun Γ C Rt => ?_)
  show AW ids ad ca Γ 0 [some (.ref (ad a))] [] σ
  unfold f_X0_twoLandAlike at h
  refine a_aload_n C dX0_twoLandAlike_0 (i := 0) rfl rfl ?_
  refine p_callVi C (As := []) (i := a) ha.1.1 (hid _ ha.1.2) ⟨_, _, rfl⟩ (by decide) h (fun _ _ e => Z_X0_landingBits hid ha e) mi_X0_landingBits ml_RX0_86 rfl rfl (Nat.le_of_ble_eq_true rfl) (Nat.le_of_ble_eq_true rfl) (Nat.le_of_ble_eq_true rfl) dX0_twoLandAlike_1 (fun r2 σ1 h => ?_)
  refine p_callSi C (As := [.int r2]) h (fun _ _ e => Z_J6_bitCount_0f7a4 hid e) ms_J6_bitCount_0f7a4 ml_RX0_74 rfl rfl (Nat.le_of_ble_eq_true rfl) (Nat.le_of_ble_eq_true rfl) (Nat.le_of_ble_eq_true rfl) dX0_twoLandAlike_4 (fun r4 σ3 h => ?_)
  refine a_aload_n C dX0_twoLandAlike_7 (i := 0) rfl rfl ?_
  refine p_callVi C (As := []) (i := a) ha.1.1 (hid _ ha.1.2) ⟨_, _, rfl⟩ (by decide) h (fun _ _ e => Z_X0_howManyUp hid ha e) mi_X0_howManyUp ml_RX0_90 rfl rfl (Nat.le_of_ble_eq_true rfl) (Nat.le_of_ble_eq_true rfl) (Nat.le_of_ble_eq_true rfl) dX0_twoLandAlike_8 (fun r6 σ5 h => ?_)
  refine p_ic_ge C (X := r4.toInt) (Y := r6.toInt) rfl rfl dX0_twoLandAlike_11 (tgt := 18) rfl h (fun h => ?_) (fun h => ?_)
  ·
    refine a_iconst C dX0_twoLandAlike_18 (v := 0) rfl ?_
    exact a_iret Rt dX0_twoLandAlike_19 (nar_z (by decide)).1 (ret_eq (h.trans (congrArg some hR.symm)))
  ·
    refine a_iconst C dX0_twoLandAlike_14 (v := 1) rfl ?_
    refine a_goto C dX0_twoLandAlike_15 (tgt := 19) rfl ?_
    exact a_iret Rt dX0_twoLandAlike_19 (nar_z (by decide)).1 (ret_eq (h.trans (congrArg some hR.symm)))
set_option maxHeartbeats 4000000 in
set_option maxRecDepth 100000 in
theorem Z_X10_hasPattern {l : Launch} {D : va_G} {ids : List Nat} {ad : Nat → Nat} {ca : Nat → ClassId} {σ : HS} {t : Nat} {x1 : Int32} {r0 : Int32} {s0 : HS} (hid : ∀ i, i < 277 → i ∈ ids) (ht : txtOK t) (h : f_X10_hasPattern t x1 σ = some (r0, s0)) : Ki l D ids ad ca yX10_hasPattern cX10_hasPattern 2 .boolean 0 0 [.ref (ad t), .int x1] σ (fun r σ1 => r = r0 ∧ σ1 = s0) := by
  obtain ⟨R, hR⟩ : ∃ R, (r0, s0) = R := ⟨_, rfl⟩
  replace h := h.trans (congrArg some hR)
  refine Ki.of (by decide) (Nat.le_of_ble_eq_true rfl) 0 (fun Γ C Rt => ?_)
  show AW ids ad ca Γ 0 [some (.ref (ad t)), some (.int x1)] [] σ
  unfold f_X10_hasPattern at h
  refine a_iload_n C dX10_hasPattern_0 (i := 1) rfl rfl ?_
  refine p_if_lt C (X := x1.toInt) rfl dX10_hasPattern_1 (tgt := 16) rfl h (fun h => ?_) (fun h => ?_)
  ·
    refine a_iconst C dX10_hasPattern_16 (v := 0) rfl ?_
    exact a_iret Rt dX10_hasPattern_17 (nar_z (by decide)).1 (ret_eq (h.trans (congrArg some hR.symm)))
  ·
    refine a_iload_n C dX10_hasPattern_4 (i := 1) rfl rfl ?_
    refine a_aload_n C dX10_hasPattern_5 (i := 0) rfl rfl ?_
    refine a_get C fl_RX10_42 (i := t) ht.1.1 (hid _ ht.1.2) (v := .int (σ.1 t 4)) rfl dX10_hasPattern_6 ?_
    refine p_ic_ge C (X := x1.toInt) (Y := (σ.1 t 4).toInt) rfl rfl dX10_hasPattern_9 (tgt := 16) rfl h (fun h => ?_) (fun h => ?_)
    ·
      refine a_iconst C dX10_hasPattern_16 (v := 0) rfl ?_
      exact a_iret Rt dX10_hasPattern_17 (nar_z (by decide)).1 (ret_eq (h.trans (congrArg some hR.symm)))
    ·
      refine a_iconst C dX10_hasPattern_12 (v := 1) rfl ?_
      refine a_goto C dX10_hasPattern_13 (tgt := 17) rfl ?_
      exact a_iret Rt dX10_hasPattern_17 (nar_z (by decide)).1 (ret_eq (h.trans (congrArg some hR.symm)))
set_option maxHeartbeats 4000000 in
set_option maxRecDepth 100000 in
theorem Z_J9_floorMod_7cf53 {l : Launch} {D : va_G} {ids : List Nat} {ad : Nat → Nat} {ca : Nat → ClassId} {σ : HS} {x1 : Int32} {x2 : Int32} {r0 : Int32} {s0 : HS} (hid : ∀ i, i < 277 → i ∈ ids) (h : f_J9_floorMod_7cf53 x1 x2 σ = some (r0, s0)) : Ki l D ids ad ca yJ9_floorMod_7cf53 cJ9_floorMod_7cf53 3 .int 0 0 [.int x1, .int x2] σ (fun r σ1 => r = r0 ∧ σ1 = s0) := by
  obtain ⟨R, hR⟩ : ∃ R, (r0, s0) = R := ⟨_, rfl⟩
  replace h := h.trans (congrArg some hR)
  refine Ki.ofF (by decide +kernel) (Nat.le_of_ble_eq_true rfl) 1 (fun Γ C Rt => ?_)
  show AW ids ad ca Γ 0 [some (.int x1), some (.int x2), none] [] σ
  unfold f_J9_floorMod_7cf53 at h
  refine a_iload_n C dJ9_floorMod_7cf53_0 (i := 0) rfl rfl ?_
  refine a_iload_n C dJ9_floorMod_7cf53_1 (i := 1) rfl rfl ?_
  refine p_irem C rfl dJ9_floorMod_7cf53_2 h (fun h => ?_)
  refine p_istore_n C (fun z1 => [some (.int x1), some (.int x2), some (.int z1)]) dJ9_floorMod_7cf53_3 (i := 2) rfl (by decide) rfl (fun _ => rfl) h (fun z1 h => ?_)
  refine a_iload_n C dJ9_floorMod_7cf53_4 (i := 0) rfl rfl ?_
  refine a_iload_n C dJ9_floorMod_7cf53_5 (i := 1) rfl rfl ?_
  refine a_ixor C dJ9_floorMod_7cf53_6 ?_
  refine p_if_ge C (X := (x1 ^^^ x2).toInt) rfl dJ9_floorMod_7cf53_7 (tgt := 18) rfl h (fun h => ?_) (fun h => ?_)
  ·
    refine a_iload_n C dJ9_floorMod_7cf53_18 (i := 2) rfl rfl ?_
    exact a_iret Rt dJ9_floorMod_7cf53_19 rfl (ret_eq (h.trans (congrArg some hR.symm)))
  ·
    refine a_iload_n C dJ9_floorMod_7cf53_10 (i := 2) rfl rfl ?_
    refine p_if_eq C (X := z1.toInt) rfl dJ9_floorMod_7cf53_11 (tgt := 18) rfl h (fun h => ?_) (fun h => ?_)
    ·
      refine a_iload_n C dJ9_floorMod_7cf53_18 (i := 2) rfl rfl ?_
      exact a_iret Rt dJ9_floorMod_7cf53_19 rfl (ret_eq (h.trans (congrArg some hR.symm)))
    ·
      refine a_iload_n C dJ9_floorMod_7cf53_14 (i := 2) rfl rfl ?_
      refine a_iload_n C dJ9_floorMod_7cf53_15 (i := 1) rfl rfl ?_
      refine a_iadd C dJ9_floorMod_7cf53_16 ?_
      exact a_iret Rt dJ9_floorMod_7cf53_17 rfl (ret_eq (h.trans (congrArg some hR.symm)))
set_option maxHeartbeats 4000000 in
set_option maxRecDepth 100000 in
theorem Z_X0_heightBy {l : Launch} {D : va_G} {ids : List Nat} {ad : Nat → Nat} {ca : Nat → ClassId} {σ : HS} {a : Nat} {p1 : Nat} {r0 : Int32} {s0 : HS} (hid : ∀ i, i < 277 → i ∈ ids) (ha : airOK a) (hp1 : txtOK p1) (h : f_X0_heightBy a p1 σ = some (r0, s0)) : Ki l D ids ad ca yX0_heightBy cX0_heightBy 2 .int 1 22 [.ref (ad a), .ref (ad p1)] σ (fun r σ1 => r = r0 ∧ σ1 = s0) := by
  obtain ⟨R, hR⟩ : ∃ R, (r0, s0) = R := ⟨_, rfl⟩
  replace h := h.trans (congrArg some hR)
  refine Ki.of (by decide) (Nat.le_of_ble_eq_true rfl) 0 (fun Γ C Rt => ?_)
  show AW ids ad ca Γ 0 [some (.ref (ad a)), some (.ref (ad p1))] [] σ
  unfold f_X0_heightBy at h
  refine a_aload_n C dX0_heightBy_0 (i := 0) rfl rfl ?_
  refine a_get C fl_RX0_25 (i := a) ha.1.1 (hid _ ha.1.2) (v := .int (σ.1 a 11)) rfl dX0_heightBy_1 ?_
  refine a_iconst C dX0_heightBy_4 (v := (-1)) rfl ?_
  refine p_ic_eq C (X := (σ.1 a 11).toInt) (Y := (-1)) rfl (by decide) dX0_heightBy_5 (tgt := 13) rfl h (fun h => ?_) (fun h => ?_)
  ·
    refine a_aload_n C dX0_heightBy_13 (i := 1) rfl rfl ?_
    refine a_aload_n C dX0_heightBy_14 (i := 0) rfl rfl ?_
    refine a_get C fl_RX0_21 (i := a) ha.1.1 (hid _ ha.1.2) (v := .int (σ.1 a 9)) rfl dX0_heightBy_15 ?_
    refine p_callVi C (As := [.int (σ.1 a 9)]) (i := p1) hp1.1.1 (hid _ hp1.1.2) ⟨_, _, rfl⟩ (by decide) h (fun _ _ e => Z_X10_hasPattern hid hp1 e) mi_X10_hasPattern ml_RX0_93 rfl rfl (Nat.le_of_ble_eq_true rfl) (Nat.le_of_ble_eq_true rfl) (Nat.le_of_ble_eq_true rfl) dX0_heightBy_18 (fun r2 σ1 h => ?_)
    refine p_if_eq C (X := r2.toInt) rfl dX0_heightBy_21 (tgt := 37) rfl h (fun h => ?_) (fun h => ?_)
    ·
      refine a_iconst C dX0_heightBy_37 (v := 3) rfl ?_
      exact a_iret Rt dX0_heightBy_38 rfl (ret_eq (h.trans (congrArg some hR.symm)))
    ·
      refine a_aload_n C dX0_heightBy_24 (i := 1) rfl rfl ?_
      refine a_get C fl_RX0_96 (i := p1) hp1.1.1 (hid _ hp1.1.2) (v := .ref (ad (p1 + 10))) rfl dX0_heightBy_25 ?_
      refine a_aload_n C dX0_heightBy_28 (i := 0) rfl rfl ?_
      refine a_get C fl_RX0_21 (i := a) ha.1.1 (hid _ ha.1.2) (v := .int (σ1.1 a 9)) rfl dX0_heightBy_29 ?_
      refine p_iald C (i := (p1 + 10)) hp1.2.2.2.2.1.1 hid (by rw [hp1.2.2.2.2.1.2]; rfl) dX0_heightBy_32 h (fun h => ?_)
      refine a_iconst C dX0_heightBy_33 (v := 1) rfl ?_
      refine p_ic_ge C (X := (σ1.1 (p1 + 10) (σ1.1 a 9).toInt.toNat).toInt) (Y := 1) rfl (by decide) dX0_heightBy_34 (tgt := 39) rfl h (fun h => ?_) (fun h => ?_)
      ·
        refine a_aload_n C dX0_heightBy_39 (i := 1) rfl rfl ?_
        refine a_get C fl_RX0_99 (i := p1) hp1.1.1 (hid _ hp1.1.2) (v := .ref (ad (p1 + 4))) rfl dX0_heightBy_40 ?_
        refine a_aload_n C dX0_heightBy_43 (i := 0) rfl rfl ?_
        refine a_get C fl_RX0_21 (i := a) ha.1.1 (hid _ ha.1.2) (v := .int (σ1.1 a 9)) rfl dX0_heightBy_44 ?_
        refine p_aaldH C (t := p1) hp1 hid dX0_heightBy_47 h (fun hr3 h => ?_)
        refine a_aload_n C dX0_heightBy_48 (i := 0) rfl rfl ?_
        refine a_get C fl_RX0_49 (i := a) ha.1.1 (hid _ ha.1.2) (v := .int (σ1.1 a 4)) rfl dX0_heightBy_49 ?_
        refine a_aload_n C dX0_heightBy_52 (i := 0) rfl rfl ?_
        refine a_get C fl_RX0_67 (i := a) ha.1.1 (hid _ ha.1.2) (v := .int (σ1.1 a 10)) rfl dX0_heightBy_53 ?_
        refine a_isub C dX0_heightBy_56 ?_
        refine a_aload_n C dX0_heightBy_57 (i := 1) rfl rfl ?_
        refine a_get C fl_RX0_96 (i := p1) hp1.1.1 (hid _ hp1.1.2) (v := .ref (ad (p1 + 10))) rfl dX0_heightBy_58 ?_
        refine a_aload_n C dX0_heightBy_61 (i := 0) rfl rfl ?_
        refine a_get C fl_RX0_21 (i := a) ha.1.1 (hid _ ha.1.2) (v := .int (σ1.1 a 9)) rfl dX0_heightBy_62 ?_
        refine p_iald C (i := (p1 + 10)) hp1.2.2.2.2.1.1 hid (by rw [hp1.2.2.2.2.1.2]; rfl) dX0_heightBy_65 h (fun h => ?_)
        refine p_callSi C (As := [.int ((σ1.1 a 4) - (σ1.1 a 10)), .int (σ1.1 (p1 + 10) (σ1.1 a 9).toInt.toNat)]) h (fun _ _ e => Z_J9_floorMod_7cf53 hid e) ms_J9_floorMod_7cf53 ml_RX0_103 rfl rfl (Nat.le_of_ble_eq_true rfl) (Nat.le_of_ble_eq_true rfl) (Nat.le_of_ble_eq_true rfl) dX0_heightBy_66 (fun r5 σ4 h => ?_)
        refine p_iald C (i := (p1 + 5 + (σ1.1 a 9).toInt.toNat)) hr3.1 hid (by rw [hr3.2]; rfl) dX0_heightBy_69 h (fun h => ?_)
        exact a_iret Rt dX0_heightBy_70 rfl (ret_eq (h.trans (congrArg some hR.symm)))
      ·
        refine a_iconst C dX0_heightBy_37 (v := 3) rfl ?_
        exact a_iret Rt dX0_heightBy_38 rfl (ret_eq (h.trans (congrArg some hR.symm)))
  ·
    refine a_aload_n C dX0_heightBy_8 (i := 0) rfl rfl ?_
    refine a_get C fl_RX0_25 (i := a) ha.1.1 (hid _ ha.1.2) (v := .int (σ.1 a 11)) rfl dX0_heightBy_9 ?_
    exact a_iret Rt dX0_heightBy_12 rfl (ret_eq (h.trans (congrArg some hR.symm)))
set_option maxHeartbeats 4000000 in
set_option maxRecDepth 100000 in
theorem Z_X1_pop {l : Launch} {D : va_G} {ids : List Nat} {ad : Nat → Nat} {ca : Nat → ClassId} {σ : HS} {r0 : Int32} {s0 : HS} (hid : ∀ i, i < 277 → i ∈ ids) (h : f_X1_pop σ = some (r0, s0)) : Ki l D ids ad ca yX1_pop cX1_pop 1 .int 0 0 [.ref (ad 9)] σ (fun r σ1 => r = r0 ∧ σ1 = s0) := by
  obtain ⟨R, hR⟩ : ∃ R, (r0, s0) = R := ⟨_, rfl⟩
  replace h := h.trans (congrArg some hR)
  refine Ki.of (by decide) (Nat.le_of_ble_eq_true rfl) 0 (fun Γ C Rt => ?_)
  show AW ids ad ca Γ 0 [some (.ref (ad 9))] [] σ
  unfold f_X1_pop at h
  refine a_aload_n C dX1_pop_0 (i := 0) rfl rfl ?_
  refine a_get C fl_RX1_18 (i := 9) kd_9 (hid 9 (by decide)) (v := .int (σ.1 9 2)) rfl dX1_pop_1 ?_
  refine a_iconst C dX1_pop_4 (v := 1) rfl ?_
  refine p_ic_ge C (X := (σ.1 9 2).toInt) (Y := 1) rfl (by decide) dX1_pop_5 (tgt := 15) rfl h (fun h => ?_) (fun h => ?_)
  ·
    refine a_aload_n C dX1_pop_15 (i := 0) rfl rfl ?_
    refine a_dup C dX1_pop_16 rfl ?_
    refine a_get C fl_RX1_18 (i := 9) kd_9 (hid 9 (by decide)) (v := .int (σ.1 9 2)) rfl dX1_pop_17 ?_
    refine a_iconst C dX1_pop_20 (v := 1) rfl ?_
    refine a_isub C dX1_pop_21 ?_
    refine p_put C fp_RX1_18 (i := 9) kd_9 (hid 9 (by decide)) rfl rfl dX1_pop_22 h (fun σ1 h => ?_)
    refine a_aload_n C dX1_pop_25 (i := 0) rfl rfl ?_
    refine a_get C fl_RX1_15 (i := 9) kd_9 (hid 9 (by decide)) (v := .ref (ad 11)) rfl dX1_pop_26 ?_
    refine a_aload_n C dX1_pop_29 (i := 0) rfl rfl ?_
    refine a_get C fl_RX1_18 (i := 9) kd_9 (hid 9 (by decide)) (v := .int (σ1.1 9 2)) rfl dX1_pop_30 ?_
    refine p_iald C (i := 11) (show rowOK 11 from ⟨kd_11, by decide⟩) hid (by rw [al_11]; rfl) dX1_pop_33 h (fun h => ?_)
    exact a_iret Rt dX1_pop_34 rfl (ret_eq (h.trans (congrArg some hR.symm)))
  ·
    refine a_aload_n C dX1_pop_8 (i := 0) rfl rfl ?_
    refine a_iconst C dX1_pop_9 (v := 1) rfl ?_
    refine p_put C fp_RX1_22 (i := 9) kd_9 (hid 9 (by decide)) (nar_z (by decide)).1 (nar_z (by decide)).2 dX1_pop_10 h (fun σ2 h => ?_)
    refine a_iconst C dX1_pop_13 (v := 0) rfl ?_
    exact a_iret Rt dX1_pop_14 rfl (ret_eq (h.trans (congrArg some hR.symm)))
set_option maxHeartbeats 4000000 in
set_option maxRecDepth 100000 in
theorem Z_X1_reckon {l : Launch} {D : va_G} {ids : List Nat} {ad : Nat → Nat} {ca : Nat → ClassId} {σ : HS} {x1 : Int32} {x2 : Int32} {x3 : Int32} {r0 : Int32} {s0 : HS} (hid : ∀ i, i < 277 → i ∈ ids) (h : f_X1_reckon x1 x2 x3 σ = some (r0, s0)) : Ki l D ids ad ca yX1_reckon cX1_reckon 4 .int 0 0 [.ref (ad 9), .int x1, .int x2, .int x3] σ (fun r σ1 => r = r0 ∧ σ1 = s0) := by
  obtain ⟨R, hR⟩ : ∃ R, (r0, s0) = R := ⟨_, rfl⟩
  replace h := h.trans (congrArg some hR)
  refine Ki.of (by decide) (Nat.le_of_ble_eq_true rfl) 0 (fun Γ C Rt => ?_)
  show AW ids ad ca Γ 0 [some (.ref (ad 9)), some (.int x1), some (.int x2), some (.int x3)] [] σ
  unfold f_X1_reckon at h
  have j57 : ∀ (y2 : Int32) (y3 : Int32) (v0 : Int32) (σ : HS), f_X1_reckon_57 y2 y3 v0 σ = some R → AW ids ad ca Γ 57 [none, none, some (.int y2), some (.int y3)] [.int v0, .ref (ad 9)] σ := by
    intro y2 y3 v0 σ h
    unfold f_X1_reckon_57 at h
    refine ite_n h (fun hz1 h => ?_)
    refine p_put C fp_RX1_22 (i := 9) kd_9 (hid 9 (by decide)) (nar_z hz1).1 (nar_z hz1).2 dX1_reckon_57 h (fun σ2 h => ?_)
    refine a_iload_n C dX1_reckon_60 (i := 3) rfl rfl ?_
    refine p_if_ne C (X := y3.toInt) rfl dX1_reckon_61 (tgt := 68) rfl h (fun h => ?_) (fun h => ?_)
    ·
      refine a_iload_n C dX1_reckon_68 (i := 2) rfl rfl ?_
      refine a_iload_n C dX1_reckon_69 (i := 3) rfl rfl ?_
      refine p_idiv C rfl dX1_reckon_70 h (fun h => ?_)
      exact a_iret Rt dX1_reckon_71 rfl (ret_eq (h.trans (congrArg some hR.symm)))
    ·
      refine a_iconst C dX1_reckon_64 (v := 0) rfl ?_
      refine a_goto C dX1_reckon_65 (tgt := 71) rfl ?_
      exact a_iret Rt dX1_reckon_71 rfl (ret_eq (h.trans (congrArg some hR.symm)))
  have j52 : ∀ (y2 : Int32) (y3 : Int32) (σ : HS), f_X1_reckon_52 y2 y3 σ = some R → AW ids ad ca Γ 52 [none, none, some (.int y2), some (.int y3)] [.ref (ad 9)] σ := by
    intro y2 y3 σ h
    unfold f_X1_reckon_52 at h
    refine a_iconst C dX1_reckon_52 (v := 1) rfl ?_
    refine a_goto C dX1_reckon_53 (tgt := 57) rfl ?_
    exact j57 _ _ _ _ h
  refine a_iload_n C dX1_reckon_0 (i := 1) rfl rfl ?_
  refine ite_k h (fun c1 h => ?_) (fun c1 h => ?_)
  ·
    refine a_tableIn C dX1_reckon_1 (by omega) (by omega) (by rw [c1]; rfl) (tgt := 36) rfl ?_
    refine a_iload_n C dX1_reckon_36 (i := 2) rfl rfl ?_
    refine a_iload_n C dX1_reckon_37 (i := 3) rfl rfl ?_
    refine a_imul C dX1_reckon_38 ?_
    exact a_iret Rt dX1_reckon_39 rfl (ret_eq (h.trans (congrArg some hR.symm)))
  ·
    refine ite_k h (fun c2 h => ?_) (fun c2 h => ?_)
    ·
      refine a_tableIn C dX1_reckon_1 (by omega) (by omega) (by rw [c2]; rfl) (tgt := 32) rfl ?_
      refine a_iload_n C dX1_reckon_32 (i := 2) rfl rfl ?_
      refine a_iload_n C dX1_reckon_33 (i := 3) rfl rfl ?_
      refine a_isub C dX1_reckon_34 ?_
      exact a_iret Rt dX1_reckon_35 rfl (ret_eq (h.trans (congrArg some hR.symm)))
    ·
      refine ite_k h (fun c3 h => ?_) (fun c3 h => ?_)
      ·
        refine a_tableIn C dX1_reckon_1 (by omega) (by omega) (by rw [c3]; rfl) (tgt := 28) rfl ?_
        refine a_iload_n C dX1_reckon_28 (i := 2) rfl rfl ?_
        refine a_iload_n C dX1_reckon_29 (i := 3) rfl rfl ?_
        refine a_iadd C dX1_reckon_30 ?_
        exact a_iret Rt dX1_reckon_31 rfl (ret_eq (h.trans (congrArg some hR.symm)))
      ·
        refine a_tableOut C dX1_reckon_1 (by omega) (tgt := 40) rfl ?_
        refine a_aload_n C dX1_reckon_40 (i := 0) rfl rfl ?_
        refine a_aload_n C dX1_reckon_41 (i := 0) rfl rfl ?_
        refine a_get C fl_RX1_22 (i := 9) kd_9 (hid 9 (by decide)) (v := .int (σ.1 9 3)) rfl dX1_reckon_42 ?_
        refine p_if_ne C (X := (σ.1 9 3).toInt) rfl dX1_reckon_45 (tgt := 52) rfl h (fun h => ?_) (fun h => ?_)
        ·
          refine AW.sub (vs' := [none, none, some (.int x2), some (.int x3)]) (lsub_of (by simp [lsubB])) ?_
          exact j52 _ _ _ h
        ·
          refine a_iload_n C dX1_reckon_48 (i := 3) rfl rfl ?_
          refine p_if_ne C (X := x3.toInt) rfl dX1_reckon_49 (tgt := 56) rfl h (fun h => ?_) (fun h => ?_)
          ·
            refine a_iconst C dX1_reckon_56 (v := 0) rfl ?_
            refine AW.sub (vs' := [none, none, some (.int x2), some (.int x3)]) (lsub_of (by simp [lsubB])) ?_
            exact j57 _ _ _ _ h
          ·
            refine AW.sub (vs' := [none, none, some (.int x2), some (.int x3)]) (lsub_of (by simp [lsubB])) ?_
            exact j52 _ _ _ h
set_option maxHeartbeats 4000000 in
set_option maxRecDepth 100000 in
theorem Z_X1_push {l : Launch} {D : va_G} {ids : List Nat} {ad : Nat → Nat} {ca : Nat → ClassId} {σ : HS} {x1 : Int32} {s0 : HS} (hid : ∀ i, i < 277 → i ∈ ids) (h : f_X1_push x1 σ = some s0) : Kv l D ids ad ca yX1_push cX1_push 2 0 0 [.ref (ad 9), .int x1] σ (fun σ1 => σ1 = s0) := by
  obtain ⟨R, hR⟩ : ∃ R, s0 = R := ⟨_, rfl⟩
  replace h := h.trans (congrArg some hR)
  refine Kv.of (by decide) (Nat.le_of_ble_eq_true rfl) 0 (fun Γ C Rt => ?_)
  show AW ids ad ca Γ 0 [some (.ref (ad 9)), some (.int x1)] [] σ
  unfold f_X1_push at h
  refine a_aload_n C dX1_push_0 (i := 0) rfl rfl ?_
  refine a_get C fl_RX1_18 (i := 9) kd_9 (hid 9 (by decide)) (v := .int (σ.1 9 2)) rfl dX1_push_1 ?_
  refine a_bipush C dX1_push_4 (v := 32) rfl ?_
  refine p_ic_lt C (X := (σ.1 9 2).toInt) (Y := 32) rfl (by decide) dX1_push_6 (tgt := 17) rfl h (fun h => ?_) (fun h => ?_)
  ·
    refine a_aload_n C dX1_push_17 (i := 0) rfl rfl ?_
    refine a_get C fl_RX1_15 (i := 9) kd_9 (hid 9 (by decide)) (v := .ref (ad 11)) rfl dX1_push_18 ?_
    refine a_aload_n C dX1_push_21 (i := 0) rfl rfl ?_
    refine a_get C fl_RX1_18 (i := 9) kd_9 (hid 9 (by decide)) (v := .int (σ.1 9 2)) rfl dX1_push_22 ?_
    refine a_iload_n C dX1_push_25 (i := 1) rfl rfl ?_
    refine p_iast C (i := 11) (show rowOK 11 from ⟨kd_11, by decide⟩) hid (by rw [al_11]; rfl) dX1_push_26 h (fun σ1 h => ?_)
    refine a_aload_n C dX1_push_27 (i := 0) rfl rfl ?_
    refine a_dup C dX1_push_28 rfl ?_
    refine a_get C fl_RX1_18 (i := 9) kd_9 (hid 9 (by decide)) (v := .int (σ1.1 9 2)) rfl dX1_push_29 ?_
    refine a_iconst C dX1_push_32 (v := 1) rfl ?_
    refine a_iadd C dX1_push_33 ?_
    refine p_put C fp_RX1_18 (i := 9) kd_9 (hid 9 (by decide)) rfl rfl dX1_push_34 h (fun σ2 h => ?_)
    exact a_vret Rt dX1_push_37 (retv_eq (h.trans (congrArg some hR.symm)))
  ·
    refine a_aload_n C dX1_push_9 (i := 0) rfl rfl ?_
    refine a_iconst C dX1_push_10 (v := 1) rfl ?_
    refine p_put C fp_RX1_22 (i := 9) kd_9 (hid 9 (by decide)) (nar_z (by decide)).1 (nar_z (by decide)).2 dX1_push_11 h (fun σ3 h => ?_)
    refine a_goto C dX1_push_14 (tgt := 37) rfl ?_
    exact a_vret Rt dX1_push_37 (retv_eq (h.trans (congrArg some hR.symm)))
set_option maxHeartbeats 4000000 in
set_option maxRecDepth 100000 in
theorem Z_X1_answer {l : Launch} {D : va_G} {ids : List Nat} {ad : Nat → Nat} {ca : Nat → ClassId} {σ : HS} {p1 : Nat} {x2 : Int32} {r0 : Int32} {s0 : HS} (hid : ∀ i, i < 277 → i ∈ ids) (hp1 : rowOK p1) (h : f_X1_answer p1 x2 σ = some (r0, s0)) : Ki l D ids ad ca yX1_answer cX1_answer 8 .int 1 23 [.ref (ad 9), .ref (ad p1), .int x2] σ (fun r σ1 => r = r0 ∧ σ1 = s0) := by
  obtain ⟨R, hR⟩ : ∃ R, (r0, s0) = R := ⟨_, rfl⟩
  replace h := h.trans (congrArg some hR)
  refine Ki.of (by decide) (Nat.le_of_ble_eq_true rfl) 5 (fun Γ C Rt => ?_)
  show AW ids ad ca Γ 0 [some (.ref (ad 9)), some (.ref (ad p1)), some (.int x2), none, none, none, none, none] [] σ
  unfold f_X1_answer at h
  have j178 : ∀ (k15 : Int32 → Int32 → HS → Option (Int32 × HS)) (hk15 : ∀ (y3 : Int32) (y4 : Int32) (σ : HS), k15 y3 y4 σ = some R → AW ids ad ca Γ 15 [some (.ref (ad 9)), some (.ref (ad p1)), none, some (.int y3), some (.int y4), none, none, none] [] σ) (y3 : Int32) (y4 : Int32) (σ : HS), f_X1_answer_178 p1 k15 y3 y4 σ = some R → AW ids ad ca Γ 178 [some (.ref (ad 9)), some (.ref (ad p1)), none, some (.int y3), some (.int y4), none, none, none] [] σ := by
    intro k15 hk15 y3 y4 σ h
    unfold f_X1_answer_178 at h
    refine p_iinc C (y := (y4 + 1)) (fun z1 => [some (.ref (ad 9)), some (.ref (ad p1)), none, some (.int y3), some (.int z1), none, none, none]) dX1_answer_178 rfl rfl (by decide) rfl (fun _ => rfl) h (fun z1 h => ?_)
    refine a_goto C dX1_answer_181 (tgt := 15) rfl ?_
    exact hk15 _ _ _ h
  have j168 : ∀ (k15 : Int32 → Int32 → HS → Option (Int32 × HS)) (hk15 : ∀ (y3 : Int32) (y4 : Int32) (σ : HS), k15 y3 y4 σ = some R → AW ids ad ca Γ 15 [some (.ref (ad 9)), some (.ref (ad p1)), none, some (.int y3), some (.int y4), none, none, none] [] σ) (y3 : Int32) (y4 : Int32) (σ : HS), f_X1_answer_168 p1 k15 y3 y4 σ = some R → AW ids ad ca Γ 168 [some (.ref (ad 9)), some (.ref (ad p1)), none, some (.int y3), some (.int y4), none, none, none] [] σ := by
    intro k15 hk15 y3 y4 σ h
    unfold f_X1_answer_168 at h
    refine p_iinc C (y := (y3 + 1)) (fun z1 => [some (.ref (ad 9)), some (.ref (ad p1)), none, some (.int z1), some (.int y4), none, none, none]) dX1_answer_168 rfl rfl (by decide) rfl (fun _ => rfl) h (fun z1 h => ?_)
    refine a_goto C dX1_answer_171 (tgt := 178) rfl ?_
    exact j178 k15 hk15 _ _ _ h
  have j92 : ∀ (k15 : Int32 → Int32 → HS → Option (Int32 × HS)) (hk15 : ∀ (y3 : Int32) (y4 : Int32) (σ : HS), k15 y3 y4 σ = some R → AW ids ad ca Γ 15 [some (.ref (ad 9)), some (.ref (ad p1)), none, some (.int y3), some (.int y4), none, none, none] [] σ) (y3 : Int32) (y4 : Int32) (y5 : Int32) (σ : HS), f_X1_answer_92 p1 k15 y3 y4 y5 σ = some R → AW ids ad ca Γ 92 [some (.ref (ad 9)), some (.ref (ad p1)), none, some (.int y3), some (.int y4), some (.int y5), none, none] [] σ := by
    intro k15 hk15 y3 y4 y5 σ h
    unfold f_X1_answer_92 at h
    refine a_iload C dX1_answer_92 rfl ?_
    refine a_bipush C dX1_answer_94 (v := (-6)) rfl ?_
    refine p_ic_ne C (X := y5.toInt) (Y := (-6)) rfl (by decide) dX1_answer_96 (tgt := 119) rfl h (fun h => ?_) (fun h => ?_)
    ·
      refine a_aload_n C dX1_answer_119 (i := 0) rfl rfl ?_
      refine p_callVi C (As := []) (i := 9) kd_9 (hid 9 (by decide)) ⟨_, _, rfl⟩ (by decide) h (fun _ _ e => Z_X1_pop hid e) mi_X1_pop ml_RX1_30 rfl rfl (Nat.le_of_ble_eq_true rfl) (Nat.le_of_ble_eq_true rfl) (Nat.le_of_ble_eq_true rfl) dX1_answer_120 (fun r2 σ1 h => ?_)
      refine a_istore C dX1_answer_123 (by decide) rfl (vs1 := [some (.ref (ad 9)), some (.ref (ad p1)), none, some (.int y3), some (.int y4), some (.int y5), some (.int r2), none]) rfl ?_
      refine a_aload_n C dX1_answer_125 (i := 0) rfl rfl ?_
      refine p_callVi C (As := []) (i := 9) kd_9 (hid 9 (by decide)) ⟨_, _, rfl⟩ (by decide) h (fun _ _ e => Z_X1_pop hid e) mi_X1_pop ml_RX1_30 rfl rfl (Nat.le_of_ble_eq_true rfl) (Nat.le_of_ble_eq_true rfl) (Nat.le_of_ble_eq_true rfl) dX1_answer_126 (fun r4 σ3 h => ?_)
      refine a_istore C dX1_answer_129 (by decide) rfl (vs1 := [some (.ref (ad 9)), some (.ref (ad p1)), none, some (.int y3), some (.int y4), some (.int y5), some (.int r2), some (.int r4)]) rfl ?_
      refine a_iload C dX1_answer_131 rfl ?_
      refine a_bipush C dX1_answer_133 (v := (-5)) rfl ?_
      refine p_ic_eq C (X := y5.toInt) (Y := (-5)) rfl (by decide) dX1_answer_135 (tgt := 155) rfl h (fun h => ?_) (fun h => ?_)
      ·
        refine a_iload C dX1_answer_155 rfl ?_
        refine a_iload C dX1_answer_157 rfl ?_
        refine p_ic_lt C (X := r4.toInt) (Y := r2.toInt) rfl rfl dX1_answer_159 (tgt := 168) rfl h (fun h => ?_) (fun h => ?_)
        ·
          refine AW.sub (vs' := [some (.ref (ad 9)), some (.ref (ad p1)), none, some (.int y3), some (.int y4), none, none, none]) (lsub_of (by simp [lsubB])) ?_
          exact j168 k15 hk15 _ _ _ h
        ·
          refine a_iload_n C dX1_answer_162 (i := 3) rfl rfl ?_
          refine a_aload_n C dX1_answer_163 (i := 1) rfl rfl ?_
          refine a_alen C (by rw [hp1.1]; decide) (hid _ hp1.2) rfl dX1_answer_164 ?_
          refine p_ic_lt C (X := y3.toInt) (Y := (Int32.ofNat (al p1)).toInt) rfl rfl dX1_answer_165 (tgt := 174) rfl h (fun h => ?_) (fun h => ?_)
          ·
            refine a_aload_n C dX1_answer_174 (i := 1) rfl rfl ?_
            refine a_iload_n C dX1_answer_175 (i := 3) rfl rfl ?_
            refine p_iald C (i := p1) hp1 hid rfl dX1_answer_176 h (fun h => ?_)
            refine p_istore_n C (fun z5 => [some (.ref (ad 9)), some (.ref (ad p1)), none, some (.int z5), some (.int y4), some (.int y5), some (.int r2), some (.int r4)]) dX1_answer_177 (i := 3) rfl (by decide) rfl (fun _ => rfl) h (fun z5 h => ?_)
            refine AW.sub (vs' := [some (.ref (ad 9)), some (.ref (ad p1)), none, some (.int z5), some (.int y4), none, none, none]) (lsub_of (by simp [lsubB])) ?_
            exact j178 k15 hk15 _ _ _ h
          ·
            refine AW.sub (vs' := [some (.ref (ad 9)), some (.ref (ad p1)), none, some (.int y3), some (.int y4), none, none, none]) (lsub_of (by simp [lsubB])) ?_
            exact j168 k15 hk15 _ _ _ h
      ·
        refine a_aload_n C dX1_answer_138 (i := 0) rfl rfl ?_
        refine a_aload_n C dX1_answer_139 (i := 0) rfl rfl ?_
        refine a_iload C dX1_answer_140 rfl ?_
        refine a_iload C dX1_answer_142 rfl ?_
        refine a_iload C dX1_answer_144 rfl ?_
        refine p_callVi C (As := [.int y5, .int r4, .int r2]) (i := 9) kd_9 (hid 9 (by decide)) ⟨_, _, rfl⟩ (by decide) h (fun _ _ e => Z_X1_reckon hid e) mi_X1_reckon ml_RX1_34 rfl rfl (Nat.le_of_ble_eq_true rfl) (Nat.le_of_ble_eq_true rfl) (Nat.le_of_ble_eq_true rfl) dX1_answer_146 (fun r7 σ6 h => ?_)
        refine p_callVv C (As := [.int r7]) (i := 9) kd_9 (hid 9 (by decide)) ⟨_, _, rfl⟩ (by decide) h (fun _ e => Z_X1_push hid e) mi_X1_push ml_RX1_26 rfl rfl (Nat.le_of_ble_eq_true rfl) (Nat.le_of_ble_eq_true rfl) (Nat.le_of_ble_eq_true rfl) dX1_answer_149 (fun σ8 h => ?_)
        refine a_goto C dX1_answer_152 (tgt := 178) rfl ?_
        refine AW.sub (vs' := [some (.ref (ad 9)), some (.ref (ad p1)), none, some (.int y3), some (.int y4), none, none, none]) (lsub_of (by simp [lsubB])) ?_
        exact j178 k15 hk15 _ _ _ h
    ·
      refine a_aload_n C dX1_answer_99 (i := 0) rfl rfl ?_
      refine p_callVi C (As := []) (i := 9) kd_9 (hid 9 (by decide)) ⟨_, _, rfl⟩ (by decide) h (fun _ _ e => Z_X1_pop hid e) mi_X1_pop ml_RX1_30 rfl rfl (Nat.le_of_ble_eq_true rfl) (Nat.le_of_ble_eq_true rfl) (Nat.le_of_ble_eq_true rfl) dX1_answer_100 (fun r11 σ10 h => ?_)
      refine a_istore C dX1_answer_103 (by decide) rfl (vs1 := [some (.ref (ad 9)), some (.ref (ad p1)), none, some (.int y3), some (.int y4), some (.int y5), some (.int r11), none]) rfl ?_
      refine a_aload_n C dX1_answer_105 (i := 0) rfl rfl ?_
      refine a_get C fl_RX1_22 (i := 9) kd_9 (hid 9 (by decide)) (v := .int (σ10.1 9 3)) rfl dX1_answer_106 ?_
      refine p_if_eq C (X := (σ10.1 9 3).toInt) rfl dX1_answer_109 (tgt := 116) rfl h (fun h => ?_) (fun h => ?_)
      ·
        refine a_iload C dX1_answer_116 rfl ?_
        exact a_iret Rt dX1_answer_118 rfl (ret_eq (h.trans (congrArg some hR.symm)))
      ·
        refine a_iconst C dX1_answer_112 (v := 0) rfl ?_
        refine a_goto C dX1_answer_113 (tgt := 118) rfl ?_
        exact a_iret Rt dX1_answer_118 rfl (ret_eq (h.trans (congrArg some hR.symm)))
  have j15 : ∀ (n : Nat) (y3 : Int32) (y4 : Int32) (σ : HS), f_X1_answer_15 p1 n y3 y4 σ = some R → AW ids ad ca Γ 15 [some (.ref (ad 9)), some (.ref (ad p1)), none, some (.int y3), some (.int y4), none, none, none] [] σ := by
    intro n
    induction n with
    | zero => intro y3 y4 σ h; exact nn h
    | succ n ih =>
      intro y3 y4 σ h
      have h : b_X1_answer_15 p1 (f_X1_answer_15 p1 n) y3 y4 σ = some R := h
      unfold b_X1_answer_15 at h
      refine a_iload C dX1_answer_15 rfl ?_
      refine a_aload_n C dX1_answer_17 (i := 1) rfl rfl ?_
      refine a_alen C (by rw [hp1.1]; decide) (hid _ hp1.2) rfl dX1_answer_18 ?_
      refine p_ic_ge C (X := y4.toInt) (Y := (Int32.ofNat (al p1)).toInt) rfl rfl dX1_answer_19 (tgt := 184) rfl h (fun h => ?_) (fun h => ?_)
      ·
        refine a_iconst C dX1_answer_184 (v := 0) rfl ?_
        exact a_iret Rt dX1_answer_185 rfl (ret_eq (h.trans (congrArg some hR.symm)))
      ·
        refine a_iload_n C dX1_answer_22 (i := 3) rfl rfl ?_
        refine p_if_lt C (X := y3.toInt) rfl dX1_answer_23 (tgt := 184) rfl h (fun h => ?_) (fun h => ?_)
        ·
          refine a_iconst C dX1_answer_184 (v := 0) rfl ?_
          exact a_iret Rt dX1_answer_185 rfl (ret_eq (h.trans (congrArg some hR.symm)))
        ·
          refine a_iload_n C dX1_answer_26 (i := 3) rfl rfl ?_
          refine a_aload_n C dX1_answer_27 (i := 1) rfl rfl ?_
          refine a_alen C (by rw [hp1.1]; decide) (hid _ hp1.2) rfl dX1_answer_28 ?_
          refine p_ic_ge C (X := y3.toInt) (Y := (Int32.ofNat (al p1)).toInt) rfl rfl dX1_answer_29 (tgt := 184) rfl h (fun h => ?_) (fun h => ?_)
          ·
            refine a_iconst C dX1_answer_184 (v := 0) rfl ?_
            exact a_iret Rt dX1_answer_185 rfl (ret_eq (h.trans (congrArg some hR.symm)))
          ·
            refine a_aload_n C dX1_answer_32 (i := 0) rfl rfl ?_
            refine a_get C fl_RX1_22 (i := 9) kd_9 (hid 9 (by decide)) (v := .int (σ.1 9 3)) rfl dX1_answer_33 ?_
            refine p_if_ne C (X := (σ.1 9 3).toInt) rfl dX1_answer_36 (tgt := 184) rfl h (fun h => ?_) (fun h => ?_)
            ·
              refine a_iconst C dX1_answer_184 (v := 0) rfl ?_
              exact a_iret Rt dX1_answer_185 rfl (ret_eq (h.trans (congrArg some hR.symm)))
            ·
              refine a_aload_n C dX1_answer_39 (i := 1) rfl rfl ?_
              refine a_iload_n C dX1_answer_40 (i := 3) rfl rfl ?_
              refine p_iald C (i := p1) hp1 hid rfl dX1_answer_41 h (fun h => ?_)
              refine p_istore C (fun z1 => [some (.ref (ad 9)), some (.ref (ad p1)), none, some (.int y3), some (.int y4), some (.int z1), none, none]) dX1_answer_42 (by decide) rfl (fun _ => rfl) h (fun z1 h => ?_)
              refine p_iinc C (y := (y3 + 1)) (fun z2 => [some (.ref (ad 9)), some (.ref (ad p1)), none, some (.int z2), some (.int y4), some (.int z1), none, none]) dX1_answer_44 rfl rfl (by decide) rfl (fun _ => rfl) h (fun z2 h => ?_)
              refine a_iload C dX1_answer_47 rfl ?_
              refine p_if_lt C (X := z1.toInt) rfl dX1_answer_49 (tgt := 61) rfl h (fun h => ?_) (fun h => ?_)
              ·
                refine a_iload C dX1_answer_61 rfl ?_
                refine a_bipush C dX1_answer_63 (v := (-10)) rfl ?_
                refine p_ic_gt C (X := z1.toInt) (Y := (-10)) rfl (by decide) dX1_answer_65 (tgt := 92) rfl h (fun h => ?_) (fun h => ?_)
                ·
                  exact j92 (f_X1_answer_15 p1 n) (fun y3 y4 σ h => ih y3 y4 σ h) _ _ _ _ h
                ·
                  refine a_iload C dX1_answer_68 rfl ?_
                  refine a_bipush C dX1_answer_70 (v := (-19)) rfl ?_
                  refine p_ic_le C (X := z1.toInt) (Y := (-19)) rfl (by decide) dX1_answer_72 (tgt := 92) rfl h (fun h => ?_) (fun h => ?_)
                  ·
                    exact j92 (f_X1_answer_15 p1 n) (fun y3 y4 σ h => ih y3 y4 σ h) _ _ _ _ h
                  ·
                    refine a_aload_n C dX1_answer_75 (i := 0) rfl rfl ?_
                    refine a_aload_n C dX1_answer_76 (i := 0) rfl rfl ?_
                    refine a_get C fl_RX1_9 (i := 9) kd_9 (hid 9 (by decide)) (v := .ref (ad 10)) rfl dX1_answer_77 ?_
                    refine a_bipush C dX1_answer_80 (v := (-10)) rfl ?_
                    refine a_iload C dX1_answer_82 rfl ?_
                    refine a_isub C dX1_answer_84 ?_
                    refine p_iald C (i := 10) (show rowOK 10 from ⟨kd_10, by decide⟩) hid (by rw [al_10]; rfl) dX1_answer_85 h (fun h => ?_)
                    refine p_callVv C (As := [.int (σ.1 10 (((-10) : Int32) - z1).toInt.toNat)]) (i := 9) kd_9 (hid 9 (by decide)) ⟨_, _, rfl⟩ (by decide) h (fun _ e => Z_X1_push hid e) mi_X1_push ml_RX1_26 rfl rfl (Nat.le_of_ble_eq_true rfl) (Nat.le_of_ble_eq_true rfl) (Nat.le_of_ble_eq_true rfl) dX1_answer_86 (fun σ3 h => ?_)
                    refine a_goto C dX1_answer_89 (tgt := 178) rfl ?_
                    refine AW.sub (vs' := [some (.ref (ad 9)), some (.ref (ad p1)), none, some (.int z2), some (.int y4), none, none, none]) (lsub_of (by simp [lsubB])) ?_
                    exact j178 (f_X1_answer_15 p1 n) (fun y3 y4 σ h => ih y3 y4 σ h) _ _ _ h
              ·
                refine a_aload_n C dX1_answer_52 (i := 0) rfl rfl ?_
                refine a_iload C dX1_answer_53 rfl ?_
                refine p_callVv C (As := [.int z1]) (i := 9) kd_9 (hid 9 (by decide)) ⟨_, _, rfl⟩ (by decide) h (fun _ e => Z_X1_push hid e) mi_X1_push ml_RX1_26 rfl rfl (Nat.le_of_ble_eq_true rfl) (Nat.le_of_ble_eq_true rfl) (Nat.le_of_ble_eq_true rfl) dX1_answer_55 (fun σ5 h => ?_)
                refine a_goto C dX1_answer_58 (tgt := 178) rfl ?_
                refine AW.sub (vs' := [some (.ref (ad 9)), some (.ref (ad p1)), none, some (.int z2), some (.int y4), none, none, none]) (lsub_of (by simp [lsubB])) ?_
                exact j178 (f_X1_answer_15 p1 n) (fun y3 y4 σ h => ih y3 y4 σ h) _ _ _ h
  refine a_aload_n C dX1_answer_0 (i := 0) rfl rfl ?_
  refine a_iconst C dX1_answer_1 (v := 0) rfl ?_
  refine p_put C fp_RX1_18 (i := 9) kd_9 (hid 9 (by decide)) rfl rfl dX1_answer_2 h (fun σ1 h => ?_)
  refine a_aload_n C dX1_answer_5 (i := 0) rfl rfl ?_
  refine a_iconst C dX1_answer_6 (v := 0) rfl ?_
  refine p_put C fp_RX1_22 (i := 9) kd_9 (hid 9 (by decide)) (nar_z (by decide)).1 (nar_z (by decide)).2 dX1_answer_7 h (fun σ2 h => ?_)
  refine a_iload_n C dX1_answer_10 (i := 2) rfl rfl ?_
  refine a_istore_n C dX1_answer_11 (i := 3) rfl (by decide) rfl (vs1 := [some (.ref (ad 9)), some (.ref (ad p1)), some (.int x2), some (.int x2), none, none, none, none]) rfl ?_
  refine a_iconst C dX1_answer_12 (v := 0) rfl ?_
  refine a_istore C dX1_answer_13 (by decide) rfl (vs1 := [some (.ref (ad 9)), some (.ref (ad p1)), some (.int x2), some (.int x2), some (.int 0), none, none, none]) rfl ?_
  refine AW.sub (vs' := [some (.ref (ad 9)), some (.ref (ad p1)), none, some (.int x2), some (.int 0), none, none, none]) (lsub_of (by simp [lsubB])) ?_
  exact j15 _ _ _ _ h
set_option maxHeartbeats 4000000 in
set_option maxRecDepth 100000 in
theorem Z_X2_add {l : Launch} {D : va_G} {ids : List Nat} {ad : Nat → Nat} {ca : Nat → ClassId} {σ : HS} {x1 : Int32} {x2 : Int32} {r0 : Int32} {s0 : HS} (hid : ∀ i, i < 277 → i ∈ ids) (h : f_X2_add x1 x2 σ = some (r0, s0)) : Ki l D ids ad ca yX2_add cX2_add 3 .int 0 0 [.ref (ad 14), .int x1, .int x2] σ (fun r σ1 => r = r0 ∧ σ1 = s0) := by
  obtain ⟨R, hR⟩ : ∃ R, (r0, s0) = R := ⟨_, rfl⟩
  replace h := h.trans (congrArg some hR)
  refine Ki.of (by decide) (Nat.le_of_ble_eq_true rfl) 0 (fun Γ C Rt => ?_)
  show AW ids ad ca Γ 0 [some (.ref (ad 14)), some (.int x1), some (.int x2)] [] σ
  unfold f_X2_add at h
  refine a_aload_n C dX2_add_0 (i := 0) rfl rfl ?_
  refine a_get C fl_RX2_19 (i := 14) kd_14 (hid 14 (by decide)) (v := .int (σ.1 14 2)) rfl dX2_add_1 ?_
  refine a_bipush C dX2_add_4 (v := 20) rfl ?_
  refine p_ic_lt C (X := (σ.1 14 2).toInt) (Y := 20) rfl (by decide) dX2_add_6 (tgt := 11) rfl h (fun h => ?_) (fun h => ?_)
  ·
    refine a_aload_n C dX2_add_11 (i := 0) rfl rfl ?_
    refine a_get C fl_RX2_9 (i := 14) kd_14 (hid 14 (by decide)) (v := .ref (ad 15)) rfl dX2_add_12 ?_
    refine a_aload_n C dX2_add_15 (i := 0) rfl rfl ?_
    refine a_get C fl_RX2_19 (i := 14) kd_14 (hid 14 (by decide)) (v := .int (σ.1 14 2)) rfl dX2_add_16 ?_
    refine a_iload_n C dX2_add_19 (i := 1) rfl rfl ?_
    refine p_iast C (i := 15) (show rowOK 15 from ⟨kd_15, by decide⟩) hid (by rw [al_15]; rfl) dX2_add_20 h (fun σ1 h => ?_)
    refine a_aload_n C dX2_add_21 (i := 0) rfl rfl ?_
    refine a_get C fl_RX2_15 (i := 14) kd_14 (hid 14 (by decide)) (v := .ref (ad 16)) rfl dX2_add_22 ?_
    refine a_aload_n C dX2_add_25 (i := 0) rfl rfl ?_
    refine a_get C fl_RX2_19 (i := 14) kd_14 (hid 14 (by decide)) (v := .int (σ1.1 14 2)) rfl dX2_add_26 ?_
    refine a_iload_n C dX2_add_29 (i := 2) rfl rfl ?_
    refine ite_n h (fun hz2 h => ?_)
    refine p_zast C (i := 16) kd_16 (hid 16 (by decide)) (by rw [al_16]; rfl) hz2 dX2_add_30 h (fun σ3 h => ?_)
    refine a_aload_n C dX2_add_31 (i := 0) rfl rfl ?_
    refine a_dup C dX2_add_32 rfl ?_
    refine a_get C fl_RX2_19 (i := 14) kd_14 (hid 14 (by decide)) (v := .int (σ3.1 14 2)) rfl dX2_add_33 ?_
    refine a_iconst C dX2_add_36 (v := 1) rfl ?_
    refine a_iadd C dX2_add_37 ?_
    refine p_put C fp_RX2_19 (i := 14) kd_14 (hid 14 (by decide)) rfl rfl dX2_add_38 h (fun σ4 h => ?_)
    refine a_aload_n C dX2_add_41 (i := 0) rfl rfl ?_
    refine a_get C fl_RX2_19 (i := 14) kd_14 (hid 14 (by decide)) (v := .int (σ4.1 14 2)) rfl dX2_add_42 ?_
    refine a_iconst C dX2_add_45 (v := 1) rfl ?_
    refine a_isub C dX2_add_46 ?_
    exact a_iret Rt dX2_add_47 rfl (ret_eq (h.trans (congrArg some hR.symm)))
  ·
    refine a_iconst C dX2_add_9 (v := (-1)) rfl ?_
    exact a_iret Rt dX2_add_10 rfl (ret_eq (h.trans (congrArg some hR.symm)))
theorem dX2_agreeing_45 : decode cX2_agreeing 45 = .ok (.iconst (-1), 1) := o2 ac_cX2_agreeing_32 13 rfl
set_option maxHeartbeats 4000000 in
set_option maxRecDepth 100000 in
theorem Z_X2_agreeing {l : Launch} {D : va_G} {ids : List Nat} {ad : Nat → Nat} {ca : Nat → ClassId} {σ : HS} {p3 : Nat} {x1 : Int32} {x2 : Int32} {r0 : Int32} {s0 : HS} (hid : ∀ i, i < 277 → i ∈ ids) (hp3 : rowOK p3) (h : f_X2_agreeing p3 x1 x2 σ = some (r0, s0)) : Ki l D ids ad ca yX2_agreeing cX2_agreeing 8 .int 0 0 [.ref (ad 14), .int x1, .int x2, .ref (ad p3)] σ (fun r σ1 => r = r0 ∧ σ1 = s0) := by
  obtain ⟨R, hR⟩ : ∃ R, (r0, s0) = R := ⟨_, rfl⟩
  replace h := h.trans (congrArg some hR)
  refine Ki.of (by decide) (Nat.le_of_ble_eq_true rfl) 4 (fun Γ C Rt => ?_)
  show AW ids ad ca Γ 0 [some (.ref (ad 14)), some (.int x1), some (.int x2), some (.ref (ad p3)), none, none, none, none] [] σ
  unfold f_X2_agreeing at h
  have j85 : ∀ (k6 : Int32 → Int32 → Int32 → HS → Option (Int32 × HS)) (hk6 : ∀ (y2 : Int32) (y4 : Int32) (y5 : Int32) (σ : HS), k6 y2 y4 y5 σ = some R → AW ids ad ca Γ 6 [some (.ref (ad 14)), none, some (.int y2), some (.ref (ad p3)), some (.int y4), some (.int y5), none, none] [] σ) (y2 : Int32) (y5 : Int32) (v0 : Int32) (v1 : Int32) (σ : HS), f_X2_agreeing_85 p3 k6 y2 y5 v0 v1 σ = some R → AW ids ad ca Γ 85 [some (.ref (ad 14)), none, some (.int y2), some (.ref (ad p3)), none, some (.int y5), none, none] [.int v0, .int v1] σ := by
    intro k6 hk6 y2 y5 v0 v1 σ h
    unfold f_X2_agreeing_85 at h
    refine a_iand C dX2_agreeing_85 ?_
    refine p_istore C (fun z1 => [some (.ref (ad 14)), none, some (.int y2), some (.ref (ad p3)), some (.int z1), some (.int y5), none, none]) dX2_agreeing_86 (by decide) rfl (fun _ => rfl) h (fun z1 h => ?_)
    refine p_iinc C (y := (y5 + 1)) (fun z2 => [some (.ref (ad 14)), none, some (.int y2), some (.ref (ad p3)), some (.int z1), some (.int z2), none, none]) dX2_agreeing_88 rfl rfl (by decide) rfl (fun _ => rfl) h (fun z2 h => ?_)
    refine a_goto C dX2_agreeing_91 (tgt := 6) rfl ?_
    exact hk6 _ _ _ _ h
  have j62 : ∀ (k6 : Int32 → Int32 → Int32 → HS → Option (Int32 × HS)) (hk6 : ∀ (y2 : Int32) (y4 : Int32) (y5 : Int32) (σ : HS), k6 y2 y4 y5 σ = some R → AW ids ad ca Γ 6 [some (.ref (ad 14)), none, some (.int y2), some (.ref (ad p3)), some (.int y4), some (.int y5), none, none] [] σ) (y2 : Int32) (y4 : Int32) (y5 : Int32) (v0 : Int32) (σ : HS), f_X2_agreeing_62 p3 k6 y2 y4 y5 v0 σ = some R → AW ids ad ca Γ 62 [some (.ref (ad 14)), none, some (.int y2), some (.ref (ad p3)), some (.int y4), some (.int y5), none, none] [.int v0] σ := by
    intro k6 hk6 y2 y4 y5 v0 σ h
    unfold f_X2_agreeing_62 at h
    refine a_istore C dX2_agreeing_62 (by decide) rfl (vs1 := [some (.ref (ad 14)), none, some (.int y2), some (.ref (ad p3)), some (.int y4), some (.int y5), none, some (.int v0)]) rfl ?_
    refine a_iload C dX2_agreeing_64 rfl ?_
    refine a_aload_n C dX2_agreeing_66 (i := 0) rfl rfl ?_
    refine a_get C fl_RX2_15 (i := 14) kd_14 (hid 14 (by decide)) (v := .ref (ad 16)) rfl dX2_agreeing_67 ?_
    refine a_iload C dX2_agreeing_70 rfl ?_
    refine p_zald C (i := 16) kd_16 (hid 16 (by decide)) (by rw [al_16]; rfl) dX2_agreeing_72 h (fun h => ?_)
    refine p_if_eq C (X := (σ.1 16 y5.toInt.toNat).toInt) rfl dX2_agreeing_73 (tgt := 81) rfl h (fun h => ?_) (fun h => ?_)
    ·
      refine a_iload C dX2_agreeing_81 rfl ?_
      refine a_iconst C dX2_agreeing_83 (v := (-1)) rfl ?_
      refine a_ixor C dX2_agreeing_84 ?_
      refine AW.sub (vs' := [some (.ref (ad 14)), none, some (.int y2), some (.ref (ad p3)), none, some (.int y5), none, none]) (lsub_of (by simp [lsubB])) ?_
      exact j85 k6 hk6 _ _ _ _ _ h
    ·
      refine a_iload C dX2_agreeing_76 rfl ?_
      refine a_goto C dX2_agreeing_78 (tgt := 85) rfl ?_
      refine AW.sub (vs' := [some (.ref (ad 14)), none, some (.int y2), some (.ref (ad p3)), none, some (.int y5), none, none]) (lsub_of (by simp [lsubB])) ?_
      exact j85 k6 hk6 _ _ _ _ _ h
  have j46 : ∀ (k6 : Int32 → Int32 → Int32 → HS → Option (Int32 × HS)) (hk6 : ∀ (y2 : Int32) (y4 : Int32) (y5 : Int32) (σ : HS), k6 y2 y4 y5 σ = some R → AW ids ad ca Γ 6 [some (.ref (ad 14)), none, some (.int y2), some (.ref (ad p3)), some (.int y4), some (.int y5), none, none] [] σ) (y2 : Int32) (y4 : Int32) (y5 : Int32) (v0 : Int32) (σ : HS), f_X2_agreeing_46 p3 k6 y2 y4 y5 v0 σ = some R → AW ids ad ca Γ 46 [some (.ref (ad 14)), none, some (.int y2), some (.ref (ad p3)), some (.int y4), some (.int y5), none, none] [.int v0] σ := by
    intro k6 hk6 y2 y4 y5 v0 σ h
    unfold f_X2_agreeing_46 at h
    refine a_istore C dX2_agreeing_46 (by decide) rfl (vs1 := [some (.ref (ad 14)), none, some (.int y2), some (.ref (ad p3)), some (.int y4), some (.int y5), some (.int v0), none]) rfl ?_
    refine a_iload C dX2_agreeing_48 rfl ?_
    refine a_iconst C dX2_agreeing_50 (v := (-1)) rfl ?_
    refine p_ic_ne C (X := v0.toInt) (Y := (-1)) rfl (by decide) dX2_agreeing_51 (tgt := 58) rfl h (fun h => ?_) (fun h => ?_)
    ·
      refine a_iconst C dX2_agreeing_58 (v := 1) rfl ?_
      refine a_iload C dX2_agreeing_59 rfl ?_
      refine a_ishl C dX2_agreeing_61 ?_
      refine AW.sub (vs' := [some (.ref (ad 14)), none, some (.int y2), some (.ref (ad p3)), some (.int y4), some (.int y5), none, none]) (lsub_of (by simp [lsubB])) ?_
      exact j62 k6 hk6 _ _ _ _ _ h
    ·
      refine a_iconst C dX2_agreeing_54 (v := 0) rfl ?_
      refine a_goto C dX2_agreeing_55 (tgt := 62) rfl ?_
      refine AW.sub (vs' := [some (.ref (ad 14)), none, some (.int y2), some (.ref (ad p3)), some (.int y4), some (.int y5), none, none]) (lsub_of (by simp [lsubB])) ?_
      exact j62 k6 hk6 _ _ _ _ _ h
  have j6 : ∀ (n : Nat) (y2 : Int32) (y4 : Int32) (y5 : Int32) (σ : HS), f_X2_agreeing_6 p3 n y2 y4 y5 σ = some R → AW ids ad ca Γ 6 [some (.ref (ad 14)), none, some (.int y2), some (.ref (ad p3)), some (.int y4), some (.int y5), none, none] [] σ := by
    intro n
    induction n with
    | zero => intro y2 y4 y5 σ h; exact nn h
    | succ n ih =>
      intro y2 y4 y5 σ h
      have h : b_X2_agreeing_6 p3 (f_X2_agreeing_6 p3 n) y2 y4 y5 σ = some R := h
      unfold b_X2_agreeing_6 at h
      refine a_iload C dX2_agreeing_6 rfl ?_
      refine a_iload_n C dX2_agreeing_8 (i := 2) rfl rfl ?_
      refine p_ic_ge C (X := y5.toInt) (Y := y2.toInt) rfl rfl dX2_agreeing_9 (tgt := 94) rfl h (fun h => ?_) (fun h => ?_)
      ·
        refine a_iload C dX2_agreeing_94 rfl ?_
        exact a_iret Rt dX2_agreeing_96 rfl (ret_eq (h.trans (congrArg some hR.symm)))
      ·
        refine a_iload C dX2_agreeing_12 rfl ?_
        refine a_aload_n C dX2_agreeing_14 (i := 0) rfl rfl ?_
        refine a_get C fl_RX2_19 (i := 14) kd_14 (hid 14 (by decide)) (v := .int (σ.1 14 2)) rfl dX2_agreeing_15 ?_
        refine p_ic_ge C (X := y5.toInt) (Y := (σ.1 14 2).toInt) rfl rfl dX2_agreeing_18 (tgt := 94) rfl h (fun h => ?_) (fun h => ?_)
        ·
          refine a_iload C dX2_agreeing_94 rfl ?_
          exact a_iret Rt dX2_agreeing_96 rfl (ret_eq (h.trans (congrArg some hR.symm)))
        ·
          refine a_aload_n C dX2_agreeing_21 (i := 0) rfl rfl ?_
          refine a_get C fl_RX2_9 (i := 14) kd_14 (hid 14 (by decide)) (v := .ref (ad 15)) rfl dX2_agreeing_22 ?_
          refine a_iload C dX2_agreeing_25 rfl ?_
          refine p_iald C (i := 15) (show rowOK 15 from ⟨kd_15, by decide⟩) hid (by rw [al_15]; rfl) dX2_agreeing_27 h (fun h => ?_)
          refine a_aload_n C dX2_agreeing_28 (i := 3) rfl rfl ?_
          refine a_alen C (by rw [hp3.1]; decide) (hid _ hp3.2) rfl dX2_agreeing_29 ?_
          refine p_ic_ge C (X := (σ.1 15 y5.toInt.toNat).toInt) (Y := (Int32.ofNat (al p3)).toInt) rfl rfl dX2_agreeing_30 (tgt := 45) rfl h (fun h => ?_) (fun h => ?_)
          ·
            refine a_iconst C dX2_agreeing_45 (v := (-1)) rfl ?_
            exact j46 (f_X2_agreeing_6 p3 n) (fun y2 y4 y5 σ h => ih y2 y4 y5 σ h) _ _ _ _ _ h
          ·
            refine a_aload_n C dX2_agreeing_33 (i := 3) rfl rfl ?_
            refine a_aload_n C dX2_agreeing_34 (i := 0) rfl rfl ?_
            refine a_get C fl_RX2_9 (i := 14) kd_14 (hid 14 (by decide)) (v := .ref (ad 15)) rfl dX2_agreeing_35 ?_
            refine a_iload C dX2_agreeing_38 rfl ?_
            refine p_iald C (i := 15) (show rowOK 15 from ⟨kd_15, by decide⟩) hid (by rw [al_15]; rfl) dX2_agreeing_40 h (fun h => ?_)
            refine p_iald C (i := p3) hp3 hid rfl dX2_agreeing_41 h (fun h => ?_)
            refine a_goto C dX2_agreeing_42 (tgt := 46) rfl ?_
            exact j46 (f_X2_agreeing_6 p3 n) (fun y2 y4 y5 σ h => ih y2 y4 y5 σ h) _ _ _ _ _ h
  refine a_iload_n C dX2_agreeing_0 (i := 1) rfl rfl ?_
  refine a_istore C dX2_agreeing_1 (by decide) rfl (vs1 := [some (.ref (ad 14)), some (.int x1), some (.int x2), some (.ref (ad p3)), some (.int x1), none, none, none]) rfl ?_
  refine a_iconst C dX2_agreeing_3 (v := 0) rfl ?_
  refine a_istore C dX2_agreeing_4 (by decide) rfl (vs1 := [some (.ref (ad 14)), some (.int x1), some (.int x2), some (.ref (ad p3)), some (.int x1), some (.int 0), none, none]) rfl ?_
  refine AW.sub (vs' := [some (.ref (ad 14)), none, some (.int x2), some (.ref (ad p3)), some (.int x1), some (.int 0), none, none]) (lsub_of (by simp [lsubB])) ?_
  exact j6 _ _ _ _ _ h

