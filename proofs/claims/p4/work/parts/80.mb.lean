/-! the reference's names, things, patterns -/
theorem ltS_2 {pl : Nat → Int} {t : Nat} {k : Int} {q : FA} : (ltS pl t k q).2 = if q.1 = 0 then pl t else q.2 := by unfold ltS; split <;> rfl
section MNM
variable {b : Nat → Int32} {n sd : Nat} {σc σ : HS}
def NMM (s : HS) (nc : Nat) (ns : Nat → Int64) : Prop := s.1 236 20 = nI nc ∧ nc ≤ 12 ∧ ∀ i, i < nc → s.2.1 244 i = ns i
theorem NMM.fr {w : Nat → Nat → Bool} {wl : Nat → Bool} {s : HS} {nc : Nat} {ns : Nat → Int64} (h : NMM σ nc ns) (hf : frm w wl σ s) (h9 : w 236 20 = false) (h7 : wl 244 = false) : NMM s nc ns := by
  unfold NMM
  rw [hf.1 236 20 h9, hf.2.1 244 h7]
  exact h
theorem NMM.wr {a k nc : Nat} {ns : Nat → Int64} {v : Int32} (h : NMM σ nc ns) (ha : a ≠ 236) : NMM (hI σ a k v) nc ns := by
  unfold NMM
  rw [rI_i (Ne.symm ha)]; exact h
theorem LTM.wr {t a k : Nat} {v : Int32} {lt : FA} (h : LTM b n t σ lt) (ha : a ≠ 236) : LTM b n t (hI σ a k v) lt := h.eq (rI_i (Ne.symm ha)) (rI_i (Ne.symm ha))
theorem mr_named {t nc : Nat} {ns : Nat → Int64} {lt : FA} (hT : TKA b n σc) (h : RZ b n sd σc t σ) (hl : LTM b n t σ lt) (hn : NMM σ nc ns) : Ok (f_X12_named σ) (fun r s => PostM (FLM sd σc) (nameS (kdT b n) (plI b n) (nmT b n) t nc ns lt) (fun a s => a.1 = t + 1 ∧ t < 400 ∧ kdT b n t = 1 ∧ r = nI t ∧ RZ b n sd σc (t + 1) s ∧ LTM b n (t + 1) s a.2 ∧ frm wNmm wl0 σ s) s) := by
  have ht := h.2.1
  have tk := RZ.tk hT h
  unfold f_X12_named
  refine Ok.bd ?_
  rw [h.2.2.2.1]
  refine Ok.cv (mr_must (x := 1) (k := 1) hT h rfl (by decide)) (fun s1 h1 => ?_)
  unfold nameS
  revert h1
  cases ex : tkS (kdT b n) (plI b n) 1 t with
  | error e =>
    intro hF
    show Ok (b_X12_named_12 (f_X12_named_12 4999) (nI t) 0 s1) _
    unfold b_X12_named_12
    exact Ok.i (fun _ => Ok.f (by rw [hF.1]; have := hF.2.1; omega) (Ok.ret hF)) (fun _ => Ok.ret hF)
  | ok t1 =>
    rintro ⟨rfl, h4, hk, hR1, hs1⟩
    have pl1 := pl_lt (b := b) (n := n) (t := t) (by rw [hk]; decide)
    have hnm : ∀ s, RZ b n sd σc (t + 1) s → s.2.1 242 t = nmT b n t := fun s hs => by
      rw [hs.1.2.1 242 rfl]
      exact (hT t ht h.2.2.1).2.2.2 hk
    have f1 : frm wNmm wl0 σ s1 := by rw [hs1]; exact frm.rf.I rfl
    have loop : ∀ (d i N : Nat) (s : HS), i + d = nc → d < N → RZ b n sd σc (t + 1) s → (s.1 236 15).toInt = (if hasN i ns (nmT b n t) = true then ltS (plI b n) t 3 lt else lt).1 → ((if hasN i ns (nmT b n t) = true then ltS (plI b n) t 3 lt else lt).1 ≠ 0 → (s.1 236 16).toInt = (if hasN i ns (nmT b n t) = true then ltS (plI b n) t 3 lt else lt).2) → frm wNmm wl0 σ s → Ok (f_X12_named_12 N (nI t) (nI i) s) (fun r s => PostM (FLM sd σc) (Except.ok (t + 1) >>= fun t1 => Except.ok (t1, if hasN nc ns (nmT b n t) = true then ltS (plI b n) t 3 lt else lt)) (fun a s => a.1 = t + 1 ∧ t < 400 ∧ kdT b n t = 1 ∧ r = nI t ∧ RZ b n sd σc (t + 1) s ∧ LTM b n (t + 1) s a.2 ∧ frm wNmm wl0 σ s) s) := by
      intro d
      induction d with
      | zero =>
        intro i N s hi hN hR h15 h16 hf
        obtain ⟨N, rfl⟩ : ∃ q, N = q + 1 := ⟨N - 1, by omega⟩
        obtain rfl : i = nc := by omega
        show Ok (b_X12_named_12 (f_X12_named_12 N) (nI t) (nI i) s) _
        unfold b_X12_named_12
        rw [hf.1 236 20 rfl, hn.1]
        refine Ok.f (by omega) (Ok.ret ?_)
        refine ⟨rfl, h4, hk, rfl, hR, ⟨h15, fun e => ⟨h16 e, ?_⟩⟩, hf⟩
        show (if hasN i ns (nmT b n t) = true then ltS (plI b n) t 3 lt else lt).2 < _
        have e : (if hasN i ns (nmT b n t) = true then ltS (plI b n) t 3 lt else lt).1 ≠ 0 := e
        by_cases c : hasN i ns (nmT b n t) = true
        · rw [if_pos c] at e ⊢
          unfold ltS at e ⊢
          by_cases c0 : lt.1 = 0
          · rw [if_pos c0]; exact pl1
          · rw [if_neg c0]; have := (hl.2 c0).2; omega
        · rw [if_neg c] at e ⊢
          have := (hl.2 e).2; omega
      | succ d ih =>
        intro i N s hi hN hR h15 h16 hf
        obtain ⟨N, rfl⟩ : ∃ q, N = q + 1 := ⟨N - 1, by omega⟩
        have hnc := hn.2.1
        show Ok (b_X12_named_12 (f_X12_named_12 N) (nI t) (nI i) s) _
        unfold b_X12_named_12
        rw [hf.1 236 20 rfl, hn.1, nIt (by omega), nIt (by omega), nIt (by omega), Int.toNat_natCast, Int.toNat_natCast]
        refine Ok.t (by omega) (Ok.t hR.2.2.2.2 (Ok.t (by omega) (Ok.t (by omega) ?_)))
        rw [hnm s hR, hf.2.1 244 rfl, hn.2.2 i (by omega)]
        simp only [f_X12_named_49, Bd, nI_1]
        refine Ok.i (fun c => ?_) (fun c => ?_)
        · rw [lgc0] at c
          have hh : hasN (i + 1) ns (nmT b n t) = true := by rw [hasN_s, c]; simp
          refine Ok.cv (mr_wrong (t := t) (u := t + 1) (x := 3) (lt := if hasN i ns (nmT b n t) = true then ltS (plI b n) t 3 lt else lt) hT hR (by omega) ⟨h15, fun e => ⟨h16 e, ?_⟩⟩ (by decide)) (fun s2 h2 => ?_)
          · by_cases c1 : hasN i ns (nmT b n t) = true
            · rw [if_pos c1] at e ⊢
              unfold ltS at e ⊢
              by_cases c0 : lt.1 = 0
              · rw [if_pos c0]; exact Or.inr ⟨rfl, (by show (3 : Int) ≤ 3; omega)⟩
              · rw [if_neg c0]; exact Or.inl (hl.2 c0).2
            · rw [if_neg c1] at e ⊢
              exact Or.inl (hl.2 e).2
          · obtain ⟨a1, a2, a3, a4⟩ := h2
            have ev : ltS (plI b n) t 3 (if hasN i ns (nmT b n t) = true then ltS (plI b n) t 3 lt else lt) = ltS (plI b n) t 3 lt := by
              by_cases c1 : hasN i ns (nmT b n t) = true
              · rw [if_pos c1]; exact ltS_idem (by decide)
              · rw [if_neg c1]
            refine ih (i + 1) N s2 (by omega) (by omega) a1 ?_ (fun e => ?_) ?_
            · rw [a2, if_pos hh]; exact congrArg Prod.fst ev
            · rw [if_pos hh] at e ⊢
              exact a3.trans ((ltS_2 (k := 3)).symm.trans (congrArg Prod.snd ev))
            · rcases a4 with rfl | ⟨v, w, rfl⟩
              · exact hf
              · exact (hf.I rfl).I rfl
        · rw [lgc0] at c
          have hh : hasN (i + 1) ns (nmT b n t) = hasN i ns (nmT b n t) := by rw [hasN_s, show (ns i == nmT b n t) = false by simpa using c, Bool.or_false]
          exact ih (i + 1) N s (by omega) (by omega) hR (by rw [hh]; exact h15) (by rw [hh]; exact h16) hf
    rw [nI0]
    refine loop nc 0 5000 s1 (by omega) (by have := hn.2.1; omega) hR1 ?_ ?_ f1
    · rw [show hasN 0 ns (nmT b n t) = false from rfl, if_neg (by decide), hs1, rI_k (by decide)]; exact hl.1
    · rw [show hasN 0 ns (nmT b n t) = false from rfl, if_neg (by decide), hs1, rI_k (by decide)]
      exact fun e => (hl.2 e).1
def wEn (a k : Nat) : Bool := a == 236 && (k == 11 || k == 13 || k == 14 || k == 20)
theorem mr_ends_f {e : FA} {x : Int32} (h : FLM sd σc e σ) : f_X12_ends x σ = some σ := by
  unfold f_X12_ends
  rw [mr_must_f h]
  simp only [Cv]
  rw [if_pos (by rw [h.1]; exact h.2.1)]
theorem mr_ends {t t0 nc : Nat} {ns : Nat → Int64} (hT : TKA b n σc) (h : RZ b n sd σc t σ) (hn : NMM σ nc ns) (h12 : nc < 12) (h0 : t0 < t) (hk : kdT b n t0 = 1) : Okv (f_X12_ends (nI t0) σ) (PostM (FLM sd σc) (tkS (kdT b n) (plI b n) 4 t) (fun t1 s => t1 = t + 1 ∧ t < 400 ∧ RZ b n sd σc (t + 1) s ∧ NMM s (nc + 1) (upN ns nc (nmT b n t0)) ∧ frm wEn wlPm σ s)) := by
  have ht := h.2.1
  unfold f_X12_ends
  refine Okv.cv (mr_must (x := 4) (k := 4) hT h rfl (by decide)) (fun s1 h1 => ?_)
  revert h1
  cases ex : tkS (kdT b n) (plI b n) 4 t with
  | error e => exact fun hF => Okv.t (by rw [hF.1]; exact hF.2.1) (Okv.ret hF)
  | ok t1 =>
    rintro ⟨rfl, h4, hk4, hR1, hs1⟩
    have f1 : frm wEn wl0 σ s1 := by rw [hs1]; exact frm.rf.I rfl
    have e20 : s1.1 236 20 = nI nc := by rw [hs1, rI_k (by decide)]; exact hn.1
    have e244 : s1.2.1 244 = σ.2.1 244 := by rw [hs1]; rfl
    have e242 : s1.2.1 242 t0 = nmT b n t0 := by
      rw [hR1.1.2.1 242 rfl]
      exact (hT t0 (by omega) (fun p hp => h.2.2.1 p (by omega))).2.2.2 hk
    refine Okv.f (by rw [hR1.2.2.2.2]; omega) ?_
    rw [nIt (by omega), e20, nIt (by omega), Int.toNat_natCast, Int.toNat_natCast]
    refine Okv.t (by omega) (Okv.t (by omega) (Okv.bd ?_))
    rw [rL_1, e20, nI_1, e242]
    refine Okv.bd (Okv.ret ⟨rfl, h4, ⟨(hR1.1.L rfl).I (by unfold wPm; simp), hR1.2.1, hR1.2.2.1, ?_, ?_⟩, ⟨rI_s, by omega, fun i hi => ?_⟩, (f1.mono (fun _ _ e => e) (fun _ _ => rfl) |>.L rfl).I rfl⟩)
    · rw [rI_k (by decide)]; exact hR1.2.2.2.1
    · rw [rI_k (by decide)]; exact hR1.2.2.2.2
    · show (hL s1 244 nc (nmT b n t0)).2.1 244 i = upN ns nc (nmT b n t0) i
      unfold upN
      by_cases c : i = nc
      · rw [c, rL_s, if_pos rfl]
      · rw [rL_k c, if_neg c, e244]; exact hn.2.2 i (by omega)
end MNM
