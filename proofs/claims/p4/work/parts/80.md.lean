/-! the reference's patterns, rests, seed -/
section MBS
variable {α β : Type} {F1 F : FA → HS → Prop} {x : Except FA α} {y : α → Except FA β}
theorem MB {K : α → HS → Prop} {K' : β → HS → Prop} {f : Option HS} {g : HS → Option HS} (h : Okv f (PostM F1 x K)) (ke : ∀ e s, F1 e s → Okv (g s) (F e)) (k : ∀ a s, x = .ok a → K a s → Okv (g s) (PostM F (y a) K')) : Okv (Cv f g) (PostM F (x >>= y) K') := by
  obtain ⟨s, rfl, h⟩ := h
  cases x with
  | error e => exact ke e s h
  | ok a => exact k a s rfl h
theorem MBl {K : Int32 → α → HS → Prop} {K' : β → HS → Prop} {f : Option (Int32 × HS)} {g : Int32 → HS → Option HS} (h : Ok f (fun r s => PostM F1 x (K r) s)) (ke : ∀ r e s, F1 e s → Okv (g r s) (F e)) (k : ∀ r a s, x = .ok a → K r a s → Okv (g r s) (PostM F (y a) K')) : Okv (Cl f g) (PostM F (x >>= y) K') := by
  obtain ⟨r, s, rfl, h⟩ := h
  cases x with
  | error e => exact ke r e s h
  | ok a => exact k r a s rfl h
theorem MC {K : α → HS → Prop} {K' : Int32 → β → HS → Prop} {f : Option HS} {g : HS → Option (Int32 × HS)} (h : Okv f (PostM F1 x K)) (ke : ∀ e s, F1 e s → Ok (g s) (fun _ s => F e s)) (k : ∀ a s, x = .ok a → K a s → Ok (g s) (fun r s => PostM F (y a) (K' r) s)) : Ok (Cv f g) (fun r s => PostM F (x >>= y) (K' r) s) := by
  obtain ⟨s, rfl, h⟩ := h
  cases x with
  | error e => exact ke e s h
  | ok a => exact k a s rfl h
theorem MCl {K : Int32 → α → HS → Prop} {K' : Int32 → β → HS → Prop} {f : Option (Int32 × HS)} {g : Int32 → HS → Option (Int32 × HS)} (h : Ok f (fun r s => PostM F1 x (K r) s)) (ke : ∀ r e s, F1 e s → Ok (g r s) (fun _ s => F e s)) (k : ∀ r a s, x = .ok a → K r a s → Ok (g r s) (fun r s => PostM F (y a) (K' r) s)) : Ok (Cl f g) (fun r s => PostM F (x >>= y) (K' r) s) := by
  obtain ⟨r, s, rfl, h⟩ := h
  cases x with
  | error e => exact ke r e s h
  | ok a => exact k r a s rfl h
end MBS
section MPT
variable {b : Nat → Int32} {n sd : Nat} {σc σ : HS}
def wPtm (sd i a k : Nat) : Bool := (a == 236 && (k == 11 || k == 13 || k == 14 || k == 15 || k == 16 || k == 20)) || (a == 249 && k == sd) || (a == 250 && k == 5 * sd + i) || (a == 251 && decide (8 * (5 * sd + i) ≤ k) && decide (k < 8 * (5 * sd + i) + 8))
theorem wNmm_Pt {i a k : Nat} (h : wPtm sd i a k = false) : wNmm a k = false := by
  unfold wPtm at h
  unfold wNmm
  simp only [Bool.or_eq_false_iff] at h
  have h1 := h.1.1.1
  cases e : (a == 236) with
  | false => rfl
  | true => rw [e] at h1; simp at h1 ⊢; omega
theorem wEn_Pt {i a k : Nat} (h : wPtm sd i a k = false) : wEn a k = false := by
  unfold wPtm at h
  unfold wEn
  simp only [Bool.or_eq_false_iff] at h
  have h1 := h.1.1.1
  cases e : (a == 236) with
  | false => rfl
  | true => rw [e] at h1; simp at h1 ⊢; omega
theorem z8m : ∀ z, z < 10 → (8 : Int32) * nI z = nI (8 * z) := by decide +kernel
theorem z5m : ∀ z, z < 2 → (5 : Int32) * nI z = nI (5 * z) := by decide +kernel
theorem mr_hts_f {e : FA} {N : Nat} {y1 y2 : Int32} (h : FLM sd σc e σ) : f_X12_tellPattern_45 (N + 1) y1 y2 σ = some σ := by
  show b_X12_tellPattern_45 (f_X12_tellPattern_45 N) y1 y2 σ = some σ
  unfold b_X12_tellPattern_45 f_X12_tellPattern_120
  rw [if_neg (by rw [h.1]; have := h.2.1; omega), mr_ends_f h]
  simp only [Cv]
  rw [if_neg (by rw [h.1]; have := h.2.1; omega)]
/-- what a told pattern leaves -/
def KPm (b : Nat → Int32) (n sd : Nat) (σc : HS) (t nP nc : Nat) (ns : Nat → Int64) (σ : HS) (a : Nat × Nat × (Nat → Int) × FA) (s : HS) : Prop := t < a.1 ∧ RZ b n sd σc a.1 s ∧ LTM b n a.1 s a.2.2.2 ∧ NMM s nc ns ∧ s.1 249 sd = nI (nP + 1) ∧ s.1 250 (5 * sd + nP) = nI a.2.1 ∧ (1 ≤ a.2.1 ∧ a.2.1 ≤ 8) ∧ (∀ i, i < a.2.1 → (s.1 251 (8 * (5 * sd + nP) + i)).toInt = a.2.2.1 i) ∧ frm (wPtm sd nP) wlPm σ s
theorem mr_hts (hT : TKA b n σc) (hsd : sd ≤ 1) {t nP nc : Nat} {ns : Nat → Int64} (h5 : nP < 5) (h12 : nc < 12) (hk1 : kdT b n t = 1) : ∀ (m N k t1 : Nat) (hs : Nat → Int) (lt : FA) (s : HS), k + m = 8 → m + 1 < N → 1 ≤ k → t < t1 → RZ b n sd σc t1 s → LTM b n t1 s lt → NMM s nc ns → s.1 236 19 = nI sd → s.1 249 sd = nI nP → s.1 250 (5 * sd + nP) = nI k → (∀ i, i < k → (s.1 251 (8 * (5 * sd + nP) + i)).toInt = hs i) → frm (wPtm sd nP) wlPm σ s → Okv (f_X12_tellPattern_45 N (nI (5 * sd + nP)) (nI t) s) (PostM (FLM sd σc) (htsS (kdT b n) (vlT b n) (plI b n) k hs t1 lt m) (KPm b n sd σc t nP (nc + 1) (upN ns nc (nmT b n t)) σ)) := by
  have fin : ∀ (k t1 : Nat) (hs : Nat → Int) (lt : FA) (s : HS), k ≤ 8 → 1 ≤ k → t < t1 → RZ b n sd σc t1 s → LTM b n t1 s lt → NMM s nc ns → s.1 236 19 = nI sd → s.1 249 sd = nI nP → s.1 250 (5 * sd + nP) = nI k → (∀ i, i < k → (s.1 251 (8 * (5 * sd + nP) + i)).toInt = hs i) → frm (wPtm sd nP) wlPm σ s → Okv (f_X12_tellPattern_120 (nI t) s) (PostM (FLM sd σc) (tkS (kdT b n) (plI b n) 4 t1 >>= fun t2 => .ok (t2, k, hs, lt)) (KPm b n sd σc t nP (nc + 1) (upN ns nc (nmT b n t)) σ)) := by
    intro k t1 hs lt s hk hk1' htt hR hl hn hsi h249 h250 hh hF
    unfold f_X12_tellPattern_120
    refine MB (mr_ends (t0 := t) hT hR hn h12 htt hk1) (fun e s hF => Okv.f (by rw [hF.1]; have := hF.2.1; omega) (Okv.ret hF)) (fun t2 s4 ex h4 => ?_)
    obtain ⟨rfl, h400, r4, n4, f4⟩ := h4
    have hk4 : kdT b n t1 = 4 := by
      unfold tkS at ex
      by_cases c : kdT b n t1 = 4
      · exact c
      · rw [if_neg c] at ex; exact absurd ex (by simp)
    refine Okv.t r4.2.2.2.2 ?_
    rw [f4.1 236 19 rfl, hsi, nIt (by omega), Int.toNat_natCast]
    refine Okv.t (by omega) (Okv.t (by omega) (Okv.bd ?_))
    rw [f4.1 249 sd rfl, h249, nI_1]
    refine Okv.ret ?_
    show KPm b n sd σc t nP (nc + 1) (upN ns nc (nmT b n t)) σ (t1 + 1, k, hs, lt) _
    refine ⟨by show t < t1 + 1; omega, r4.wr (by unfold wPm; simp) (Or.inl (by decide)), ?_, ⟨?_, n4.2.1, n4.2.2⟩, rI_s, ?_, ⟨hk1', hk⟩, fun i hi => ?_, (hF.tr (f4.mono (fun _ _ => wEn_Pt) (fun _ e => e))).I (by unfold wPtm; simp)⟩
    · refine ((hl.up (by rw [hk4]; decide)).eq ?_ ?_ : LTM b n (t1 + 1) _ lt)
      · rw [rI_i (by decide), f4.1 _ _ rfl]
      · rw [rI_i (by decide), f4.1 _ _ rfl]
    · rw [rI_i (by decide)]; exact n4.1
    · rw [rI_i (by decide), f4.1 _ _ rfl]; exact h250
    · rw [rI_i (by decide), f4.1 _ _ rfl]; exact hh i hi
  intro m
  induction m with
  | zero =>
    intro N k t1 hs lt s hk hN hk1' htt hR hl hn hsi h249 h250 hh hF
    obtain ⟨N, rfl⟩ : ∃ q, N = q + 1 := ⟨N - 1, by omega⟩
    show Okv (b_X12_tellPattern_45 (f_X12_tellPattern_45 N) (nI (5 * sd + nP)) (nI t) s) (PostM _ (if kdT b n t1 = 2 then .error (2, plI b n t1) else _) _)
    unfold b_X12_tellPattern_45
    refine Okv.t hR.2.2.2.2 (Okv.cle (mr_is hT hR) ?_)
    by_cases c2 : kdT b n t1 = 2
    · rw [if_pos c2, show (decide (kdT b n t1 = (2 : Int32).toInt)) = true from decide_eq_true c2, nIt (by omega), Int.toNat_natCast, h250, nIt (by omega)]
      refine Okv.f (by decide) (Okv.t (by omega) (Okv.t (by omega) ?_))
      refine Okv.cv (mr_fail (x := 2) hT hR (by decide)) (fun s2 hF2 => ?_)
      unfold f_X12_tellPattern_76
      exact Okv.t (by rw [hF2.1]; exact hF2.2.1) (Okv.ret hF2)
    · rw [if_neg c2, show (decide (kdT b n t1 = (2 : Int32).toInt)) = false from decide_eq_false c2]
      exact Okv.t (by decide) (fin k t1 hs lt s (by omega) hk1' htt hR hl hn hsi h249 h250 hh hF)
  | succ m ih =>
    intro N k t1 hs lt s hk hN hk1' htt hR hl hn hsi h249 h250 hh hF
    obtain ⟨N, rfl⟩ : ∃ q, N = q + 1 + 1 := ⟨N - 2, by omega⟩
    show Okv (b_X12_tellPattern_45 (f_X12_tellPattern_45 (N + 1)) (nI (5 * sd + nP)) (nI t) s) (PostM _ (if kdT b n t1 = 2 then _ else _) _)
    unfold b_X12_tellPattern_45
    refine Okv.t hR.2.2.2.2 (Okv.cle (mr_is hT hR) ?_)
    by_cases c2 : kdT b n t1 = 2
    · rw [if_pos c2, show (decide (kdT b n t1 = (2 : Int32).toInt)) = true from decide_eq_true c2]
      refine Okv.f (by decide) ?_
      unfold f_X12_tellPattern_76
      rw [nIt (by omega), Int.toNat_natCast, h250, nIt (by omega), z8m _ (by omega), nI_add, nIt (by omega), Int.toNat_natCast]
      refine Okv.t (by omega) (Okv.f (by omega) (Okv.f (by rw [hR.2.2.2.2]; omega) (Okv.t (by omega) ?_)))
      have hw : wPm sd 251 (8 * (5 * sd + nP) + k) = true := by unfold wPm; simp; omega
      have hw2 : wPm sd 250 (5 * sd + nP) = true := by unfold wPm; simp; omega
      refine MBl (mr_bounded (x1 := 0) (x2 := 9) hT hR hl) (fun r e s hF => ?_) (fun r a s1 _ h1 => ?_)
      · exact Okv.t (by omega) (tl_w hF hw (by decide) (fun s hF => Okv.t (by omega) (Okv.t (by omega) (tl_w hF hw2 (by decide) (fun s hF => ⟨_, mr_hts_f hF, hF⟩)))))
      · obtain ⟨e1, -, -, -, v1, r1, l1, f1⟩ := h1
        refine Okv.t (by omega) (Okv.bd (Okv.t (by omega) (Okv.t (by omega) (Okv.bd ?_))))
        rw [rI_i (show (250 : Nat) ≠ 251 by decide), f1.1 250 _ rfl, h250, nI_1]
        refine ih (N + 1) (k + 1) a.1 (upI hs k a.2.1) a.2.2 _ (by omega) (by omega) (by omega) (by omega) (by rw [e1]; exact (r1.wr hw (Or.inl (by decide))).wr hw2 (Or.inl (by decide))) (by rw [e1]; exact (l1.wr (by decide)).wr (by decide)) (((hn.fr f1 rfl rfl).wr (by decide)).wr (by decide)) ?_ ?_ rI_s ?_ (((hF.tr (f1.mono (fun _ _ => wNmm_Pt) (fun _ _ => rfl))).I (by unfold wPtm; simp; omega)).I (by unfold wPtm; simp))
        · rw [rI_i (by decide), rI_i (by decide), f1.1 236 19 rfl]; exact hsi
        · rw [rI_i (by decide), rI_i (by decide), f1.1 249 sd rfl]; exact h249
        · intro i hi
          rw [rI_i (by decide)]
          unfold upI
          by_cases e : i = k
          · rw [e, rI_s, if_pos rfl]; exact v1
          · rw [rI_k (by omega), if_neg e, f1.1 251 _ rfl]; exact hh i (by omega)
    · rw [if_neg c2, show (decide (kdT b n t1 = (2 : Int32).toInt)) = false from decide_eq_false c2]
      exact Okv.t (by decide) (fin k t1 hs lt s (by omega) hk1' htt hR hl hn hsi h249 h250 hh hF)
theorem mr_pattern {t nP nc : Nat} {ns : Nat → Int64} {lt : FA} (hT : TKA b n σc) (hsd : sd ≤ 1) (h : RZ b n sd σc t σ) (hl : LTM b n t σ lt) (hn : NMM σ nc ns) (h12 : nc < 12) (hside : σ.1 236 19 = nI sd) (h0 : σ.1 249 sd = nI nP) (h5 : nP < 5) : Okv (f_X12_tellPattern σ) (PostM (FLM sd σc) (nameS (kdT b n) (plI b n) (nmT b n) t nc ns lt >>= fun a => numS (kdT b n) (vlT b n) (plI b n) 0 9 a.1 a.2 >>= fun b1 => htsS (kdT b n) (vlT b n) (plI b n) 1 (upI (fun _ => 0) 0 b1.2.1) b1.1 b1.2.2 7) (KPm b n sd σc t nP (nc + 1) (upN ns nc (nmT b n t)) σ)) := by
  unfold f_X12_tellPattern
  rw [hside, nIt (by omega), Int.toNat_natCast, h0, z5m sd (by omega), nI_add]
  refine Okv.t (by omega) (Okv.bd ?_)
  rw [z8m _ (by omega), nIt (by omega), nIt (by omega), Int.toNat_natCast, Int.toNat_natCast]
  have hw : wPm sd 251 (8 * (5 * sd + nP)) = true := by unfold wPm; simp; omega
  have hw2 : wPm sd 250 (5 * sd + nP) = true := by unfold wPm; simp; omega
  refine MBl (mr_named hT h hl hn) (fun r e s hF => ?_) (fun r a1 s1 _ h1 => ?_)
  · refine Okv.cle (mr_bounded_f hF) ?_
    exact Okv.t (by omega) (tl_w hF hw (by decide) (fun s hF => Okv.t (by omega) (tl_w hF hw2 (by decide) (fun s hF => ⟨_, mr_hts_f hF, hF⟩))))
  · obtain ⟨e1, -, hk1, rfl, r1, l1, f1⟩ := h1
    refine MBl (mr_bounded (x1 := 0) (x2 := 9) hT (by rw [e1]; exact r1) (by rw [e1]; exact l1)) (fun r e s hF => ?_) (fun r a2 s2 _ h2 => ?_)
    · exact Okv.t (by omega) (tl_w hF hw (by decide) (fun s hF => Okv.t (by omega) (tl_w hF hw2 (by decide) (fun s hF => ⟨_, mr_hts_f hF, hF⟩))))
    · obtain ⟨e2, -, -, -, v2, r2, l2, f2⟩ := h2
      refine Okv.t (by omega) (Okv.bd (Okv.t (by omega) (Okv.bd ?_)))
      have F2 : frm wNmm wl0 σ s2 := f1.tr f2
      refine mr_hts (t := t) hT hsd h5 h12 hk1 7 5000 1 a2.1 (upI (fun _ => 0) 0 a2.2.1) a2.2.2 _ rfl (by omega) (by omega) (by omega) (by rw [e2]; exact (r2.wr hw (Or.inl (by decide))).wr hw2 (Or.inl (by decide))) (by rw [e2]; exact (l2.wr (by decide)).wr (by decide)) (((hn.fr F2 rfl rfl).wr (by decide)).wr (by decide)) ?_ ?_ rI_s ?_ (((F2.mono (fun _ _ => wNmm_Pt) (fun _ _ => rfl)).I (by unfold wPtm; simp)).I (by unfold wPtm; simp))
      · rw [rI_i (by decide), rI_i (by decide), F2.1 236 19 rfl]; exact hside
      · rw [rI_i (by decide), rI_i (by decide), F2.1 249 sd rfl]; exact h0
      · intro i hi
        have : i = 0 := by omega
        subst this
        rw [rI_i (by decide), Nat.add_zero, rI_s]; exact v2
theorem mr_told {t : Nat} {x1 x2 : Int32} {lt : FA} (hT : TKA b n σc) (h : RZ b n sd σc t σ) (hk : kdT b n t ≠ 0) (hl : LTM b n t σ lt) : Ok (f_X12_toldInt x1 x2 σ) (fun r s => PostM (FLM sd σc) (advS (plI b n) t >>= fun t1 => numS (kdT b n) (vlT b n) (plI b n) x1.toInt x2.toInt t1 lt >>= fun a => tkS (kdT b n) (plI b n) 4 a.1 >>= fun t2 => .ok (t2, a.2)) (fun (a : Nat × Int × FA) s => t < a.1 ∧ RZ b n sd σc a.1 s ∧ LTM b n a.1 s a.2.2 ∧ r.toInt = a.2.1 ∧ frm wNmm wl0 σ s) s) := by
  unfold f_X12_toldInt
  refine MC (mr_goesOn hT h hk) (fun e s hF => ?_) (fun t1 s1 _ h1 => ?_)
  · exact Ok.cle (mr_bounded_f hF) (Ok.cve (mr_must_f hF) (Ok.ret hF))
  · obtain ⟨rfl, -, r1, e1⟩ := h1
    have l1 : LTM b n (t + 1) s1 lt := (hl.up hk).eq (by rw [e1, rI_k (by decide)]) (by rw [e1, rI_k (by decide)])
    have f1 : frm wNmm wl0 σ s1 := by rw [e1]; exact frm.rf.I rfl
    refine MCl (mr_bounded hT r1 l1) (fun r e s hF => ?_) (fun r a s2 _ h2 => ?_)
    · exact Ok.cve (mr_must_f hF) (Ok.ret hF)
    · obtain ⟨e2, -, -, -, v2, r2, l2, f2⟩ := h2
      rw [← e2] at r2 l2
      refine MC (mr_must (x := 4) (k := 4) hT r2 rfl (by decide)) (fun e s hF => Ok.ret hF) (fun t3 s3 _ h3 => ?_)
      obtain ⟨rfl, -, hk4, r3, e3⟩ := h3
      refine Ok.ret ?_
      show t < a.1 + 1 ∧ RZ b n sd σc (a.1 + 1) s3 ∧ LTM b n (a.1 + 1) s3 a.2.2 ∧ r.toInt = a.2.1 ∧ frm wNmm wl0 σ s3
      refine ⟨by omega, r3, ?_, v2, ?_⟩
      · exact (l2.up (by rw [hk4]; decide)).eq (by rw [e3, rI_k (by decide)]) (by rw [e3, rI_k (by decide)])
      · rw [e3]; exact (f1.tr f2).I rfl
theorem mr_room {t k most : Nat} {x2 : Int32} (hT : TKA b n σc) (h : RZ b n sd σc t σ) (hk : kdT b n t ≠ 0) (hx : x2.toInt = most) (hkm : k ≤ most) (hm : most ≤ 100) : Okv (f_X12_roomFor (nI k) x2 σ) (PostM (FLM sd σc) (if k < most then advS (plI b n) t else .error (2, plI b n t)) (fun t1 s => t1 = t + 1 ∧ t < 400 ∧ RZ b n sd σc (t + 1) s ∧ s = hI σ 236 11 (nI (t + 1)))) := by
  unfold f_X12_roomFor f_X12_roomFor_10
  rw [nIt (by omega), hx]
  by_cases c : k < most
  · rw [if_pos c]
    refine Okv.f (by omega) (Okv.t h.2.2.2.2 ?_)
    exact Okv.cv (mr_goesOn hT h hk) (fun s hs => Okv.ret hs)
  · rw [if_neg c]
    refine Okv.t (by omega) (Okv.cv (mr_fail (x := 2) hT h (by decide)) (fun s hs => ?_))
    exact Okv.f (by rw [hs.1]; have := hs.2.1; omega) (Okv.ret hs)
end MPT
