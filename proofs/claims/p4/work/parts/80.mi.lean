/-! the reference's laws: the whole of one -/
section MLZ
variable {b : Nat → Int32} {n sd : Nat} {σc σ s : HS}
theorem z4m : ∀ z, z < 2 → (4 : Int32) * nI z = nI (4 * z) := by decide +kernel
def wLw2 (sd k p q a j : Nat) : Bool := wLm sd p q a j || ((a == 254 || a == 255) && j == 4 * sd + k)
theorem wLm_w {k p q a j : Nat} (e : wLw2 sd k p q a j = false) : wLm sd p q a j = false := by
  unfold wLw2 at e
  simp only [Bool.or_eq_false_iff] at e
  exact e.1
/-- what a told law leaves -/
def KLm (b : Nat → Int32) (n sd : Nat) (σc σ : HS) (t k p0 q0 : Nat) (a : Nat × LAWT) (s : HS) : Prop := t < a.1 ∧ RZ b n sd σc a.1 s ∧ s.1 236 33 = nI (p0 + a.2.1.length + 1) ∧ s.1 236 12 = 0 ∧ 4 * (p0 + a.2.1.length + 1) ≤ 520 * sd + a.1 ∧ s.1 254 (4 * sd + k) = nI p0 ∧ s.1 255 (4 * sd + k) = nI (p0 + a.2.1.length + 1) ∧ frm (wLw2 sd k p0 q0) wl0 σ s ∧ ∃ q, s.1 236 39 = nI q ∧ q0 ≤ q ∧ q ≤ 420 * sd + a.1 ∧ LWm s q0 q p0 a.2
theorem mr_ifs {p0 q0 k t0 : Nat} (hT : TKA b n σc) (hsd : sd ≤ 1) (hp0 : 130 * sd ≤ p0) (hq0 : 420 * sd ≤ q0) (hk4 : k < 4) (hside : σ.1 236 19 = nI sd) : ∀ (m N t q : Nat) (brs : List (COD × COD × COD)) (s : HS), brs.length + m = 4 → m + 1 < N → t0 < t → 4 * (p0 + brs.length) + 2 ≤ 520 * sd + t → LI1 b n sd σc σ p0 q0 brs t q s → Okv (f_X12_tellLaw_12 N (nI k) (nI p0) (nI brs.length) s) (PostM (FLM sd σc) (ifsS (kdT b n) (vlT b n) (plI b n) m brs t) (KLm b n sd σc σ t0 k p0 q0)) := by
  have fin : ∀ (t q : Nat) (brs : List (COD × COD × COD)) (s : HS), brs.length ≤ 4 → t0 < t → 4 * (p0 + brs.length) + 2 ≤ 520 * sd + t → LI1 b n sd σc σ p0 q0 brs t q s → Okv (f_X12_tellLaw_129 (nI k) (nI p0) s) (PostM (FLM sd σc) (lastS (kdT b n) (vlT b n) (plI b n) brs t) (KLm b n sd σc σ t0 k p0 q0)) := by
    intro t q brs s h4 htt hb h
    obtain ⟨hR, h33, h39, h12, ⟨hq1, hq2⟩, hbr, hf⟩ := h
    have ht := hR.2.1
    generalize hP : p0 + brs.length = p at *
    unfold f_X12_tellLaw_129 lastS
    rw [h33, nIt (by omega), Int.toNat_natCast]
    refine Okv.t (by omega) (Okv.bd ?_)
    generalize hs1 : hI s 256 p 0 = s1
    have r1 : RZ b n sd σc t s1 := by rw [← hs1]; exact hR.wr (wP_br (by omega) (by omega) (by omega) (by omega)) (Or.inl (by decide))
    have g1 : ∀ j, s1.1 236 j = s.1 236 j := fun j => by rw [← hs1, rI_i (by decide)]
    refine MB (mr_term (p := p) (q := q) hT hsd (by omega) (by omega) (by omega) r1 (by rw [g1, h33]) (by rw [g1, h39]) (by rw [g1, h12]) (by omega)) (fun e s2 hF => hF.must (Okv.t (by rw [hF.1.1]; exact hF.1.2.1) (Okv.ret hF.1))) (fun a s2 _ h2 => ?_)
    obtain ⟨d1, d2, d3, d4, d5, d6, d7, d8, d9⟩ := h2
    refine MB (mr_must (x := 4) (k := 4) hT d2 rfl (by decide)) (fun e s3 hF => Okv.t (by rw [hF.1]; exact hF.2.1) (Okv.ret hF)) (fun t3 s3 _ h3 => ?_)
    obtain ⟨rfl, h43, -, r3, e3⟩ := h3
    have si : s3.1 236 19 = nI sd := by rw [e3, rI_k (by decide), d9.1 236 19 (by unfold wTm wXm; simp), g1, hf.1 236 19 (by unfold wLm wXm; simp)]; exact hside
    refine Okv.f (by rw [r3.2.2.2.2]; omega) ?_
    rw [si, z4m sd (by omega), nI_add, nIt (by omega), Int.toNat_natCast]
    refine Okv.t (by omega) (Okv.bd ?_)
    rw [rI_i (show (236 : Nat) ≠ 254 by decide), rI_i (show (236 : Nat) ≠ 254 by decide), si, z4m sd (by omega), nI_add, nIt (by omega), Int.toNat_natCast]
    refine Okv.t (by omega) (Okv.bd ?_)
    rw [show s3.1 236 33 = nI (p + 1) by rw [e3, rI_k (by decide)]; exact d3]
    refine Okv.ret ?_
    show KLm b n sd σc σ t0 k p0 q0 (a.1 + 1, brs, a.2) _
    have w4 : wPm sd 254 (4 * sd + k) = true := by unfold wPm; simp; omega
    have w5 : wPm sd 255 (4 * sd + k) = true := by unfold wPm; simp; omega
    -- cells behind
    have o3 : ∀ i j, i ≠ 236 → (i ≠ 254 ∧ i ≠ 255) → (hI (hI s3 254 (4 * sd + k) (nI p0)) 255 (4 * sd + k) (nI (p + 1))).1 i j = s2.1 i j := fun i j h1 h2 => by rw [rI_i (by omega), rI_i (by omega), e3, rI_i (by omega)]
    have o6 : ∀ j, j ≠ 11 → (hI (hI s3 254 (4 * sd + k) (nI p0)) 255 (4 * sd + k) (nI (p + 1))).1 236 j = s2.1 236 j := fun j h1 => by rw [rI_i (by omega), rI_i (by omega), e3, rI_k h1]
    have low : ∀ i j, (i = 261 ∨ i = 262) → j < q → s2.1 i j = s.1 i j := fun i j hi hj => by
      rw [d9.1 i j (by unfold wTm wXm; rcases hi with rfl | rfl <;> simp <;> omega), ← hs1, rI_i (by omega)]
    have lowB : ∀ i j, 256 ≤ i → i ≤ 260 → j < p → s2.1 i j = s.1 i j := fun i j h1 h2 hj => by
      rw [d9.1 i j (by unfold wTm wXm; simp; omega), ← hs1]
      by_cases c : i = 256
      · subst c; rw [rI_k (by omega)]
      · rw [rI_i c]
    refine ⟨by show t0 < a.1 + 1; omega, (r3.wr w4 (Or.inl (by decide))).wr w5 (Or.inl (by decide)), ?_, ?_, ?_, ?_, ?_, ?_, q + a.2.length, ?_, by omega, by show _ ≤ 420 * sd + (a.1 + 1); omega, fun i hi => ?_, ?_⟩
    · rw [o6 33 (by decide)]; rw [d3, ← hP]
    · rw [o6 12 (by decide)]; exact d5
    · show 4 * (p0 + brs.length + 1) ≤ 520 * sd + (a.1 + 1); omega
    · rw [rI_i (by decide), rI_s]
    · rw [rI_s, ← hP]
    · refine ((?_ : frm (wLw2 sd k p0 q0) wl0 σ s3).I (by unfold wLw2; simp)).I (by unfold wLw2; simp)
      rw [e3]
      refine frm.I ?_ (by unfold wLw2 wLm wXm; simp)
      refine frm.tr (frm.tr (hf.mono (fun _ _ => wLm_w) (fun _ e => e)) (?_ : frm (wLw2 sd k p0 q0) wl0 s s1)) (d9.mono (fun _ _ e => wTm_L (by omega) (by omega) (by omega) (wLm_w e)) (fun _ e => e))
      rw [← hs1]
      exact frm.rf.I (by unfold wLw2; rw [wL_br (by omega) (by omega) (by omega) (by omega)]; rfl)
    · rw [o6 39 (by decide)]; exact d4
    · have hi : i < brs.length := hi
      refine (hbr i hi).mono (by omega) (fun j h1 h2 => ⟨?_, ?_⟩) (fun x h1 h2 => ?_)
      · rw [o3 261 j (by decide) (by decide), low 261 j (by omega) h2]
      · rw [o3 262 j (by decide) (by decide), low 262 j (by omega) h2]
      · rw [o3 x _ (by omega) (by omega), lowB x _ h1 h2 (by omega)]
    · show BRe _ q0 (q + a.2.length) (p0 + brs.length) a.2
      rw [hP]
      unfold BRe
      rw [o3 256 p (by decide) (by decide), o3 259 p (by decide) (by decide), o3 260 p (by decide) (by decide)]
      refine ⟨?_, ?_⟩
      · rw [d9.1 256 p (by unfold wTm wXm; simp), ← hs1, rI_s]
      · obtain ⟨z, z1, z2, z3, z4, z5, z6⟩ := d7
        exact ⟨z, by omega, z2, z3, z4, z5.same (fun j _ _ => o3 261 j (by decide) (by decide)), z6.same (fun j _ _ => o3 262 j (by decide) (by decide))⟩
  intro m
  induction m with
  | zero =>
    intro N t q brs s hm hN htt hb h
    obtain ⟨N, rfl⟩ : ∃ z, N = z + 1 := ⟨N - 1, by omega⟩
    show Okv (b_X12_tellLaw_12 (f_X12_tellLaw_12 N) (nI k) (nI p0) (nI brs.length) s) (PostM _ (if kdT b n t = 28 then .error (2, plI b n t) else _) _)
    unfold b_X12_tellLaw_12
    refine Okv.t h.1.2.2.2.2 (Okv.cle (mr_is hT h.1) ?_)
    by_cases c : kdT b n t = 28
    · rw [if_pos c, show (decide (kdT b n t = (28 : Int32).toInt)) = true from decide_eq_true c, nIt (by omega)]
      refine Okv.f (by decide) (Okv.t (by omega) (Okv.cv (mr_fail (x := 2) hT h.1 (by decide)) (fun s2 hF => ?_)))
      unfold f_X12_tellLaw_38
      exact Okv.t (by rw [hF.1]; exact hF.2.1) (Okv.ret hF)
    · rw [if_neg c, show (decide (kdT b n t = (28 : Int32).toInt)) = false from decide_eq_false c]
      exact Okv.t (by decide) (fin t q brs s (by omega) htt hb h)
  | succ m ih =>
    intro N t q brs s hm hN htt hb h
    obtain ⟨N, rfl⟩ : ∃ z, N = z + 1 + 1 := ⟨N - 2, by omega⟩
    have ht := h.1.2.1
    show Okv (b_X12_tellLaw_12 (f_X12_tellLaw_12 (N + 1)) (nI k) (nI p0) (nI brs.length) s) (PostM _ (if kdT b n t = 28 then _ else _) _)
    unfold b_X12_tellLaw_12
    refine Okv.t h.1.2.2.2.2 (Okv.cle (mr_is hT h.1) ?_)
    by_cases c : kdT b n t = 28
    · rw [if_pos c, show (decide (kdT b n t = (28 : Int32).toInt)) = true from decide_eq_true c, nIt (by omega)]
      refine Okv.f (by decide) (Okv.f (by omega) ?_)
      refine mr_cond (G := fun x t' => ifsS (kdT b n) (vlT b n) (plI b n) m (brs ++ [x]) t') hT hsd hp0 (by omega) hq0 c h (fun x t' q' s' h7 h' => ?_)
      rw [nI_1]
      have := ih (N + 1) t' q' (brs ++ [x]) s' (by rw [List.length_append]; simp; omega) (by omega) (by omega) (by rw [List.length_append]; simp; omega) h'
      rw [List.length_append] at this
      exact this
    · rw [if_neg c, show (decide (kdT b n t = (28 : Int32).toInt)) = false from decide_eq_false c]
      exact Okv.t (by decide) (fin t q brs s (by omega) htt hb h)
theorem mr_law {p0 q0 k t : Nat} (hT : TKA b n σc) (hsd : sd ≤ 1) (hp0 : 130 * sd ≤ p0) (hq0 : 420 * sd ≤ q0) (hk4 : k < 4) (hside : σ.1 236 19 = nI sd) (h : RZ b n sd σc t σ) (hk : kdT b n t = ((22 + k : Nat) : Int)) (h33 : σ.1 236 33 = nI p0) (h39 : σ.1 236 39 = nI q0) (h12 : σ.1 236 12 = 0) (hp : 4 * p0 ≤ 520 * sd + t) (hq : q0 ≤ 420 * sd + t) : Okv (f_X12_tellOne_188 (nI k) σ) (PostM (FLM sd σc) (lawS (kdT b n) (vlT b n) (plI b n) (kdT b n t) t) (KLm b n sd σc σ t k p0 q0)) := by
  have ht := h.2.1
  unfold f_X12_tellOne_188 lawS
  refine Okv.f (by rw [h.2.2.2.2]; omega) ?_
  have e0 : tkS (kdT b n) (plI b n) (kdT b n t) t = advS (plI b n) t := by unfold tkS; rw [if_pos rfl]
  rw [e0]
  have tl : ∀ (e : FA) (s2 : HS), FB sd σc (nI p0) e s2 → Okv (Bd (s2.1 236 33) fun z3 => f_X12_tellLaw_12 5000 (nI k) z3 0 s2) (FLM sd σc e) := fun e s2 hF => Okv.bd (law12_f hp0 (by omega) hsd hF)
  refine MB (mr_goesOn2 hT h (by omega)) (fun e s1 hF => ?_) (fun t1 s1 _ h1 => ?_)
  · unfold f_X12_tellLaw
    have hB := FB.gow hF.1 hF.2 h33
    exact Okv.cv (hB.must (tl e s1 hB)) (fun s2 h2 => Okv.ret h2)
  · obtain ⟨rfl, h4, r1, e1⟩ := h1
    unfold f_X12_tellLaw
    have g1 : ∀ j, j ≠ 11 → s1.1 236 j = σ.1 236 j := fun j hj => by rw [e1, rI_k hj]
    have mm := mr_must2 (x := 5) (k := 5) hT r1 rfl (by decide)
    rw [g1 33 (by decide), h33] at mm
    refine Okv.cv (P := PostM (FLM sd σc) (tkS (kdT b n) (plI b n) 5 (t + 1) >>= fun t => ifsS (kdT b n) (vlT b n) (plI b n) 4 [] t) (KLm b n sd σc σ t k p0 q0)) (MB mm (fun e s2 hF => tl e s2 hF) (fun t2 s2 _ h2 => ?_)) (fun s2 h2 => Okv.ret h2)
    obtain ⟨rfl, h42, -, r2, e2⟩ := h2
    have g2 : ∀ j, j ≠ 11 → s2.1 236 j = σ.1 236 j := fun j hj => by rw [e2, rI_k hj, g1 j hj]
    refine Okv.bd ?_
    rw [g2 33 (by decide), h33]
    refine mr_ifs (t0 := t) hT hsd hp0 hq0 hk4 hside 4 5000 (t + 1 + 1) q0 [] s2 rfl (by omega) (by omega) (by simp; omega) ⟨r2, by rw [g2 33 (by decide)]; exact h33, by rw [g2 39 (by decide)]; exact h39, by rw [g2 12 (by decide)]; exact h12, ⟨by omega, by omega⟩, fun i hi => absurd hi (by simp), ?_⟩
    rw [e2, e1]
    exact (frm.rf.I (by unfold wLm wXm; simp)).I (by unfold wLm wXm; simp)
end MLZ
