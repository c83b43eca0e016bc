/-! the reference's laws: the branches -/
section MLX
variable {b : Nat → Int32} {n sd : Nat} {σc σ s : HS}
/-- what stands while a law is told: j ifs told -/
def LI1 (b : Nat → Int32) (n sd : Nat) (σc σ : HS) (p0 q0 : Nat) (brs : List (COD × COD × COD)) (t q : Nat) (s : HS) : Prop := RZ b n sd σc t s ∧ s.1 236 33 = nI (p0 + brs.length) ∧ s.1 236 39 = nI q ∧ s.1 236 12 = 0 ∧ (q0 ≤ q ∧ q ≤ 420 * sd + t) ∧ (∀ i (h : i < brs.length), BRm s q0 q (p0 + i) brs[i]) ∧ frm (wLm sd p0 q0) wl0 σ s
theorem mr_must2 {t : Nat} {x : Int32} {k : Int} (hT : TKA b n σc) (h : RZ b n sd σc t s) (hx : x.toInt = k) (h0 : k ≠ 0) : Okv (f_X12_must x s) (PostM (fun e s1 => FB sd σc (s.1 236 33) e s1) (tkS (kdT b n) (plI b n) k t) (fun t1 s1 => t1 = t + 1 ∧ t < 400 ∧ kdT b n t = k ∧ RZ b n sd σc (t + 1) s1 ∧ s1 = hI s 236 11 (nI (t + 1)))) := by
  subst hx
  unfold f_X12_must tkS
  refine Okv.cle (mr_is hT h) ?_
  by_cases c : kdT b n t = x.toInt
  · rw [if_pos c, decide_eq_true c]
    refine Okv.f (by decide) (Okv.cv (mr_goesOn2 hT h (by rw [c]; exact h0)) (fun s1 hs => Okv.ret ?_))
    revert hs
    cases advS (plI b n) t with
    | error e => exact fun hs => FB.gow hs.1 hs.2 rfl
    | ok a => exact fun hs => ⟨hs.1, hs.2.1, c, hs.2.2⟩
  · rw [if_neg c, decide_eq_false c]
    exact Okv.t (by decide) (Okv.cv (mr_fail2 (x := 1) hT h (by decide)) (fun s1 hs => Okv.ret (FB.gow hs.1 hs.2 rfl)))
theorem mr_cond {p0 q0 t q N : Nat} {y1 y2 y3 : Int32} {brs : List (COD × COD × COD)} {G : COD × COD × COD → Nat → Except FA (Nat × LAWT)} {K : Nat × LAWT → HS → Prop} (hT : TKA b n σc) (hsd : sd ≤ 1) (hp0 : 130 * sd ≤ p0) (hp : p0 + brs.length + 1 < 130 * sd + 130) (hq0 : 420 * sd ≤ q0) (hk : kdT b n t = 28) (h : LI1 b n sd σc σ p0 q0 brs t q s) (next : ∀ (x : COD × COD × COD) (t' q' : Nat) (s' : HS), t + 7 ≤ t' → LI1 b n sd σc σ p0 q0 (brs ++ [x]) t' q' s' → Okv (f_X12_tellLaw_12 (N + 1) y1 y2 (y3 + 1) s') (PostM (FLM sd σc) (G x t') K)) : Okv (f_X12_tellLaw_38 (f_X12_tellLaw_12 (N + 1)) y1 y2 y3 s) (PostM (FLM sd σc) (condS (kdT b n) (vlT b n) (plI b n) t >>= fun a => G a.2 a.1) K) := by
  obtain ⟨hR, h33, h39, h12, ⟨hq1, hq2⟩, hbr, hf⟩ := h
  have ht := hR.2.1
  generalize hP : p0 + brs.length = p at *
  unfold f_X12_tellLaw_38
  refine Okv.f (by rw [hR.2.2.2.2]; omega) (Okv.bd ?_)
  unfold condS
  have e28 : tkS (kdT b n) (plI b n) 28 t = advS (plI b n) t := by unfold tkS; rw [if_pos hk]
  rw [e28]
  -- the tails when a fault came
  have T3 : ∀ (e : FA) (s8 : HS), FB sd σc (nI p) e s8 → Okv (if 0 ≤ (s8.1 236 33).toInt ∧ (s8.1 236 33).toInt < 260 then Bd (hI s8 258 (s8.1 236 33).toInt.toNat (s8.1 236 39)) fun σ10 => if (σ10.1 236 13).toInt = 0 then Cv (f_X12_expression σ10) fun σ11 => f_X12_tellLaw_110 (f_X12_tellLaw_12 (N + 1)) y1 y2 (y3 + 1) σ11 else f_X12_tellLaw_110 (f_X12_tellLaw_12 (N + 1)) y1 y2 (y3 + 1) σ10 else none) (FLM sd σc e) := by
    intro e s8 hF
    rw [hF.2, nIt (by omega), Int.toNat_natCast]
    refine Okv.t (by omega) (Okv.bd ?_)
    have hF2 := hF.wr (a := 258) (k := p) (x := s8.1 236 39) (wP_br (by omega) (by omega) (by omega) (by omega)) (Or.inl (by decide))
    exact Okv.f (by rw [hF2.1.1]; have := hF2.1.2.1; omega) (law110_f (by omega) (by omega) hsd hF2)
  show Okv _ (PostM _ ((advS (plI b n) t >>= fun t => exS (kdT b n) (vlT b n) (plI b n) t >>= fun a => tkS (kdT b n) (plI b n) 13 a.1 >>= fun t => exS (kdT b n) (vlT b n) (plI b n) t >>= fun b1 => tkS (kdT b n) (plI b n) 29 b1.1 >>= fun t => exS (kdT b n) (vlT b n) (plI b n) t >>= fun c => tkS (kdT b n) (plI b n) 30 c.1 >>= fun t => .ok (t, a.2, b1.2, c.2)) >>= fun a => G a.2 a.1) _)
  have as : ∀ {α β γ : Type} (x : Except FA α) (y : α → Except FA β) (z : β → Except FA γ), ((x >>= y) >>= z) = (x >>= fun a => y a >>= z) := fun x y z => by cases x <;> rfl
  rw [as]
  refine MB (mr_goesOn2 hT hR (by rw [hk]; decide)) (fun e s2 hF => ?_) (fun t1 s2 _ h2 => ?_)
  · have hb := FB.gow hF.1 hF.2 h33
    rw [hb.2, nIt (by omega), Int.toNat_natCast]
    refine Okv.t (by omega) (Okv.bd ?_)
    have hb2 := hb.wr (a := 256) (k := p) (x := 1) (wP_br (by omega) (by omega) (by omega) (by omega)) (Or.inl (by decide))
    rw [hb2.2, nIt (by omega), Int.toNat_natCast]
    refine Okv.t (by omega) (Okv.bd ?_)
    have hb3 := hb2.wr (a := 257) (k := p) (x := (hI s2 256 p 1).1 236 39) (wP_br (by omega) (by omega) (by omega) (by omega)) (Or.inl (by decide))
    refine Okv.cv (mr_ex_f hb3) (fun s6 hF6 => hF6.must (T3 e s6 hF6))
  obtain ⟨rfl, h4, r2, e2⟩ := h2
  have e33 : s2.1 236 33 = nI p := by rw [e2, rI_k (by decide)]; exact h33
  have e39 : s2.1 236 39 = nI q := by rw [e2, rI_k (by decide)]; exact h39
  have e12 : s2.1 236 12 = 0 := by rw [e2, rI_k (by decide)]; exact h12
  rw [e33, nIt (by omega), Int.toNat_natCast]
  refine Okv.t (by omega) (Okv.bd ?_)
  rw [rI_i (show (236 : Nat) ≠ 256 by decide), rI_i (show (236 : Nat) ≠ 256 by decide), e33, e39, nIt (by omega), Int.toNat_natCast]
  refine Okv.t (by omega) (Okv.bd ?_)
  generalize hs3 : hI (hI s2 256 p 1) 257 p (nI q) = s3
  have r3 : RZ b n sd σc (t + 1) s3 := by rw [← hs3]; exact (r2.wr (wP_br (by omega) (by omega) (by omega) (by omega)) (Or.inl (by decide))).wr (wP_br (by omega) (by omega) (by omega) (by omega)) (Or.inl (by decide))
  have g : ∀ k, s3.1 236 k = s2.1 236 k := fun k => by rw [← hs3, rI_i (by decide), rI_i (by decide)]
  have f3 : frm (wLm sd p q0) wl0 s s3 := by
    rw [← hs3, e2]
    exact ((frm.rf.I (by unfold wLm wXm; simp)).I (wL_br (by omega) (by omega) (by omega) (by omega))).I (wL_br (by omega) (by omega) (by omega) (by omega))
  -- the left side
  have mx := mr_exS (q0 := q) hT hsd (by omega) r3 (by rw [g, e39]) (by rw [g, e12]) (by omega)
  rw [g, e33] at mx
  rw [as]
  refine MB mx (fun e s6 hF6 => hF6.must (T3 e s6 hF6)) (fun a s6 _ h6 => ?_)
  obtain ⟨a1, a2, a3, a4, a5, a6, a7, a8⟩ := h6
  have e33a : s6.1 236 33 = nI p := by rw [a8.1 236 33 (by unfold wXm; simp), g, e33]
  have mm := mr_must2 (x := 13) (k := 13) hT a2 rfl (by decide)
  rw [e33a] at mm
  rw [as]
  refine MB mm (fun e s8 hF8 => T3 e s8 hF8) (fun t8 s8 _ h8 => ?_)
  obtain ⟨rfl, h48, -, r8, e8⟩ := h8
  have e33b : s8.1 236 33 = nI p := by rw [e8, rI_k (by decide)]; exact e33a
  have e39b : s8.1 236 39 = nI (q + a.2.length) := by rw [e8, rI_k (by decide)]; exact a3
  rw [e33b, e39b, nIt (by omega), Int.toNat_natCast]
  refine Okv.t (by omega) (Okv.bd ?_)
  generalize hs10 : hI s8 258 p (nI (q + a.2.length)) = s10
  have r10 : RZ b n sd σc (a.1 + 1) s10 := by rw [← hs10]; exact r8.wr (wP_br (by omega) (by omega) (by omega) (by omega)) (Or.inl (by decide))
  have g10 : ∀ k, s10.1 236 k = s8.1 236 k := fun k => by rw [← hs10, rI_i (by decide)]
  refine Okv.t r10.2.2.2.2 ?_
  -- the right side
  have mx2 := mr_exS (q0 := q + a.2.length) hT hsd (by omega) r10 (by rw [g10, e39b]) (by rw [g10, e8, rI_k (by decide)]; exact a6) (by omega)
  rw [g10, e33b] at mx2
  rw [as]
  refine MB mx2 (fun e s11 hF => law110_f (by omega) (by omega) hsd hF) (fun a' s11 _ h11 => ?_)
  obtain ⟨c1, c2, c3, c4, c5, c6, c7, c8⟩ := h11
  have e33c : s11.1 236 33 = nI p := by rw [c8.1 236 33 (by unfold wXm; simp), g10, e33b]
  unfold f_X12_tellLaw_110
  have mm2 := mr_must2 (x := 29) (k := 29) hT c2 rfl (by decide)
  rw [e33c] at mm2
  rw [as]
  refine MB mm2 (fun e s12 hF => Okv.cv (mr_term_f (by omega) (by omega) hsd hF) (fun s13 hF2 => hF2.must (law12_f (by omega) (by omega) hsd hF2))) (fun t12 s12 _ h12' => ?_)
  obtain ⟨rfl, h412, -, r12, e12'⟩ := h12'
  have g12 : ∀ k, k ≠ 11 → s12.1 236 k = s11.1 236 k := fun k hk => by rw [e12', rI_k hk]
  rw [as]
  refine MB (mr_term (p := p) (q := q + a.2.length + a'.2.length) hT hsd (by omega) (by omega) (by omega) r12 (by rw [g12 33 (by decide), e33c]) (by rw [g12 39 (by decide), c3]) (by rw [g12 12 (by decide), c6]) (by omega)) (fun e s13 hF => hF.must (law12_f (by omega) (by omega) hsd hF)) (fun a'' s13 _ h13 => ?_)
  obtain ⟨d1, d2, d3, d4, d5, d6, d7, d8, d9⟩ := h13
  have mm3 := mr_must2 (x := 30) (k := 30) hT d2 rfl (by decide)
  rw [d3] at mm3
  rw [as]
  refine MB mm3 (fun e s14 hF => law12_f (by omega) (by omega) hsd hF) (fun t14 s14 _ h14 => ?_)
  obtain ⟨rfl, h414, -, r14, e14⟩ := h14
  show Okv _ (PostM _ (G (a.2, a'.2, a''.2) (a''.1 + 1)) K)
  -- what the cells hold
  have o14 : ∀ i k, i ≠ 236 → s14.1 i k = s13.1 i k := fun i k hi => by rw [e14, rI_i hi]
  have o12 : ∀ i k, i ≠ 236 → s12.1 i k = s11.1 i k := fun i k hi => by rw [e12', rI_i hi]
  have o8 : ∀ i k, i ≠ 236 → s8.1 i k = s6.1 i k := fun i k hi => by rw [e8, rI_i hi]
  have tm : ∀ i k, 256 ≤ i → i ≤ 258 → s13.1 i k = s12.1 i k := fun i k h1 h2 => d9.1 i k (by unfold wTm wXm; simp; omega)
  have xm1 : ∀ i k, 256 ≤ i → i ≤ 260 → s11.1 i k = s10.1 i k := fun i k h1 h2 => c8.1 i k (by unfold wXm; simp; omega)
  have xm0 : ∀ i k, 256 ≤ i → i ≤ 260 → s6.1 i k = s3.1 i k := fun i k h1 h2 => a8.1 i k (by unfold wXm; simp; omega)
  have q256 : s14.1 256 p = 1 := by rw [o14 _ _ (by decide), tm _ _ (by omega) (by omega), o12 _ _ (by decide), xm1 _ _ (by omega) (by omega), ← hs10, rI_i (by decide), o8 _ _ (by decide), xm0 _ _ (by omega) (by omega), ← hs3, rI_i (by decide), rI_s]
  have q257 : s14.1 257 p = nI q := by rw [o14 _ _ (by decide), tm _ _ (by omega) (by omega), o12 _ _ (by decide), xm1 _ _ (by omega) (by omega), ← hs10, rI_i (by decide), o8 _ _ (by decide), xm0 _ _ (by omega) (by omega), ← hs3, rI_s]
  have q258 : s14.1 258 p = nI (q + a.2.length) := by rw [o14 _ _ (by decide), tm _ _ (by omega) (by omega), o12 _ _ (by decide), xm1 _ _ (by omega) (by omega), ← hs10, rI_s]
  have q259 : s14.1 259 p = nI (q + a.2.length + a'.2.length) := by rw [o14 _ _ (by decide)]; exact d8
  -- codes stay below what is written later
  have cT : ∀ i k, (i = 261 ∨ i = 262) → k < q + a.2.length + a'.2.length → s14.1 i k = s11.1 i k := fun i k hi hk => by
    rw [o14 _ _ (by omega), d9.1 i k (by unfold wTm wXm; rcases hi with rfl | rfl <;> simp <;> omega), o12 _ _ (by omega)]
  have cR : ∀ i k, (i = 261 ∨ i = 262) → k < q + a.2.length → s11.1 i k = s6.1 i k := fun i k hi hk => by
    rw [c8.1 i k (by unfold wXm; rcases hi with rfl | rfl <;> simp <;> omega), ← hs10, rI_i (by omega), o8 _ _ (by omega)]
  have cL : ∀ i k, (i = 261 ∨ i = 262) → k < q → s6.1 i k = s.1 i k := fun i k hi hk => by
    rw [a8.1 i k (by unfold wXm; rcases hi with rfl | rfl <;> simp <;> omega), ← hs3, rI_i (by omega), rI_i (by omega), e2, rI_i (by omega)]
  have lowB : ∀ i k, 256 ≤ i → i ≤ 260 → k < p → s14.1 i k = s.1 i k := fun i k h1 h2 hk => by
    rw [o14 _ _ (by omega), d9.1 i k (by unfold wTm wXm; simp; omega), o12 _ _ (by omega), xm1 _ _ h1 h2, ← hs10]
    have e1 : (hI s8 258 p (nI (q + a.2.length))).1 i k = s8.1 i k := by
      by_cases c : i = 258
      · subst c; rw [rI_k (by omega)]
      · rw [rI_i c]
    rw [e1, o8 _ _ (by omega), xm0 _ _ h1 h2, ← hs3]
    have e3 : (hI (hI s2 256 p 1) 257 p (nI q)).1 i k = s2.1 i k := by
      by_cases c : i = 257
      · subst c; rw [rI_k (by omega), rI_i (by decide)]
      · rw [rI_i c]
        by_cases c2 : i = 256
        · subst c2; rw [rI_k (by omega)]
        · rw [rI_i c2]
    rw [e3, e2, rI_i (by omega)]
  refine next (a.2, a'.2, a''.2) (a''.1 + 1) (q + a.2.length + a'.2.length + a''.2.length) s14 (by omega) ⟨r14, ?_, ?_, ?_, ⟨by omega, by omega⟩, ?_, ?_⟩
  · rw [e14, rI_k (by decide), d3, List.length_append, ← hP]; rfl
  · rw [e14, rI_k (by decide)]; exact d4
  · rw [e14, rI_k (by decide)]; exact d5
  · intro i hi
    rw [List.length_append] at hi
    simp only [List.length_singleton] at hi
    by_cases c : i < brs.length
    · rw [List.getElem_append_left c]
      refine (hbr i c).mono (by omega) (fun k h1 h2 => ?_) (fun a h1 h2 => lowB a _ h1 h2 (by omega))
      refine ⟨?_, ?_⟩
      · rw [cT 261 k (by omega) (by omega), cR 261 k (by omega) (by omega), cL 261 k (by omega) (by omega)]
      · rw [cT 262 k (by omega) (by omega), cR 262 k (by omega) (by omega), cL 262 k (by omega) (by omega)]
    · have ei : i = brs.length := by omega
      subst ei
      rw [List.getElem_append_right (Nat.le_refl _), hP]
      simp only [Nat.sub_self, List.getElem_cons_zero]
      unfold BRm
      rw [q256, q257, q258, q259]
      refine ⟨rfl, ⟨q, by omega, by show q + a.2.length ≤ _; omega, rfl, rfl, ?_, ?_⟩, ⟨q + a.2.length, by omega, by show q + a.2.length + a'.2.length ≤ _; omega, rfl, rfl, ?_, ?_⟩, ?_⟩
      · exact a4.same (fun k _ h2 => by rw [cK_len] at h2; rw [cT 261 k (by omega) (by omega), cR 261 k (by omega) (by omega)])
      · exact a5.same (fun k _ h2 => by rw [cV_len] at h2; rw [cT 262 k (by omega) (by omega), cR 262 k (by omega) (by omega)])
      · exact c4.same (fun k _ h2 => by rw [cK_len] at h2; rw [cT 261 k (by omega) (by omega)])
      · exact c5.same (fun k _ h2 => by rw [cV_len] at h2; rw [cT 262 k (by omega) (by omega)])
      · obtain ⟨z, z1, z2, z3, z4, z5, z6⟩ := d7
        rw [d8] at z3
        have zq : z = q + a.2.length + a'.2.length := by
          have := congrArg Int32.toInt z3
          rw [nIt (by omega), nIt (by omega)] at this
          omega
        subst zq
        rw [o14 260 p (by decide), z4]
        exact ⟨_, by omega, by omega, rfl, rfl, z5.same (fun k _ _ => by rw [o14 _ _ (by decide)]), z6.same (fun k _ _ => by rw [o14 _ _ (by decide)])⟩
  · have F : frm (wLm sd p q0) wl0 s s14 := by
      rw [e14]
      refine frm.I ?_ (by unfold wLm wXm; simp)
      refine frm.tr ?_ (d9.mono (fun _ _ => wTm_L (by omega) (by omega) (by omega)) (fun _ e => e))
      rw [e12']
      refine frm.I ?_ (by unfold wLm wXm; simp)
      refine frm.tr ?_ (c8.mono (fun _ _ => wXm_L (by omega)) (fun _ e => e))
      rw [← hs10]
      refine frm.I ?_ (wL_br (by omega) (by omega) (by omega) (by omega))
      rw [e8]
      refine frm.I ?_ (by unfold wLm wXm; simp)
      exact f3.tr (a8.mono (fun _ _ => wXm_L (by omega)) (fun _ e => e))
    refine hf.tr (F.mono (fun x k e => ?_) (fun _ e => e))
    unfold wLm at e ⊢
    simp only [Bool.or_eq_false_iff] at e ⊢
    refine ⟨e.1, ?_⟩
    have e := e.2
    cases c : (x == 256 || x == 257 || x == 258 || x == 259 || x == 260) with
    | false => rfl
    | true => rw [c] at e; simp at e ⊢; omega
end MLX
