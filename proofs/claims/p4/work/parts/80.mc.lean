/-! the reference's things -/
section MTH
variable {b : Nat → Int32} {n sd : Nat} {σc σ : HS}
theorem tl_w {e : FA} {a k : Nat} {v : Int32} {f : HS → Option HS} {Q : HS → Prop} (h : FLM sd σc e σ) (hw : wPm sd a k = true) (h1 : a ≠ 236) (k1 : ∀ s, FLM sd σc e s → Okv (f s) Q) : Okv (Bd (hI σ a k v) f) Q := k1 _ (h.wr hw (Or.inl h1))
def wThm (sd i a k : Nat) : Bool := (a == 236 && (k == 11 || k == 13 || k == 14 || k == 15 || k == 16 || k == 20)) || (a == 245 && k == sd) || ((a == 246 || a == 247 || a == 248) && k == 7 * sd + i)
theorem wNmm_Th {i a k : Nat} (h : wThm sd i a k = false) : wNmm a k = false := by
  unfold wThm at h
  unfold wNmm
  simp only [Bool.or_eq_false_iff] at h
  have h1 := h.1.1
  cases e : (a == 236) with
  | false => rfl
  | true => rw [e] at h1; simp at h1 ⊢; omega
theorem wEn_Th {i a k : Nat} (h : wThm sd i a k = false) : wEn a k = false := by
  unfold wThm at h
  unfold wEn
  simp only [Bool.or_eq_false_iff] at h
  have h1 := h.1.1
  cases e : (a == 236) with
  | false => rfl
  | true => rw [e] at h1; simp at h1 ⊢; omega
theorem wPm_row {a i : Nat} (ha : a = 246 ∨ a = 247 ∨ a = 248) (hi : i < 7) : wPm sd a (7 * sd + i) = true := by
  unfold wPm
  rcases ha with rfl | rfl | rfl <;> simp <;> omega
theorem mr_thing {t nT nc : Nat} {ns : Nat → Int64} {lt : FA} (hT : TKA b n σc) (hsd : sd ≤ 1) (h : RZ b n sd σc t σ) (hl : LTM b n t σ lt) (hn : NMM σ nc ns) (h12 : nc < 12) (hside : σ.1 236 19 = nI sd) (h0 : σ.1 245 sd = nI nT) (h7 : nT < 7) : Okv (f_X12_tellThing σ) (PostM (FLM sd σc) (nameS (kdT b n) (plI b n) (nmT b n) t nc ns lt >>= fun a => numS (kdT b n) (vlT b n) (plI b n) 1 9 a.1 a.2 >>= fun b1 => numS (kdT b n) (vlT b n) (plI b n) 0 9 b1.1 b1.2.2 >>= fun c => numS (kdT b n) (vlT b n) (plI b n) 0 9 c.1 c.2.2 >>= fun d => tkS (kdT b n) (plI b n) 4 d.1 >>= fun t2 => .ok (t2, (b1.2.1, c.2.1, d.2.1), d.2.2)) (fun (a : Nat × (Int × Int × Int) × FA) s => t < a.1 ∧ RZ b n sd σc a.1 s ∧ LTM b n a.1 s a.2.2 ∧ NMM s (nc + 1) (upN ns nc (nmT b n t)) ∧ s.1 245 sd = nI (nT + 1) ∧ (s.1 246 (7 * sd + nT)).toInt = a.2.1.1 ∧ (s.1 247 (7 * sd + nT)).toInt = a.2.1.2.1 ∧ (s.1 248 (7 * sd + nT)).toInt = a.2.1.2.2 ∧ frm (wThm sd nT) wlPm σ s)) := by
  have z7 : ((7 : Int32) * nI sd + nI nT) = nI (7 * sd + nT) := by
    rcases (show sd = 0 ∨ sd = 1 by omega) with rfl | rfl
    · rw [show (7 : Int32) * nI 0 = nI 0 from rfl, nI_add]
    · rw [show (7 : Int32) * nI 1 = nI 7 from rfl, nI_add]
  have hwp_246 : wPm sd 246 (7 * sd + nT) = true := wPm_row (by omega) h7
  have hwp_247 : wPm sd 247 (7 * sd + nT) = true := wPm_row (by omega) h7
  have hwp_248 : wPm sd 248 (7 * sd + nT) = true := wPm_row (by omega) h7
  unfold f_X12_tellThing
  rw [hside, nIt (by omega), Int.toNat_natCast, h0, z7]
  refine Okv.t (by omega) (Okv.bd ?_)
  rw [nIt (by omega), Int.toNat_natCast]
  refine Okv.cl (mr_named hT h hl hn) (fun r s1 h1 => ?_)
  revert h1
  cases ex1 : nameS (kdT b n) (plI b n) (nmT b n) t nc ns lt with
  | error e =>
    intro hF
    show Okv _ (FLM sd σc e)
    refine Okv.cle (mr_bounded_f hF) ?_
    refine Okv.t (by omega) ?_
    refine tl_w hF (a := 246) (k := 7 * sd + nT) (hwp_246) (by decide) (fun _ hF => ?_)
    refine Okv.cle (mr_bounded_f hF) ?_
    refine Okv.t (by omega) ?_
    refine tl_w hF (a := 247) (k := 7 * sd + nT) (hwp_247) (by decide) (fun _ hF => ?_)
    refine Okv.cle (mr_bounded_f hF) ?_
    refine Okv.t (by omega) ?_
    refine tl_w hF (a := 248) (k := 7 * sd + nT) (hwp_248) (by decide) (fun _ hF => ?_)
    refine Okv.cve (mr_ends_f hF) ?_
    exact Okv.f (by rw [hF.1]; have := hF.2.1; omega) (Okv.ret hF)
  | ok a1 =>
  rintro ⟨e1, -, hk1, rfl, r1, l1, f1⟩
  have n1 := hn.fr f1 rfl rfl
  refine Okv.cl (mr_bounded (x1 := 1) (x2 := 9) hT r1 l1) (fun v2 s2 h2 => ?_)
  show Okv _ (PostM _ (numS (kdT b n) (vlT b n) (plI b n) 1 9 a1.1 a1.2 >>= _) _)
  rw [← e1] at h2
  revert h2
  show PostM _ (numS (kdT b n) (vlT b n) (plI b n) 1 9 a1.1 a1.2) _ _ → _
  cases ex2 : numS (kdT b n) (vlT b n) (plI b n) 1 9 a1.1 a1.2 with
  | error e =>
    intro hF
    show Okv _ (FLM sd σc e)
    refine Okv.t (by omega) ?_
    refine tl_w hF (a := 246) (k := 7 * sd + nT) (hwp_246) (by decide) (fun _ hF => ?_)
    refine Okv.cle (mr_bounded_f hF) ?_
    refine Okv.t (by omega) ?_
    refine tl_w hF (a := 247) (k := 7 * sd + nT) (hwp_247) (by decide) (fun _ hF => ?_)
    refine Okv.cle (mr_bounded_f hF) ?_
    refine Okv.t (by omega) ?_
    refine tl_w hF (a := 248) (k := 7 * sd + nT) (hwp_248) (by decide) (fun _ hF => ?_)
    refine Okv.cve (mr_ends_f hF) ?_
    exact Okv.f (by rw [hF.1]; have := hF.2.1; omega) (Okv.ret hF)
  | ok a2 =>
  rintro ⟨e2, -, -, -, v2', r2, l2, f2⟩
  refine Okv.t (by omega) (Okv.bd ?_)
  generalize hs3 : hI s2 246 (7 * sd + nT) v2 = s3
  have r3 : RZ b n sd σc (a1.1 + 1) s3 := by rw [← hs3]; exact r2.wr hwp_246 (Or.inl (by decide))
  have l3 : LTM b n (a1.1 + 1) s3 a2.2.2 := by rw [← hs3]; exact l2.wr (by decide)
  refine Okv.cl (mr_bounded (x1 := 0) (x2 := 9) hT r3 l3) (fun v4 s4 h4 => ?_)
  show Okv _ (PostM _ (numS (kdT b n) (vlT b n) (plI b n) 0 9 a2.1 a2.2.2 >>= _) _)
  rw [← e2] at h4
  revert h4
  show PostM _ (numS (kdT b n) (vlT b n) (plI b n) 0 9 a2.1 a2.2.2) _ _ → _
  cases ex4 : numS (kdT b n) (vlT b n) (plI b n) 0 9 a2.1 a2.2.2 with
  | error e =>
    intro hF
    show Okv _ (FLM sd σc e)
    refine Okv.t (by omega) ?_
    refine tl_w hF (a := 247) (k := 7 * sd + nT) (hwp_247) (by decide) (fun _ hF => ?_)
    refine Okv.cle (mr_bounded_f hF) ?_
    refine Okv.t (by omega) ?_
    refine tl_w hF (a := 248) (k := 7 * sd + nT) (hwp_248) (by decide) (fun _ hF => ?_)
    refine Okv.cve (mr_ends_f hF) ?_
    exact Okv.f (by rw [hF.1]; have := hF.2.1; omega) (Okv.ret hF)
  | ok a4 =>
  rintro ⟨e4, -, -, -, v4', r4, l4, f4⟩
  refine Okv.t (by omega) (Okv.bd ?_)
  generalize hs5 : hI s4 247 (7 * sd + nT) v4 = s5
  have r5 : RZ b n sd σc (a2.1 + 1) s5 := by rw [← hs5]; exact r4.wr hwp_247 (Or.inl (by decide))
  have l5 : LTM b n (a2.1 + 1) s5 a4.2.2 := by rw [← hs5]; exact l4.wr (by decide)
  refine Okv.cl (mr_bounded (x1 := 0) (x2 := 9) hT r5 l5) (fun v6 s6 h6 => ?_)
  show Okv _ (PostM _ (numS (kdT b n) (vlT b n) (plI b n) 0 9 a4.1 a4.2.2 >>= _) _)
  rw [← e4] at h6
  revert h6
  show PostM _ (numS (kdT b n) (vlT b n) (plI b n) 0 9 a4.1 a4.2.2) _ _ → _
  cases ex6 : numS (kdT b n) (vlT b n) (plI b n) 0 9 a4.1 a4.2.2 with
  | error e =>
    intro hF
    show Okv _ (FLM sd σc e)
    refine Okv.t (by omega) ?_
    refine tl_w hF (a := 248) (k := 7 * sd + nT) (hwp_248) (by decide) (fun _ hF => ?_)
    refine Okv.cve (mr_ends_f hF) ?_
    exact Okv.f (by rw [hF.1]; have := hF.2.1; omega) (Okv.ret hF)
  | ok a6 =>
  rintro ⟨e6, -, -, -, v6', r6, l6, f6⟩
  refine Okv.t (by omega) (Okv.bd ?_)
  generalize hs7 : hI s6 248 (7 * sd + nT) v6 = s7
  have r7 : RZ b n sd σc (a4.1 + 1) s7 := by rw [← hs7]; exact r6.wr hwp_248 (Or.inl (by decide))
  have l7 : LTM b n (a4.1 + 1) s7 a6.2.2 := by rw [← hs7]; exact l6.wr (by decide)
  have F1 : frm (wThm sd nT) wl0 σ s1 := f1.mono (fun _ _ => wNmm_Th) (fun _ e => e)
  have F3 : frm (wThm sd nT) wl0 σ s3 := by rw [← hs3]; exact (F1.tr (f2.mono (fun _ _ => wNmm_Th) (fun _ e => e))).I (by unfold wThm; simp)
  have F5 : frm (wThm sd nT) wl0 σ s5 := by rw [← hs5]; exact (F3.tr (f4.mono (fun _ _ => wNmm_Th) (fun _ e => e))).I (by unfold wThm; simp)
  have F7 : frm (wThm sd nT) wl0 σ s7 := by rw [← hs7]; exact (F5.tr (f6.mono (fun _ _ => wNmm_Th) (fun _ e => e))).I (by unfold wThm; simp)
  have n7 : NMM s7 nc ns := by rw [← hs7]; exact ((by rw [← hs5]; exact ((by rw [← hs3]; exact (n1.fr f2 rfl rfl).wr (by decide) : NMM s3 nc ns).fr f4 rfl rfl).wr (by decide) : NMM s5 nc ns).fr f6 rfl rfl).wr (by decide)
  refine Okv.cv (mr_ends (t0 := t) hT r7 n7 h12 (by omega) hk1) (fun s8 h8 => ?_)
  show Okv _ (PostM _ (tkS (kdT b n) (plI b n) 4 a6.1 >>= _) _)
  rw [← e6] at h8
  revert h8
  cases ex8 : tkS (kdT b n) (plI b n) 4 a6.1 with
  | error e =>
    intro hF
    show Okv _ (FLM sd σc e)
    exact Okv.f (by rw [hF.1]; have := hF.2.1; omega) (Okv.ret hF)
  | ok t8 =>
  rintro ⟨rfl, -, r8, n8, f8⟩
  have F8 : frm (wThm sd nT) wlPm σ s8 := (F7.mono (fun _ _ e => e) (fun _ _ => rfl)).tr (f8.mono (fun _ _ => wEn_Th) (fun _ e => e))
  have side8 : s8.1 236 19 = nI sd := by rw [F8.1 236 19 (by unfold wThm; simp)]; exact hside
  have c8 : s8.1 245 sd = nI nT := by
    have q : ∀ {s s' : HS}, frm wNmm wl0 s s' → s'.1 245 sd = s.1 245 sd := fun h => h.1 245 sd rfl
    rw [f8.1 245 sd rfl, ← hs7, rI_i (by decide), q f6, ← hs5, rI_i (by decide), q f4, ← hs3, rI_i (by decide), q f2, q f1]; exact h0
  refine Okv.t r8.2.2.2.2 ?_
  rw [side8, nIt (by omega), Int.toNat_natCast]
  refine Okv.t (by omega) (Okv.t (by omega) (Okv.bd ?_))
  rw [c8, nI_1]
  refine Okv.ret ?_
  have rd : ∀ a, a = 246 ∨ a = 247 ∨ a = 248 → (hI s8 245 sd (nI (nT + 1))).1 a (7 * sd + nT) = s7.1 a (7 * sd + nT) := fun a ha => by
    rw [rI_i (by omega), f8.1 _ _ (by unfold wEn; rcases ha with rfl | rfl | rfl <;> rfl)]
  have qn : ∀ {s s' : HS} (a : Nat), a ≠ 236 → frm wNmm wl0 s s' → s'.1 a (7 * sd + nT) = s.1 a (7 * sd + nT) := fun a ha h => h.1 _ _ (by unfold wNmm; simp [ha])
  refine ⟨by show t < a6.1 + 1; omega, r8.wr (by unfold wPm; simp) (Or.inl (by decide)), ?_, ⟨?_, n8.2.1, n8.2.2⟩, rI_s, ?_, ?_, ?_, F8.I (by unfold wThm; simp)⟩
  · have hk6 : kdT b n a6.1 = 4 := by
      unfold tkS at ex8
      by_cases c : kdT b n a6.1 = 4
      · exact c
      · rw [if_neg c] at ex8; exact absurd ex8 (by simp)
    have l7' : LTM b n a6.1 s7 a6.2.2 := by rw [e6]; exact l7
    refine (l7'.up (by rw [hk6]; decide)).eq ?_ ?_
    · rw [rI_i (by decide), f8.1 _ _ rfl]
    · rw [rI_i (by decide), f8.1 _ _ rfl]
  · rw [rI_i (by decide)]; exact n8.1
  · rw [rd 246 (by omega), ← hs7, rI_i (by decide), qn 246 (by decide) f6, ← hs5, rI_i (by decide), qn 246 (by decide) f4, ← hs3, rI_s]; exact v2'
  · rw [rd 247 (by omega), ← hs7, rI_i (by decide), qn 247 (by decide) f6, ← hs5, rI_s]; exact v4'
  · rw [rd 248 (by omega), ← hs7, rI_s]; exact v6'
end MTH
