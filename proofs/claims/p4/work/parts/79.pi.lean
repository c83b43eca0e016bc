/-! the class's patterns, rests, seed, laws -/
section STD
variable {b : Nat → Int32} {n tx : Nat} {σc σ : HS}
def wPt (tx i a k : Nat) : Bool := wRd a k || (a == tx && k == 4) || a == tx + 5 + i || (a == tx + 10 && k == i)
theorem wRd_Pt {i a k : Nat} (h : wPt tx i a k = false) : wRd a k = false := by unfold wPt at h; simp only [Bool.or_eq_false_iff] at h; exact h.1.1.1
theorem wPt_h {i k : Nat} : wPt tx i (tx + 5 + i) k = true := by unfold wPt; simp
/-- what a told pattern leaves -/
def KP (b : Nat → Int32) (n tx : Nat) (σc : HS) (t nP nc : Nat) (ns : Nat → Int64) (σ : HS) (a : Nat × Nat × (Nat → Int) × FA) (s : HS) : Prop := t < a.1 ∧ RC b n tx σc a.1 s ∧ LTR s a.2.2.2 ∧ NMS s nc ns ∧ s.1 tx 4 = nI (nP + 1) ∧ s.1 (tx + 10) nP = nI a.2.1 ∧ (1 ≤ a.2.1 ∧ a.2.1 ≤ 8) ∧ (∀ i, i < a.2.1 → (s.1 (tx + 5 + nP) i).toInt = a.2.2.1 i) ∧ frm (wPt tx nP) wlP σ s
theorem w_hts (htx : txk tx) (hT : TKC b n σc) {t nP nc : Nat} {ns : Nat → Int64} (h5 : nP < 5) : ∀ (m N k t1 : Nat) (hs : Nat → Int) (lt : FA) (s : HS), k + m = 8 → m < N → 1 ≤ k → t < t1 → RC b n tx σc t1 s → LTR s lt → NMS s nc ns → s.1 tx 4 = nI nP → (∀ i, i < k → (s.1 (tx + 5 + nP) i).toInt = hs i) → frm (wPt tx nP) wlP σ s → Ok (f_X6_tellingPattern_57 tx N (nI nP) (nI k) s) (PostC (FLT tx σc) (htsS (kdT b n) (vlT b n) (plI b n) k hs t1 lt m) (KP b n tx σc t nP nc ns σ)) := by
  have lo := htx.lo
  -- behind the heights
  have fin : ∀ (k t1 : Nat) (hs : Nat → Int) (lt : FA) (s : HS), k ≤ 8 → 1 ≤ k → t < t1 → ¬ kdT b n t1 = 2 → RC b n tx σc t1 s → LTR s lt → NMS s nc ns → s.1 tx 4 = nI nP → (∀ i, i < k → (s.1 (tx + 5 + nP) i).toInt = hs i) → frm (wPt tx nP) wlP σ s → Ok (f_X6_tellingPattern_102 tx (nI nP) (nI k) s) (PostC (FLT tx σc) (tkS (kdT b n) (plI b n) 4 t1 >>= fun t2 => .ok (t2, k, hs, lt)) (KP b n tx σc t nP nc ns σ)) := by
    intro k t1 hs lt s hk hk1 htt hkd hR hl hn h4 hh hF
    unfold f_X6_tellingPattern_102
    refine Ok.f (fun c => hkd ((hR.kd 2 (by decide) rfl rfl).mp c)) ?_
    rw [nIt (by omega), Int.toNat_natCast]
    refine Ok.t (by omega) (Ok.bd ?_)
    rw [rI_i (by omega), h4, nI_1]
    refine Ok.bd ?_
    generalize hs2 : hI (hI s (tx + 10) nP (nI k)) tx 4 (nI (nP + 1)) = s2
    have r2 : RC b n tx σc t1 s2 := by rw [← hs2]; exact (hR.wr lo (by omega) (by omega) (Or.inl (by omega))).wr lo (by omega) (by omega) (Or.inr (by decide))
    have l2 : LTR s2 lt := by rw [← hs2]; exact (hl.wr (by omega)).wr (by omega)
    have n2 : NMS s2 nc ns := by rw [← hs2]; exact (hn.wr (by omega)).wr (by omega)
    have F2 : frm (wPt tx nP) wlP σ s2 := by rw [← hs2]; exact (hF.I (by unfold wPt; simp)).I (by unfold wPt; simp)
    refine PT ?_
    refine PostC.map (w_take (K0 := 4) (d := 59) lo hT (by decide) rfl rfl (by decide) (by decide) r2) (fun t2 s3 _ h9 => ?_)
    obtain ⟨rfl, -, -, r, -, f9⟩ := h9
    have g9 : frm wRd wl0 s2 s3 := f9.mono (fun _ _ => wTk_Rd) (fun _ e => e)
    refine ⟨_, rfl, by simp only; omega, r, l2.fr f9 rfl rfl, n2.fr f9 rfl rfl, ?_, ?_, ⟨hk1, hk⟩, fun i hi => ?_, F2.tr (g9.mono (fun _ _ => wRd_Pt) (fun _ _ => rfl))⟩
    · rw [g9.1 _ _ (wRd_x lo), ← hs2, rI_s]
    · rw [g9.1 _ _ (wRd_x (by omega)), ← hs2, rI_i (by omega), rI_s]
    · rw [g9.1 _ _ (wRd_x (by omega)), ← hs2, rI_i (by omega), rI_i (by omega)]; exact hh i hi
  intro m
  induction m with
  | zero =>
    intro N k t1 hs lt s hk hN hk1 htt hR hl hn h4 hh hF
    obtain ⟨N, rfl⟩ : ∃ q, N = q + 1 := ⟨N - 1, by omega⟩
    show Ok (b_X6_tellingPattern_57 tx (f_X6_tellingPattern_57 tx N) (nI nP) (nI k) s) (PostC _ (if kdT b n t1 = 2 then .error (2, plI b n t1) else _) _)
    unfold b_X6_tellingPattern_57
    by_cases c2 : kdT b n t1 = 2
    · rw [if_pos c2]
      refine Ok.t ((hR.kd 2 (by decide) rfl rfl).mpr c2) (Ok.f (by rw [nIt (by omega)]; omega) ?_)
      unfold f_X6_tellingPattern_102
      refine Ok.t ((hR.kd 2 (by decide) rfl rfl).mpr c2) (PT ?_)
      refine (w_refuse lo hT hR (x := 2)).mono (fun r s hq => ?_)
      obtain ⟨rfl, hF⟩ := hq
      exact PostC.err rfl hF
    · rw [if_neg c2]
      exact Ok.f (fun c => c2 ((hR.kd 2 (by decide) rfl rfl).mp c)) (fin k t1 hs lt s (by omega) hk1 htt c2 hR hl hn h4 hh hF)
  | succ m ih =>
    intro N k t1 hs lt s hk hN hk1 htt hR hl hn h4 hh hF
    obtain ⟨N, rfl⟩ : ∃ q, N = q + 1 := ⟨N - 1, by omega⟩
    show Ok (b_X6_tellingPattern_57 tx (f_X6_tellingPattern_57 tx N) (nI nP) (nI k) s) (PostC _ (if kdT b n t1 = 2 then _ else _) _)
    unfold b_X6_tellingPattern_57
    by_cases c2 : kdT b n t1 = 2
    · rw [if_pos c2]
      refine Ok.t ((hR.kd 2 (by decide) rfl rfl).mpr c2) (Ok.t (by rw [nIt (by omega)]; omega) ?_)
      refine PB (w_number (x1 := 0) (x2 := 9) lo hT hR hl) (fun a s1 _ h1 => ?_)
      obtain ⟨e1, -, -, -, r1, l1, v1, f1⟩ := h1
      have g1 : frm wRd wl0 s s1 := f1.mono (fun _ _ => wNm_Rd) (fun _ e => e)
      rw [nIt (by omega), nIt (by omega), Int.toNat_natCast, Int.toNat_natCast]
      refine Ok.t (by omega) (Ok.t (by omega) (Ok.bd (Ok.bd ?_)))
      rw [nI_1]
      refine ih N (k + 1) a.1 (upI hs k a.2.1) a.2.2 _ (by omega) (by omega) (by omega) (by omega) (by rw [e1]; exact r1.wr lo (by omega) (by omega) (Or.inl (by omega))) (l1.wr (by omega)) ((hn.fr f1 rfl rfl).wr (by omega)) ?_ ?_ ((hF.tr (g1.mono (fun _ _ => wRd_Pt) (fun _ _ => rfl))).I wPt_h)
      · rw [rI_i (by omega), g1.1 _ _ (wRd_x lo)]; exact h4
      · intro i hi
        unfold upI
        by_cases e : i = k
        · rw [e, rI_s, if_pos rfl]; exact v1
        · rw [rI_k e, if_neg e, g1.1 _ _ (wRd_x (by omega))]; exact hh i (by omega)
    · rw [if_neg c2]
      exact Ok.f (fun c => c2 ((hR.kd 2 (by decide) rfl rfl).mp c)) (fin k t1 hs lt s (by omega) hk1 htt c2 hR hl hn h4 hh hF)
theorem w_pattern {t nP nc : Nat} {ns : Nat → Int64} {lt : FA} (htx : txk tx) (hT : TKC b n σc) (h : RC b n tx σc t σ) (hl : LTR σ lt) (hn : NMS σ nc ns) (h12 : nP < 5 → nc < 12) (h0 : σ.1 tx 4 = nI nP) (h7 : nP ≤ 5) : Ok (f_X6_tellingPattern tx σ) (PostC (FLT tx σc) (patS (kdT b n) (vlT b n) (plI b n) (nmT b n) nP t nc ns lt) (fun a s => nP < 5 ∧ KP b n tx σc t nP (nc + 1) (upN ns nc (nmT b n (t + 1))) σ a s)) := by
  have lo := htx.lo
  unfold f_X6_tellingPattern patS
  refine Ok.bd ?_
  rw [h0, nIt (by omega)]
  by_cases c5 : nP < 5
  · rw [if_pos c5]
    refine Ok.t (by omega) ?_
    refine PB (w_take (K0 := 21) (d := 1) lo hT (by decide) rfl rfl (by decide) (by decide) h) (fun t1 s1 _ h1 => ?_)
    obtain ⟨rfl, -, -, r1, -, f1⟩ := h1
    refine PB (w_name lo hT r1 (hl.fr f1 rfl rfl) (hn.fr f1 rfl rfl) (h12 c5)) (fun a2 s2 _ h2 => ?_)
    obtain ⟨e2, -, r2, l2, n2, f2⟩ := h2
    refine PB (w_number (x1 := 0) (x2 := 9) lo hT (by rw [e2]; exact r2) l2) (fun a3 s3 _ h3 => ?_)
    obtain ⟨e3, -, -, -, r3, l3, v3, f3⟩ := h3
    have g3 : frm wRd wl0 s2 s3 := f3.mono (fun _ _ => wNm_Rd) (fun _ e => e)
    have F2 : frm wRd wlP σ s2 := (f1.mono (fun _ _ => wTk_Rd) (fun _ _ => rfl)).tr f2
    rw [Int.toNat_natCast]
    refine Ok.t (by omega) (Ok.bd ?_)
    refine (w_hts (t := t) htx hT c5 7 5000 1 a3.1 (upI (fun _ => 0) 0 a3.2.1) a3.2.2 _ rfl (by omega) (by omega) (by omega) (by rw [e3]; exact r3.wr lo (by omega) (by omega) (Or.inl (by omega))) (l3.wr (by omega)) ((n2.fr f3 rfl rfl).wr (by omega)) ?_ ?_ (((F2.tr (g3.mono (fun _ e => fun h => h) (fun _ _ => rfl))).mono (fun _ _ => wRd_Pt) (fun _ e => e)).I wPt_h)).mono (fun r s hq => ?_)
    · rw [rI_i (by omega), g3.1 _ _ (wRd_x lo), F2.1 _ _ (wRd_x lo)]; exact h0
    · intro i hi
      have : i = 0 := by omega
      subst this
      rw [rI_s]; exact v3
    · revert hq
      cases htsS (kdT b n) (vlT b n) (plI b n) 1 (upI (fun _ => 0) 0 a3.2.1) a3.1 a3.2.2 7 with
      | error e => exact fun hq => hq
      | ok a => exact fun hq => ⟨hq.1, c5, hq.2⟩
  · rw [if_neg c5]
    refine Ok.f (by omega) (PT ?_)
    refine (w_refuse lo hT h (x := 2)).mono (fun r s hq => ?_)
    obtain ⟨rfl, hF⟩ := hq
    exact PostC.err rfl hF
theorem FLT.wr {e : FA} {a k : Nat} {v : Int32} (h : FLT tx σc e σ) (lo : 30 ≤ tx) (ha : tx ≤ a) (hb : a ≤ tx + 12) (h8 : a ≠ tx ∨ k ≠ 8) : FLT tx σc e (hI σ a k v) := by
  refine ⟨?_, ?_, h.2.2.1.I (wP_tx ha hb), ?_⟩
  · rw [rI_i (by omega)]; exact h.1
  · rw [rI_i (by omega)]; exact h.2.1
  · by_cases e : tx = a
    · subst e; rw [rI_k (by omega)]; exact h.2.2.2
    · rw [rI_i e]; exact h.2.2.2
def wOn (tx j a k : Nat) : Bool := wNm a k || (a == tx && k == j)
theorem wNm_On {j a k : Nat} (h : wOn tx j a k = false) : wNm a k = false := by unfold wOn at h; simp only [Bool.or_eq_false_iff] at h; exact h.1
/-- what RESTS or SEED leaves -/
def KO (b : Nat → Int32) (n tx : Nat) (σc : HS) (t j : Nat) (σ : HS) (a : Nat × Int × FA) (s : HS) : Prop := t < a.1 ∧ RC b n tx σc a.1 s ∧ LTR s a.2.2 ∧ (s.1 tx j).toInt = a.2.1 ∧ frm (wOn tx j) wl0 σ s
theorem w_one {t j : Nat} {K0 : Nat} {d x2 : Int32} {lt : FA} {f85 : HS → Option (Int32 × HS)} {f86 : Int32 → HS → Option (Int32 × HS)} (e85 : ∀ s, f85 s = f86 0 s) (e86 : ∀ v s, f86 v s = (Bd (hI s tx j (s.1 1 7)) fun σ1 => if v.toInt = 0 then some (0, σ1) else Cl (f_X6_take 59 σ1) fun r3 σ2 => if r3.toInt = 0 then some (0, σ2) else some (1, σ2))) (htx : txk tx) (hT : TKC b n σc) (h40 : K0 < 40) (hK : vK K0 = true) (hd : d.toInt = ckind K0) (h0 : K0 ≠ 0) (h3 : K0 ≠ 3) (hj : j ≠ 8) (h : RC b n tx σc t σ) (hl : LTR σ lt) : Ok (Cl (f_X6_take d σ) fun r8 σ7 => if r8.toInt = 0 then f85 σ7 else Cl (f_X6_takeNumber 0 x2 σ7) fun r10 σ9 => if r10.toInt = 0 then f85 σ9 else f86 1 σ9) (PostC (FLT tx σc) (oneS (kdT b n) (vlT b n) (plI b n) K0 x2.toInt t lt) (KO b n tx σc t j σ)) := by
  have lo := htx.lo
  unfold oneS
  have out : ∀ {β : Type} (x : Except FA β) (y : β → Except FA (Nat × Int × FA)) (e : FA) (s : HS), x = .error e → FLT tx σc e s → Ok (f85 s) (PostC (FLT tx σc) (x >>= y) (KO b n tx σc t j σ)) := by
    intro β x y e s hx hF
    subst hx
    rw [e85, e86]
    exact Ok.bd (Ok.t rfl (Ok.ret ⟨rfl, hF.wr lo (by omega) (by omega) (Or.inr hj)⟩))
  obtain ⟨r, s1, er, h1⟩ := w_take (K0 := K0) (d := d) lo hT h40 hK hd h0 h3 h
  refine Ok.cle er ?_
  cases ex : tkS (kdT b n) (plI b n) K0 t with
  | error e =>
    rw [ex] at h1
    obtain ⟨rfl, hF⟩ := h1
    exact Ok.t rfl (out _ _ e s1 rfl hF)
  | ok t1 =>
    rw [ex] at h1
    obtain ⟨rfl, rfl, -, -, r1, -, f1⟩ := h1
    refine Ok.f (by decide) ?_
    obtain ⟨r, s2, er2, h2⟩ := w_number (x1 := 0) (x2 := x2) lo hT r1 (hl.fr f1 rfl rfl)
    refine Ok.cle er2 ?_
    show Ok _ (PostC _ (numS (kdT b n) (vlT b n) (plI b n) 0 x2.toInt (t + 1) lt >>= _) _)
    cases ex2 : numS (kdT b n) (vlT b n) (plI b n) (Int32.toInt 0) x2.toInt (t + 1) lt with
    | error e =>
      rw [ex2] at h2
      obtain ⟨rfl, hF⟩ := h2
      exact Ok.t rfl (out _ _ e s2 ex2 hF)
    | ok a =>
      rw [ex2] at h2
      obtain ⟨rfl, e2, -, -, -, r2, l2, v2, f2⟩ := h2
      refine Ok.f (by decide) ?_
      rw [e86]
      have ex3 : numS (kdT b n) (vlT b n) (plI b n) 0 x2.toInt (t + 1) lt = .ok a := ex2
      rw [ex3]
      refine Ok.bd (Ok.f (by decide) ?_)
      have r3 : RC b n tx σc a.1 (hI s2 tx j (s2.1 1 7)) := by rw [e2]; exact r2.wr lo (by omega) (by omega) (Or.inr hj)
      have l3 : LTR (hI s2 tx j (s2.1 1 7)) a.2.2 := l2.wr (by omega)
      have F3 : frm (wOn tx j) wl0 σ (hI s2 tx j (s2.1 1 7)) := ((f1.mono (fun _ _ e => wTk_Nm (wNm_On e)) (fun _ e => e)).tr (f2.mono (fun _ _ e => wNm_On e) (fun _ e => e))).I (by unfold wOn; simp)
      show Ok _ (PostC _ (tkS (kdT b n) (plI b n) 4 a.1 >>= fun t2 => .ok (t2, a.2)) _)
      obtain ⟨r, s4, er4, h4⟩ := w_take (K0 := 4) (d := 59) lo hT (by decide) rfl rfl (by decide) (by decide) r3
      refine Ok.cle er4 ?_
      cases ex4 : tkS (kdT b n) (plI b n) (4 : Nat) a.1 with
      | error e =>
        rw [ex4] at h4
        obtain ⟨rfl, hF⟩ := h4
        refine Ok.t rfl (Ok.ret ?_)
        exact ⟨rfl, hF⟩
      | ok t2 =>
        rw [ex4] at h4
        obtain ⟨rfl, rfl, -, -, r4, -, f4⟩ := h4
        refine Ok.f (by decide) (Ok.ret ?_)
        have g4 : frm wRd wl0 (hI s2 tx j (s2.1 1 7)) s4 := f4.mono (fun _ _ => wTk_Rd) (fun _ e => e)
        refine ⟨rfl, by simp only; omega, r4, l3.fr f4 rfl rfl, ?_, F3.tr (f4.mono (fun _ _ e => wTk_Nm (wNm_On e)) (fun _ e => e))⟩
        rw [g4.1 _ _ (wRd_x lo), rI_s]; exact v2
end STD
