/-! light (that it answers), busiest, order -/
section WOULD4
variable {σ s : HS} {n t u sd k nx m p L T : Nat} {ρ : Nat → Int32} {d : DAT} {b : Int} {H G : Nat → Nat → Int32} {tb9 : Nat → Nat} {x y z : Int32}
def useR (ρ : Nat → Int32) (p : Nat) : Nat → Int32 := upF (upF ρ 26 (nI p)) 27 (ρ 21)
theorem RW.use (h : RW d b ρ) (hp : p < d.1.2.1) (hT : d.1.1.1 ≤ 7) (hP : d.1.2.1 ≤ 5) : RW d b (useR ρ p) := by
  obtain ⟨w1, w2, w3, w4, w5, w6⟩ := h
  have ne : ∀ i, i ≠ 26 → i ≠ 27 → useR ρ p i = ρ i := fun i h1 h2 => by unfold useR; rw [upF_n h2, upF_n h1]
  have e26 : useR ρ p 26 = nI p := by unfold useR; rw [upF_n (by decide), upF_s]
  have e27 : useR ρ p 27 = ρ 21 := by unfold useR; rw [upF_s]
  refine ⟨fun e he => ?_, ?_, ?_, ?_, ?_, ?_⟩
  · rw [ne e (by omega) (by omega), ne (7 + e) (by omega) (by omega)]; exact w1 e he
  · rw [ne 21 (by decide) (by decide)]; exact w2
  · rw [e27, ne 21 (by decide) (by decide)]; exact ⟨w2.1, Int.le_refl _⟩
  · rw [e26, nIt (by omega)]; exact Or.inr ⟨by omega, by omega⟩
  · rw [ne 28 (by decide) (by decide)]; exact w5
  · rw [ne 22 (by decide) (by decide)]; exact w6
theorem AR.use {a : Nat} (h : AR a T ρ s) (hT : T ≤ 7) (hp : p ≤ 1000) : AR a T (useR ρ p) (hI (hI s a 9 (nI p)) a 10 (s.1 a 4)) := by
  have e : s.1 a 4 = ρ 21 := h.2.2.1 4 (by decide) (by decide)
  rw [e]
  exact (h.u hT (v := nI p) (by rw [nIt (by omega)]; omega)).sn hT
theorem q_light_c (h : RELx n d t u sd ρ k nx H m tb9 G σ) (hn : n ≤ 512) : Ok (f_X11_light x y σ) (fun _ s => frm wQ wl0 σ s) := by
  have hT := h.tc.T7
  have hP := h.tc.2.1.2.1
  unfold f_X11_light
  refine Ok.cle e_isSpan ?_
  by_cases c : 1 ≤ x.toInt ∧ x.toInt ≤ 60
  · refine Ok.f (fun e => if10.mp e c) (Ok.i (fun _ => Ok.ret frm.rf) (fun _ => Ok.i (fun _ => Ok.ret frm.rf) (fun _ => ?_)))
    obtain ⟨Z, hZ, rfl⟩ := in_60 c
    have loop : ∀ (dd q N : Nat) (v w : Int32) (s : HS), q + dd = d.1.2.1 → dd < N → frm wQ wl0 σ s → Ok (f_X11_light_28 N (nI Z) y v w (nI q) s) (fun _ s => frm wQ wl0 σ s) := by
      intro dd
      induction dd with
      | zero =>
        intro q N v w s hq hN hf
        obtain ⟨N, rfl⟩ : ∃ q, N = q + 1 := ⟨N - 1, by omega⟩
        have h2 := h.fr hf
        show Ok (b_X11_light_28 (f_X11_light_28 N) (nI Z) y v w (nI q) s) _
        unfold b_X11_light_28
        rw [h2.t0, h2.tc.2.1.1, nIt (n := q) (by omega), nIt (n := d.1.2.1) (by omega)]
        exact Ok.t h.tk (Ok.f (by omega) (Ok.i (fun _ => Ok.ret hf) (fun _ => Ok.ret hf)))
      | succ dd ih =>
        intro q N v w s hq hN hf
        obtain ⟨N, rfl⟩ : ∃ q, N = q + 1 := ⟨N - 1, by omega⟩
        have h2 := h.fr hf
        have go : ∀ (v w : Int32) (s : HS), frm wQ wl0 σ s → Ok (f_X11_light_147 (f_X11_light_28 N) (nI Z) y v w (nI q) s) (fun _ s => frm wQ wl0 σ s) := by
          intro v w s hf
          unfold f_X11_light_147
          refine Ok.bd ?_
          rw [nI_1]
          exact ih (q + 1) N v w s (by omega) (by omega) hf
        have go2 : ∀ (s : HS), frm wQ wl0 σ s → Ok (f_X11_light_135 (f_X11_light_28 N) (nI Z) y (nI q) s) (fun _ s => frm wQ wl0 σ s) := by
          intro s hf
          unfold f_X11_light_135
          exact Ok.bd (go _ _ s hf)
        show Ok (b_X11_light_28 (f_X11_light_28 N) (nI Z) y v w (nI q) s) _
        unfold b_X11_light_28
        rw [h2.t0, h2.tc.2.1.1, nIt (n := q) (by omega), nIt (n := d.1.2.1) (by omega), Int.toNat_natCast, (h2.tc.2.1.2.2 q (by omega)).1]
        have c5 : 0 ≤ (q : Int) ∧ (q : Int) < 5 := by omega
        refine Ok.t h.tk (Ok.t (by omega) (Ok.t h.tk (Ok.t c5 (Ok.t h.tk (Ok.t c5 (Ok.cle (e_closingOf (h2.tc.hc h.tk h.ok (by omega))) (Ok.cle (e_howManyUp h2.ar.1 hT) (Ok.i (fun _ => ?_) (fun _ => go _ _ s hf)))))))))
        refine Ok.cv (c_trial h2) (fun s9 h9 => Ok.cve e_takeUp ?_)
        have A11 := h9.1.use (p := q) hT (by omega)
        have F9 := hf.tr h9.2
        generalize hs11 : hI (hI s9 60 9 (nI q)) 60 10 (s9.1 60 4) = s11 at A11
        have F11 : frm wQ wl0 σ s11 := by rw [← hs11]; exact (F9.I rfl).I rfl
        have h11 := h.fr F11
        rw [h11.t0, see_c h11]
        refine Ok.t h.tk (Ok.t h.tk (Ok.cv (c_go h ((h.n0 hn).use (by omega) hT hP) A11 F11 (by omega) (SDr.see0 h.ok)) (fun s15 h15 => ?_)))
        exact Ok.i (fun _ => go2 s15 h15.2) (fun _ => Ok.i (fun _ => go2 s15 h15.2) (fun _ => go _ _ s15 h15.2))
    rw [nI0]
    exact loop d.1.2.1 0 5000 _ _ σ (by omega) (by omega) frm.rf
  · exact Ok.t (if10.mpr c) (Ok.ret frm.rf)
theorem q_light_m (h : RELx n d t u sd ρ k nx H m tb9 G σ) (hn : n ≤ 512) : Ok (f_X12_light x y σ) (fun _ s => frm wQ wl0 σ s) := by
  have hT := h.tc.T7
  have hP := h.tc.2.1.2.1
  unfold f_X12_light
  refine Ok.cle e_isSome ?_
  by_cases c : 1 ≤ x.toInt ∧ x.toInt ≤ 60
  · refine Ok.f (fun e => if10.mp e c) (Ok.cle e_in (Ok.i (fun _ => Ok.ret frm.rf) (fun _ => ?_)))
    obtain ⟨Z, hZ, rfl⟩ := in_60 c
    have loop : ∀ (dd q N : Nat) (v w : Int32) (s : HS), q + dd = d.1.2.1 → dd < N → frm wQ wl0 σ s → Ok (f_X12_light_28 N (nI Z) y v w (nI q) s) (fun _ s => frm wQ wl0 σ s) := by
      intro dd
      induction dd with
      | zero =>
        intro q N v w s hq hN hf
        obtain ⟨N, rfl⟩ : ∃ q, N = q + 1 := ⟨N - 1, by omega⟩
        have h2 := h.fr hf
        show Ok (b_X12_light_28 (f_X12_light_28 N) (nI Z) y v w (nI q) s) _
        unfold b_X12_light_28
        rw [h2.tm.lv.at, h2.tm.2.2.2.1.1, nIt (n := q) (by omega), nIt (n := d.1.2.1) (by omega)]
        exact Ok.t h2.tm.lv.sd0 (Ok.f (by omega) (Ok.i (fun _ => Ok.ret hf) (fun _ => Ok.ret hf)))
      | succ dd ih =>
        intro q N v w s hq hN hf
        obtain ⟨N, rfl⟩ : ∃ q, N = q + 1 := ⟨N - 1, by omega⟩
        have h2 := h.fr hf
        have go : ∀ (v w : Int32) (s : HS), frm wQ wl0 σ s → Ok (f_X12_light_108 (f_X12_light_28 N) (nI Z) y v w (nI q) s) (fun _ s => frm wQ wl0 σ s) := by
          intro v w s hf
          unfold f_X12_light_108
          refine Ok.bd ?_
          rw [nI_1]
          exact ih (q + 1) N v w s (by omega) (by omega) hf
        have go2 : ∀ (s : HS), frm wQ wl0 σ s → Ok (f_X12_light_96 (f_X12_light_28 N) (nI Z) y (nI q) s) (fun _ s => frm wQ wl0 σ s) := by
          intro s hf
          unfold f_X12_light_96
          exact Ok.bd (go _ _ s hf)
        show Ok (b_X12_light_28 (f_X12_light_28 N) (nI Z) y v w (nI q) s) _
        unfold b_X12_light_28
        rw [h2.tm.lv.at, h2.tm.2.2.2.1.1, nIt (n := q) (by omega), nIt (n := d.1.2.1) (by omega)]
        refine Ok.t h2.tm.lv.sd0 (Ok.t (by omega) (Ok.cv (m_trial h2) (fun s1 h1 => ?_)))
        have F1 := hf.tr h1.2.2
        have h1r := h.fr F1
        refine Ok.cl (w_keepsOf h1r.tm h.ok (show q < d.1.2.1 by omega)) (fun r s3 h3 => ?_)
        obtain ⟨-, -, f3⟩ := h3
        have F3 := F1.tr (f3.sub tp_wQ)
        have h3r := h.fr F3
        refine Ok.cle (e_thingsSo h3r.tm.lv) (Ok.cle e_bits (Ok.i (fun _ => ?_) (fun _ => go _ _ s3 F3)))
        have R3 : RRm ρ s3 := h1.1.fr f3 (fun _ => rfl)
        unfold f_X12_uses
        refine Ok.cv (P := fun s => s = hI (hI s3 267 26 (nI q)) 267 27 (ρ 21)) (Okv.bd (Okv.bd (Okv.ret ?_))) (fun s9 h9 => ?_)
        · rw [rI_k (by decide), R3 21 (by decide)]
        have R9 : RRm (useR ρ q) s9 := by rw [h9]; exact (R3.w (k := 26)).w (k := 27)
        have f9 : frm (fun a _ => a == 267) wl0 s3 s9 := by rw [h9]; exact (frm.rf.I rfl).I rfl
        have F9 : frm wQ wl0 σ s9 := by rw [h9]; exact (F3.I rfl).I rfl
        have x9 : SDm none s9 := by
          unfold SDm
          rw [f9.1 236 49 rfl, f9.1 236 50 rfl, f3.1 236 49 rfl, f3.1 236 50 rfl]; exact h1.2.1
        have h9r := h.fr F9
        refine Ok.cv (w_goes (b := 30720) h9r.tm h.ok h.tc.ln (by omega) R9 ((h.n0 hn).use (by omega) hT hP) (by omega) x9) (fun s11 h11 => ?_)
        have F11 := F9.tr (h11.2.sub bm_wQ)
        exact Ok.i (fun _ => go2 s11 F11) (fun _ => Ok.i (fun _ => go2 s11 F11) (fun _ => go _ _ s11 F11))
    rw [nI0]
    exact loop d.1.2.1 0 5000 _ _ σ (by omega) (by omega) frm.rf
  · exact Ok.t (if10.mpr c) (Ok.ret frm.rf)
theorem simx_light (hn : n ≤ 512) : SIMx n (f_X11_light x y) (f_X12_light x y) := sim_x (fun d t u sd ρ k nx H m tb G σ h => ⟨q_light_c h hn, q_light_m h hn⟩)
/-! busiest -/
def ofP (d : DAT) (ρ : Nat → Int32) (e j : Nat) : Bool := decide (firS d.1.1.1 (itS d none j ρ) = e) && decide (e < d.1.1.1)
def ofS (d : DAT) (ρ : Nat → Int32) (Z e : Nat) : Nat := cntB (ofP d ρ e) Z
def bstS (f : Nat → Nat) : Nat → Nat
  | 0 => 0
  | e + 1 => if f (bstS f e) < f (e + 1) then e + 1 else bstS f e
theorem bst_le {f : Nat → Nat} : ∀ {e : Nat}, bstS f e ≤ e := by
  intro e
  induction e with
  | zero => exact Nat.le_refl _
  | succ e ih =>
    show (if f (bstS f e) < f (e + 1) then e + 1 else bstS f e) ≤ e + 1
    split <;> omega
def busI (f : Nat → Nat) (y : Int32) : Int32 := if f (bstS f 6) = 0 then -2 else if y.toInt = 0 then nI (bstS f 6) else nI (f (bstS f 6))
def busS (d : DAT) (ρ : Nat → Int32) (x y : Int32) : Int32 := if (1 ≤ x.toInt ∧ x.toInt ≤ 60) ∧ (0 ≤ y.toInt ∧ y.toInt ≤ 1) then busI (ofS d ρ x.toInt.toNat) y else -1
theorem busS_in {q : Nat} (h1 : 1 ≤ q) (hq : q ≤ 60) (hy : 0 ≤ y.toInt ∧ y.toInt ≤ 1) : busS d ρ (nI q) y = busI (ofS d ρ q) y := by
  unfold busS
  rw [nIt (by omega), Int.toNat_natCast]
  exact if_pos ⟨⟨by omega, by omega⟩, hy⟩
theorem q_busiest_c (h : RELx n d t u sd ρ k nx H m tb9 G σ) (hn : n ≤ 512) : Ok (f_X11_busiest x y σ) (fun r s => r = busS d ρ x y ∧ frm wQ wl0 σ s) := by
  have hT := h.tc.T7
  have ht : t = 30 ∨ t = 43 := h.tk
  unfold f_X11_busiest
  refine Ok.cle e_isSpan ?_
  by_cases c : 1 ≤ x.toInt ∧ x.toInt ≤ 60
  · refine Ok.f (fun e => if10.mp e c) ?_
    by_cases c1 : y.toInt < 0
    · exact Ok.t c1 (Ok.ret ⟨(clo_no (fun h => by omega)).symm, frm.rf⟩)
    by_cases c2 : 1 < y.toInt
    · exact Ok.f c1 (Ok.t c2 (Ok.ret ⟨(clo_no (fun h => by omega)).symm, frm.rf⟩))
    obtain ⟨Z, hZ, rfl⟩ := in_60 c
    rw [busS_in hZ.1 hZ.2 (by omega)]
    refine Ok.f c1 (Ok.f c2 (Ok.cv (w_findHands (Z := Z) h hn (by omega)) (fun s1 h1 => ?_)))
    refine Ok.cv (w_fill (p := 28) (N := 7) (v := 0) (by decide) rfl (by omega)) (fun s2 h2 => ?_)
    have F2 : frm wQ wl0 σ s2 := h1.2.tr (h2.1.sub (fun i k e => by
      have : i = 28 := by simpa using e
      subst this; rfl))
    have H2 : ∀ i, i < Z → s2.1 27 i = hanS d ρ i := fun i hi => by rw [h2.1.1 27 i rfl]; exact h1.1 i hi
    have fin : ∀ (dd e N : Nat) (s : HS), e + 1 + dd = 7 → dd < N → (∀ e, e < 7 → s.1 28 e = nI (ofS d ρ Z e)) → frm wQ wl0 σ s → Ok (f_X11_busiest_80 N y (nI (bstS (ofS d ρ Z) e)) (nI (e + 1)) s) (fun r s => r = busI (ofS d ρ Z) y ∧ frm wQ wl0 σ s) := by
      intro dd
      induction dd with
      | zero =>
        intro e N s he hN ho hf
        obtain ⟨N, rfl⟩ : ∃ q, N = q + 1 := ⟨N - 1, by omega⟩
        obtain rfl : e = 6 := by omega
        have hb := bst_le (f := ofS d ρ Z) (e := 6)
        have hc := cntB_le (p := ofP d ρ (bstS (ofS d ρ Z) 6)) (n := Z)
        have hc' : ofS d ρ Z (bstS (ofS d ρ Z) 6) ≤ Z := hc
        show Ok (b_X11_busiest_80 (f_X11_busiest_80 N) y _ (nI 7) s) _
        unfold b_X11_busiest_80 busI
        rw [nIt (n := 7) (by omega), nIt (n := bstS (ofS d ρ Z) 6) (by omega), Int.toNat_natCast, ho _ (by omega), nIt (n := ofS d ρ Z (bstS (ofS d ρ Z) 6)) (by omega)]
        refine Ok.f (by omega) (Ok.t (by omega) ?_)
        by_cases c0 : ofS d ρ Z (bstS (ofS d ρ Z) 6) = 0
        · refine Ok.t (by omega) (Ok.ret ⟨?_, hf⟩)
          rw [if_pos c0]
        · refine Ok.f (by omega) ?_
          by_cases cy : y.toInt = 0
          · refine Ok.t cy (Ok.ret ⟨?_, hf⟩)
            rw [if_neg c0, if_pos cy]
          · refine Ok.f cy (Ok.t (by omega) (Ok.ret ⟨?_, hf⟩))
            rw [if_neg c0, if_neg cy]
      | succ dd ih =>
        intro e N s he hN ho hf
        obtain ⟨N, rfl⟩ : ∃ q, N = q + 1 := ⟨N - 1, by omega⟩
        have hb := bst_le (f := ofS d ρ Z) (e := e)
        have hc1 : ofS d ρ Z (bstS (ofS d ρ Z) e) ≤ Z := cntB_le
        have hc2 : ofS d ρ Z (e + 1) ≤ Z := cntB_le
        have eb : bstS (ofS d ρ Z) (e + 1) = if ofS d ρ Z (bstS (ofS d ρ Z) e) < ofS d ρ Z (e + 1) then e + 1 else bstS (ofS d ρ Z) e := rfl
        have ih1 := ih (e + 1) N s (by omega) (by omega) ho hf
        show Ok (b_X11_busiest_80 (f_X11_busiest_80 N) y _ (nI (e + 1)) s) _
        unfold b_X11_busiest_80 f_X11_busiest_106
        rw [nIt (n := e + 1) (by omega), nIt (n := bstS (ofS d ρ Z) e) (by omega), Int.toNat_natCast, Int.toNat_natCast, ho _ (by omega), ho (e + 1) (by omega), nIt (n := ofS d ρ Z (bstS (ofS d ρ Z) e)) (by omega), nIt (n := ofS d ρ Z (e + 1)) (by omega)]
        refine Ok.t (by omega) (Ok.t (by omega) (Ok.t (by omega) ?_))
        by_cases cl : ofS d ρ Z (bstS (ofS d ρ Z) e) < ofS d ρ Z (e + 1)
        · rw [eb, if_pos cl] at ih1
          refine Ok.t (by omega) (Ok.bd ?_)
          rw [nI_1]
          exact ih1
        · rw [eb, if_neg cl] at ih1
          refine Ok.f (by omega) (Ok.bd ?_)
          rw [nI_1]
          exact ih1
    have loop : ∀ (dd q N : Nat) (s : HS), q + dd = Z → dd < N → (∀ e, e < 7 → s.1 28 e = nI (ofS d ρ q e)) → frm (fun a _ => a == 28) wl0 s2 s → Ok (f_X11_busiest_33 N (nI Z) y (nI q) s) (fun r s => r = busI (ofS d ρ Z) y ∧ frm wQ wl0 σ s) := by
      intro dd
      induction dd with
      | zero =>
        intro q N s hq hN ho hf
        obtain ⟨N, rfl⟩ : ∃ q, N = q + 1 := ⟨N - 1, by omega⟩
        obtain rfl : q = Z := by omega
        show Ok (b_X11_busiest_33 (f_X11_busiest_33 N) (nI q) y (nI q) s) _
        unfold b_X11_busiest_33
        refine Ok.f (Int.lt_irrefl _) ?_
        have := fin 6 0 5000 s (by omega) (by omega) ho (F2.tr (hf.sub (fun i k e => by
          have : i = 28 := by simpa using e
          subst this; rfl)))
        rw [show nI (bstS (ofS d ρ q) 0) = 0 from nI_0] at this
        exact this
      | succ dd ih =>
        intro q N s hq hN ho hf
        obtain ⟨N, rfl⟩ : ∃ q, N = q + 1 := ⟨N - 1, by omega⟩
        have F : frm wQ wl0 σ s := F2.tr (hf.sub (fun i k e => by
          have : i = 28 := by simpa using e
          subst this; rfl))
        have hr := h.fr F
        have e27 : s.1 27 q = hanS d ρ q := by rw [hf.1 27 q rfl]; exact H2 q (by omega)
        have hc := han_cau (ρ := ρ) (d := d) (i := q) hT
        have es : ∀ e, ofS d ρ (q + 1) e = if ofP d ρ e q = true then ofS d ρ q e + 1 else ofS d ρ q e := fun e => rfl
        show Ok (b_X11_busiest_33 (f_X11_busiest_33 N) (nI Z) y (nI q) s) _
        unfold b_X11_busiest_33 f_X11_busiest_69
        rw [nIt (n := q) (by omega), nIt (n := Z) (by omega), hr.t0, Int.toNat_natCast, e27]
        refine Ok.t (by omega) (Ok.t ht (Ok.t (by omega) (Ok.cle (e_hasThing hr.tc.1.1 hT) ?_)))
        rw [e27]
        by_cases cf : firS d.1.1.1 (itS d none q ρ) < d.1.1.1
        · have ev := hc.2 cf
          rw [ev]
          have ep : ∀ e, ofP d ρ e q = decide (e = firS d.1.1.1 (itS d none q ρ)) := fun e => by
            unfold ofP
            by_cases ce : e = firS d.1.1.1 (itS d none q ρ)
            · rw [decide_eq_true ce, ← ce, decide_eq_true rfl, decide_eq_true (show e < d.1.1.1 by omega)]; rfl
            · rw [decide_eq_false ce, decide_eq_false (fun h => ce h.symm)]; rfl
          generalize firS d.1.1.1 (itS d none q ρ) = f at cf ep
          have ef : (nI f).toInt = (f : Int) := nIt (by omega)
          rw [ef, Int.toNat_natCast]
          refine Ok.f (fun e => if10.mp e (show 0 ≤ (f : Int) ∧ (f : Int) < d.1.1.1 by omega)) (Ok.t (by omega) (Ok.t (by omega) (Ok.t (by omega) (Ok.bd (Ok.bd ?_)))))
          rw [nI_1, ho f (by omega), nI_1]
          refine ih (q + 1) N _ (by omega) (by omega) (fun e he => ?_) (hf.I rfl)
          rw [es, ep]
          by_cases ce : e = f
          · rw [ce, rI_s, if_pos (decide_eq_true rfl)]
          · rw [rI_k ce, if_neg (by rw [decide_eq_false ce]; decide)]; exact ho e he
        · have ep : ∀ e, ¬ ofP d ρ e q = true := fun e h => by
            unfold ofP at h
            rw [Bool.and_eq_true, decide_eq_true_eq, decide_eq_true_eq] at h
            omega
          refine Ok.t (if10.mpr (show ¬ (0 ≤ (hanS d ρ q).toInt ∧ (hanS d ρ q).toInt < d.1.1.1) by rw [hc.1.mpr cf]; omega)) (Ok.bd ?_)
          rw [nI_1]
          refine ih (q + 1) N _ (by omega) (by omega) (fun e he => ?_) hf
          rw [es, if_neg (ep e)]; exact ho e he
    rw [nI0]
    exact loop Z 0 5000 s2 (by omega) (by omega) (fun e he => h2.2 e he) frm.rf
  · exact Ok.t (if10.mpr c) (Ok.ret ⟨(clo_no (fun h => c h.1)).symm, frm.rf⟩)
theorem q_busiest_m (h : RELx n d t u sd ρ k nx H m tb9 G σ) (hn : n ≤ 512) : Ok (f_X12_busiest x y σ) (fun r s => r = busS d ρ x y ∧ frm wQ wl0 σ s) := by
  have hT := h.tc.T7
  unfold f_X12_busiest
  refine Ok.cle e_isSome ?_
  by_cases c : 1 ≤ x.toInt ∧ x.toInt ≤ 60
  · refine Ok.f (fun e => if10.mp e c) (Ok.cle e_in ?_)
    rw [i0_eq, i1_e]
    by_cases cy : 0 ≤ y.toInt ∧ y.toInt ≤ 1
    · refine Ok.f (fun e => if10.mp e cy) (Ok.cv (m_trial h) (fun s3 h3 => ?_))
      obtain ⟨Z, hZ, rfl⟩ := in_60 c
      rw [busS_in hZ.1 hZ.2 cy]
      have fin : ∀ (dd e N : Nat) (s : HS), e + 1 + dd = 7 → dd < N → (∀ e, e < 7 → s.1 271 e = nI (ofS d ρ Z e)) → frm wQ wl0 σ s → Ok (f_X12_busiest_85 N y (nI (bstS (ofS d ρ Z) e)) (nI (e + 1)) s) (fun r s => r = busI (ofS d ρ Z) y ∧ frm wQ wl0 σ s) := by
        intro dd
        induction dd with
        | zero =>
          intro e N s he hN ho hf
          obtain ⟨N, rfl⟩ : ∃ q, N = q + 1 := ⟨N - 1, by omega⟩
          obtain rfl : e = 6 := by omega
          have hb := bst_le (f := ofS d ρ Z) (e := 6)
          have hc' : ofS d ρ Z (bstS (ofS d ρ Z) 6) ≤ Z := cntB_le
          show Ok (b_X12_busiest_85 (f_X12_busiest_85 N) y _ (nI 7) s) _
          unfold b_X12_busiest_85 busI
          rw [nIt (n := 7) (by omega), nIt (n := bstS (ofS d ρ Z) 6) (by omega), Int.toNat_natCast, ho _ (by omega), nIt (n := ofS d ρ Z (bstS (ofS d ρ Z) 6)) (by omega)]
          refine Ok.f (by omega) (Ok.t (by omega) ?_)
          by_cases c0 : ofS d ρ Z (bstS (ofS d ρ Z) 6) = 0
          · refine Ok.t (by omega) (Ok.ret ⟨?_, hf⟩)
            rw [if_pos c0]
          · refine Ok.f (by omega) ?_
            by_cases cy : y.toInt = 0
            · refine Ok.t cy (Ok.ret ⟨?_, hf⟩)
              rw [if_neg c0, if_pos cy]
            · refine Ok.f cy (Ok.t (by omega) (Ok.ret ⟨?_, hf⟩))
              rw [if_neg c0, if_neg cy]
        | succ dd ih =>
          intro e N s he hN ho hf
          obtain ⟨N, rfl⟩ : ∃ q, N = q + 1 := ⟨N - 1, by omega⟩
          have hb := bst_le (f := ofS d ρ Z) (e := e)
          have hc1 : ofS d ρ Z (bstS (ofS d ρ Z) e) ≤ Z := cntB_le
          have hc2 : ofS d ρ Z (e + 1) ≤ Z := cntB_le
          have eb : bstS (ofS d ρ Z) (e + 1) = if ofS d ρ Z (bstS (ofS d ρ Z) e) < ofS d ρ Z (e + 1) then e + 1 else bstS (ofS d ρ Z) e := rfl
          have ih1 := ih (e + 1) N s (by omega) (by omega) ho hf
          show Ok (b_X12_busiest_85 (f_X12_busiest_85 N) y _ (nI (e + 1)) s) _
          unfold b_X12_busiest_85 f_X12_busiest_111
          rw [nIt (n := e + 1) (by omega), nIt (n := bstS (ofS d ρ Z) e) (by omega), Int.toNat_natCast, Int.toNat_natCast, ho _ (by omega), ho (e + 1) (by omega), nIt (n := ofS d ρ Z (bstS (ofS d ρ Z) e)) (by omega), nIt (n := ofS d ρ Z (e + 1)) (by omega)]
          refine Ok.t (by omega) (Ok.t (by omega) (Ok.t (by omega) ?_))
          by_cases cl : ofS d ρ Z (bstS (ofS d ρ Z) e) < ofS d ρ Z (e + 1)
          · rw [eb, if_pos cl] at ih1
            refine Ok.t (by omega) (Ok.bd ?_)
            rw [nI_1]
            exact ih1
          · rw [eb, if_neg cl] at ih1
            refine Ok.f (by omega) (Ok.bd ?_)
            rw [nI_1]
            exact ih1
      have loop : ∀ (dd q N : Nat) (s : HS), q + dd = Z → dd < N → (∀ e, e < 7 → s.1 271 e = nI (ofS d ρ q e)) → TRm d ρ σ q s → Ok (f_X12_busiest_45 N (nI Z) y (nI q) s) (fun r s => r = busI (ofS d ρ Z) y ∧ frm wQ wl0 σ s) := by
        intro dd
        induction dd with
        | zero =>
          intro q N s hq hN ho hs
          obtain ⟨N, rfl⟩ : ∃ q, N = q + 1 := ⟨N - 1, by omega⟩
          obtain rfl : q = Z := by omega
          show Ok (b_X12_busiest_45 (f_X12_busiest_45 N) (nI q) y (nI q) s) _
          unfold b_X12_busiest_45
          refine Ok.f (Int.lt_irrefl _) ?_
          have := fin 6 0 5000 s (by omega) (by omega) ho hs.2.2
          rw [show nI (bstS (ofS d ρ q) 0) = 0 from nI_0] at this
          exact this
        | succ dd ih =>
          intro q N s hq hN ho hs
          obtain ⟨N, rfl⟩ : ∃ q, N = q + 1 := ⟨N - 1, by omega⟩
          have es : ∀ e, ofS d ρ (q + 1) e = if ofP d ρ e q = true then ofS d ρ q e + 1 else ofS d ρ q e := fun e => rfl
          show Ok (b_X12_busiest_45 (f_X12_busiest_45 N) (nI Z) y (nI q) s) _
          unfold b_X12_busiest_45 f_X12_busiest_74
          rw [nIt (n := q) (by omega), nIt (n := Z) (by omega)]
          refine Ok.t (by omega) (Ok.cv (m_beat h hn (by omega) hs) (fun s1 h1 => ?_))
          obtain ⟨T1, e51, -, -, f1⟩ := h1
          have o1 : ∀ e, e < 7 → s1.1 271 e = nI (ofS d ρ q e) := fun e he => by rw [f1.1 271 e rfl]; exact ho e he
          rw [e51]
          by_cases cf : firS d.1.1.1 (itS d none q ρ) < d.1.1.1
          · have ep : ∀ e, ofP d ρ e q = decide (e = firS d.1.1.1 (itS d none q ρ)) := fun e => by
              unfold ofP
              by_cases ce : e = firS d.1.1.1 (itS d none q ρ)
              · rw [decide_eq_true ce, ← ce, decide_eq_true rfl, decide_eq_true (show e < d.1.1.1 by omega)]; rfl
              · rw [decide_eq_false ce, decide_eq_false (fun h => ce h.symm)]; rfl
            refine Ok.f (fun e => (cau_neg hT).mp e cf) ?_
            unfold cauS
            rw [if_pos cf]
            generalize firS d.1.1.1 (itS d none q ρ) = f at cf ep
            rw [nIt (n := f) (by omega), Int.toNat_natCast]
            refine Ok.t (by omega) (Ok.t (by omega) (Ok.bd (Ok.bd ?_)))
            rw [nI_1, o1 f (by omega), nI_1]
            have f3 : frm (fun a _ => a == 271) wl0 s1 (hI s1 271 f (nI (ofS d ρ q f + 1))) := frm.rf.I rfl
            refine ih (q + 1) N _ (by omega) (by omega) (fun e he => ?_) ⟨T1.1.fr f3 (fun _ => rfl), ?_, T1.2.2.I rfl⟩
            · rw [es, ep]
              by_cases ce : e = f
              · rw [ce, rI_s, if_pos (decide_eq_true rfl)]
              · rw [rI_k ce, if_neg (by rw [decide_eq_false ce]; decide)]; exact o1 e he
            · unfold SDm
              rw [f3.1 236 49 rfl, f3.1 236 50 rfl]; exact T1.2.1
          · have ep : ∀ e, ¬ ofP d ρ e q = true := fun e h => by
              unfold ofP at h
              rw [Bool.and_eq_true, decide_eq_true_eq, decide_eq_true_eq] at h
              omega
            refine Ok.t ((cau_neg hT).mpr cf) (Ok.bd ?_)
            rw [nI_1]
            refine ih (q + 1) N _ (by omega) (by omega) (fun e he => ?_) T1
            rw [es, if_neg (ep e)]; exact o1 e he
      have zero : ∀ (dd q N : Nat) (s : HS), q + dd = 7 → dd < N → (∀ e, e < q → s.1 271 e = 0) → TRm d ρ σ 0 s → Ok (f_X12_busiest_24 N (nI Z) y (nI q) s) (fun r s => r = busI (ofS d ρ Z) y ∧ frm wQ wl0 σ s) := by
        intro dd
        induction dd with
        | zero =>
          intro q N s hq hN ho hs
          obtain ⟨N, rfl⟩ : ∃ q, N = q + 1 := ⟨N - 1, by omega⟩
          obtain rfl : q = 7 := by omega
          show Ok (b_X12_busiest_24 (f_X12_busiest_24 N) (nI Z) y (nI 7) s) _
          unfold b_X12_busiest_24
          refine Ok.f (by decide) ?_
          rw [nI0]
          exact loop Z 0 5000 s (by omega) (by omega) (fun e he => ho e he) hs
        | succ dd ih =>
          intro q N s hq hN ho hs
          obtain ⟨N, rfl⟩ : ∃ q, N = q + 1 := ⟨N - 1, by omega⟩
          show Ok (b_X12_busiest_24 (f_X12_busiest_24 N) (nI Z) y (nI q) s) _
          unfold b_X12_busiest_24
          rw [nIt (n := q) (by omega), Int.toNat_natCast]
          refine Ok.t (by omega) (Ok.t (by omega) (Ok.bd (Ok.bd ?_)))
          rw [nI_1]
          have f3 : frm (fun a _ => a == 271) wl0 s (hI s 271 q 0) := frm.rf.I rfl
          refine ih (q + 1) N _ (by omega) (by omega) (fun e he => ?_) ⟨hs.1.fr f3 (fun _ => rfl), ?_, hs.2.2.I rfl⟩
          · by_cases ce : e = q
            · rw [ce, rI_s]
            · rw [rI_k ce]; exact ho e (by omega)
          · unfold SDm
            rw [f3.1 236 49 rfl, f3.1 236 50 rfl]; exact hs.2.1
      rw [nI0]
      exact zero 7 0 5000 s3 (by omega) (by omega) (fun e he => absurd he (by omega)) h3
    · exact Ok.t (if10.mpr cy) (Ok.ret ⟨(clo_no (fun h => cy h.2)).symm, frm.rf⟩)
  · exact Ok.t (if10.mpr c) (Ok.ret ⟨(clo_no (fun h => c h.1)).symm, frm.rf⟩)
theorem sim_busiest (hn : n ≤ 512) : SIM n (f_X11_busiest x y) (f_X12_busiest x y) := sim_q (fun d t u sd ρ k nx H m tb G σ h => ⟨_, q_busiest_c h hn, fun s hs _ => q_busiest_m hs hn⟩)
end WOULD4
