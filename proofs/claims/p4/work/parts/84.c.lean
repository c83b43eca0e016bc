/-! the class: a beat, wholly -/
section BEATD
variable {σ s : HS} {a T tx : Nat} {ρ ρ' : Nat → Int32} {d : DAT} {b : Int} {sd : Option Int32}
theorem hld_rg {x lo hi : Int32} (h : lo.toInt ≤ hi.toInt) : lo.toInt ≤ (hldI x lo hi).toInt ∧ (hldI x lo hi).toInt ≤ hi.toInt := by
  unfold hldI
  by_cases c : x.toInt < lo.toInt
  · rw [if_pos c]; omega
  · rw [if_neg c]
    by_cases c2 : hi.toInt < x.toInt
    · rw [if_pos c2]; omega
    · rw [if_neg c2]; omega
theorem law_rg {k : Nat} {v : Nat → Int32} (hk : k = 0 ∨ k = 3) : 0 ≤ (lawV d k v).toInt ∧ (lawV d k v).toInt ≤ 99 := by
  unfold lawV clampS
  rw [if_neg (by omega), if_neg (by omega)]
  exact hld_rg (by decide)
theorem mn_hld {x hi : Int32} (h : 0 ≤ x.toInt) : (if x < hi then x else hi) = hldI x 0 hi := by
  have e0 : (0 : Int32).toInt = 0 := rfl
  unfold hldI
  rw [if_neg (show ¬ x.toInt < (0 : Int32).toInt by rw [e0]; omega)]
  by_cases c : x < hi
  · have := Int32.lt_iff_toInt_lt.mp c
    rw [if_pos c, if_neg (by omega)]
  · have c' : ¬ x.toInt < hi.toInt := fun e => c (Int32.lt_iff_toInt_lt.mpr e)
    rw [if_neg c]
    by_cases c2 : hi.toInt < x.toInt
    · rw [if_pos c2]
    · rw [if_neg c2]
      exact Int32.toInt_inj.mp (by omega)
theorem mx_hld {x hi : Int32} (h : x.toInt ≤ hi.toInt) : (if (0 : Int32) < x then x else 0) = hldI x 0 hi := by
  have e0 : (0 : Int32).toInt = 0 := rfl
  unfold hldI
  rw [e0]
  by_cases c : (0 : Int32) < x
  · have h1 := Int32.lt_iff_toInt_lt.mp c
    rw [e0] at h1
    rw [if_pos c, if_neg (by omega), if_neg (by omega)]
  · have c' : ¬ (0 : Int) < x.toInt := fun e => c (Int32.lt_iff_toInt_lt.mpr (by rw [e0]; exact e))
    rw [if_neg c]
    by_cases c2 : x.toInt < 0
    · rw [if_pos c2]
    · rw [if_neg c2, if_neg (by omega)]
      exact Int32.toInt_inj.mp (by rw [e0]; omega)
theorem VC.fr {w : Nat → Nat → Bool} {wl : Nat → Bool} {e : Nat} {up : Int32} (h : VC d ρ e up σ) (hf : frm w wl σ s) (hw : ∀ k, k ≠ 2 → w 10 k = false) : VC d ρ e up s := fun k hk h2 => by rw [hf.1 _ _ (hw k h2)]; exact h k hk h2
theorem wAi_10 {k : Nat} (ha : aAi a) : wAi a 10 k = false := wAi_no (Or.inl (by have := ha.1; omega))
theorem wAi_tx {i k : Nat} (ha : aAi a) (htx : txk tx) (h : i ≤ tx + 12) : wAi a i k = false := wAi_no (Or.inl (by have := ha.1; rcases htx with rfl | rfl <;> omega))
theorem wAns_tx {i k : Nat} (htx : txk tx) (h : tx ≤ i) : wAns i k = false := by
  have := htx.lo
  unfold wAns wAsk; simp; omega
theorem wAns_a {i k : Nat} (ha : aAi a) (h : a ≤ i) : wAns i k = false := by
  have := ha.1
  unfold wAns wAsk; simp; omega
theorem w_catch43 {e : Nat} {up h : Int32} (hA : AR a T ρ σ) (hC : TC tx d σ) (hD : DOK d) (htx : txk tx) (ha : aAi a) (hT : T ≤ 7) (he : e < T) (hV : VC d ρ e up σ) (ht : 0 ≤ (ρ 22).toInt ∧ (ρ 22).toInt ≤ 999) : Okv (f_X4_catchOne_43 tx a (nI e) h σ) (fun s => AR a T (thrS ρ e h (lawV d 0 (varS d ρ e up h)) (lawV d 3 (varS d ρ e up 0))) s ∧ frm (wBt a) wl0 σ s) := by
  have a56 := ha.1
  unfold f_X4_catchOne_43
  rw [show (3 : Int32) = nI 3 from rfl]
  refine Okv.cl (w_asksV (k := 3) hV hC hD htx (by decide)) (fun r2 s1 h1 => ?_)
  obtain ⟨rfl, f1, v1⟩ := h1
  generalize hp : lawV d 3 (varS d ρ e up 0) = p
  refine Okv.bd ?_
  have A1 : AR a T ρ s1 := hA.fr f1 (fun i k x y => wAns_a ha x)
  rw [hA.2.2.1 8 (by decide) (by decide)]
  have A3 := A1.f (k := 8) (v := ρ (17 + 8) + p) hT (by decide) (by decide)
  generalize hs3 : hI s1 a 8 (ρ (17 + 8) + p) = s3 at A3
  have f3 : frm (wAi a) wl0 s1 s3 := by rw [← hs3]; exact frm.rf.I (by unfold wAi; simp)
  have V3 : VC d ρ e up s3 := v1.fr f3 (fun k _ => wAi_10 ha)
  have C3 : TC tx d s3 := (hC.fr f1 (fun i k x y => wAns_tx htx x)).fr f3 (fun i k x y => wAi_tx ha htx y)
  rw [show (0 : Int32) = nI 0 from nI_0.symm]
  refine Okv.cl (w_asksV (k := 0) V3 C3 hD htx (by decide)) (fun r5 s4 h4 => ?_)
  obtain ⟨rfl, f4, v4⟩ := h4
  generalize hq : lawV d 0 (varS d ρ e up h) = q
  have q1 : 0 ≤ q.toInt ∧ q.toInt ≤ 99 := by rw [← hq]; exact law_rg (Or.inl rfl)
  have x22 : (ρ 22 + q).toInt = (ρ 22).toInt + q.toInt := i32_add (by omega)
  have A4 : AR a T _ s4 := A3.fr f4 (fun i k x y => wAns_a ha x)
  have e5 : s3.1 a 5 = ρ 22 := by rw [A3.2.2.1 5 (by decide) (by decide)]; exact upF_n (by decide)
  rw [e5, mn_hld (by rw [x22]; omega)]
  refine Okv.bd ?_
  clear x22
  have A6 := A4.f (k := 5) (v := hldI (ρ 22 + q) 0 999) hT (by decide) (by decide)
  generalize hs6 : hI s4 a 5 (hldI (ρ 22 + q) 0 999) = s6 at A6
  have f6 : frm (wAi a) wl0 s4 s6 := by rw [← hs6]; exact frm.rf.I (by unfold wAi; simp)
  have e7 : s6.1 a 7 = ρ 24 := by rw [A6.2.2.1 7 (by decide) (by decide), upF_n (by decide), upF_n (by decide)]
  rw [e7]
  refine Okv.bd ?_
  have A7 := A6.f (k := 7) (v := ρ 24 + 1) hT (by decide) (by decide)
  generalize hs7 : hI s6 a 7 (ρ 24 + 1) = s7 at A7
  have f7 : frm (wAi a) wl0 s6 s7 := by rw [← hs7]; exact frm.rf.I (by unfold wAi; simp)
  have e8 : s7.1 (a + 3) e = ρ (14 + e) := by rw [(A7.2.1 e he).2.2, upF_n (by omega), upF_n (by omega), upF_n (by omega)]
  rw [nIt (by omega), Int.toNat_natCast, e8]
  refine Okv.t (by omega) (Okv.t (by omega) (Okv.bd (Okv.t (by omega) (Okv.bd ?_))))
  have A9 := (A7.c (k := e) (v := ρ (14 + e) + 1) hT he).l (k := e) (v := h) hT he
  generalize hs9 : hI (hI s7 (a + 3) e (ρ (14 + e) + 1)) (a + 2) e h = s9 at A9
  have f9 : frm (wAi a) wl0 s7 s9 := by rw [← hs9]; exact (frm.rf.I (by unfold wAi; simp)).I (by unfold wAi; simp)
  have up' : ∀ {x y : HS}, frm (wAi a) wl0 x y → frm (wBt a) wl0 x y := fun hf => hf.mono (fun _ _ => wBt_Ai) (fun _ e => e)
  have up2 : ∀ {x y : HS}, frm wAns wl0 x y → frm (wBt a) wl0 x y := fun hf => hf.mono (fun _ _ => wBt_An) (fun _ e => e)
  have F9 : frm (wBt a) wl0 σ s9 := ((((((up2 f1).tr (up' f3)).tr (up2 f4)).tr (up' f6)).tr (up' f7)).tr (up' f9))
  by_cases c : h.toInt = 0
  · refine Okv.t c (Okv.t (by omega) (Okv.bd (Okv.ret ⟨(A9.w (k := e) (v := 1) hT he).cg hT (fun i hi => ?_), F9.I (by unfold wBt wAi; simp)⟩)))
    unfold thrS upF
    simp only [c, and_true]
    repeat' split
    all_goals first | rfl | omega | (subst_vars; rfl) | (exfalso; omega)
  · refine Okv.f c (Okv.ret ⟨A9.cg hT (fun i hi => ?_), F9⟩)
    unfold thrS upF
    simp only [c, and_false, if_false]
    repeat' split
    all_goals first | rfl | omega | (subst_vars; rfl) | (exfalso; omega)
/-- which seed drops are drawn by: none goes without -/
def SDr (x : Int32) (sd : Option Int32) : Prop := (sd = none ∧ x.toInt = -1) ∨ (sd = some x ∧ x.toInt ≠ -1)
theorem e_lot {x w : Int32} : f_X4_lot 100 x w σ = some (lotI x w, σ) := by
  unfold f_X4_lot f_X4_stir
  simp only [Bd, Cl]
  rw [if_neg (by decide), if_neg (by decide)]
  rfl
theorem w_catchOne {e : Nat} {x : Int32} (hA : AR a T ρ σ) (hC : TC tx d σ) (hD : DOK d) (htx : txk tx) (ha : aAi a) (hT : T = d.1.1.1) (he : e < T) (hV : VC d ρ e (upsS T ρ) σ) (hW : RW d b ρ) (hb : b ≤ 100000) (hx : SDr x sd) : Okv (f_X4_catchOne tx a (nI e) x σ) (fun s => AR a T (catS d sd e ρ) s ∧ frm (wBt a) wl0 σ s) := by
  have hT7 : T ≤ 7 := by rw [hT]; exact hC.T7
  have a56 := ha.1
  unfold f_X4_catchOne catS
  rw [← hT]
  refine Okv.cle (e_heightBy hA hC hW hb htx) ?_
  rcases hx with ⟨rfl, h1⟩ | ⟨rfl, h1⟩
  · rw [if_neg (show ¬ (false : Bool) = true by decide)]
    exact Okv.t h1 (w_catch43 hA hC hD htx ha hT7 he hV hW.2.2.2.2.2)
  · refine Okv.f h1 ?_
    rw [hA.2.2.1 4 (by decide) (by decide)]
    refine Okv.cle e_lot ?_
    rw [show (1 : Int32) = nI 1 from rfl]
    refine Okv.cl (w_asksV (k := 1) hV hC hD htx (by decide)) (fun r6 s5 h5 => ?_)
    obtain ⟨rfl, f5, v5⟩ := h5
    have A5 : AR a T ρ s5 := hA.fr f5 (fun i k x y => wAns_a ha x)
    have C5 : TC tx d s5 := hC.fr f5 (fun i k x y => wAns_tx htx x)
    have F5 : frm (wBt a) wl0 σ s5 := f5.mono (fun _ _ => wBt_An) (fun _ e => e)
    show Okv (if (lotI x ((4 : Int32) * ρ 21)).toInt < _ then _ else _) (fun s => AR a T (if decide ((lotI x ((4 : Int32) * ρ 21)).toInt < (lawV d 1 (varS d ρ e (upsS T ρ) (hgtS d ρ))).toInt) = true then _ else _) s ∧ _)
    by_cases c : (lotI x ((4 : Int32) * ρ 21)).toInt < (lawV d 1 (varS d ρ e (upsS T ρ) (hgtS d ρ))).toInt
    · refine Okv.t c (Okv.cve (e_drop (by omega)) (Okv.ret ⟨?_, (F5.I (by unfold wBt wAi; simp)).I (by unfold wBt wAi; simp)⟩))
      rw [if_pos (decide_eq_true c), A5.2.2.1 6 (by decide) (by decide)]
      exact (A5.w (k := e) (v := 2) hT7 he).f (k := 6) hT7 (by decide) (by decide)
    · refine Okv.f c ?_
      rw [if_neg (by rw [decide_eq_false c]; decide)]
      exact (w_catch43 A5 C5 hD htx ha hT7 he v5 hW.2.2.2.2.2).mono (fun s h => ⟨h.1, F5.tr h.2⟩)
def decU (k : Nat) (ρ : Nat → Int32) : Nat → Int32 := fun i => if 7 ≤ i ∧ i < 7 + k ∧ (ρ (i - 7)).toInt = 0 then ρ i - 1 else ρ i
theorem w_dec (ha : aAi a) (hT : T ≤ 7) (hA : AR a T ρ σ) : Okv (f_X4_oneBeat_89 tx a σ) (fun s => AR a T (decS T ρ) s ∧ frm (wAi a) wl0 σ s) := by
  have a56 := ha.1
  have loop : ∀ (dd k N : Nat) (s : HS), k + dd = T → dd < N → AR a T (decU k ρ) s → frm (wAi a) wl0 σ s → Okv (f_X4_oneBeat_92 tx a N (nI k) s) (fun s => AR a T (decS T ρ) s ∧ frm (wAi a) wl0 σ s) := by
    intro dd
    induction dd with
    | zero =>
      intro k N s hk hN hA hf
      obtain ⟨N, rfl⟩ : ∃ q, N = q + 1 := ⟨N - 1, by omega⟩
      obtain rfl : k = T := by omega
      show Okv (b_X4_oneBeat_92 tx a (f_X4_oneBeat_92 tx a N) (nI k) s) _
      unfold b_X4_oneBeat_92
      rw [hA.1]
      refine Okv.f (by omega) (Okv.bd (Okv.bd (Okv.ret ⟨?_, (hf.I (by unfold wAi; simp)).I (by unfold wAi; simp)⟩)))
      rw [hA.2.2.1 4 (by decide) (by decide)]
      refine ((hA.f (k := 4) hT (by decide) (by decide)).h hT).cg hT (fun i hi => ?_)
      unfold upF decS decU
      repeat' split
      all_goals first | rfl | omega | (subst_vars; rfl) | (exfalso; omega)
    | succ dd ih =>
      intro k N s hk hN hA hf
      obtain ⟨N, rfl⟩ : ∃ q, N = q + 1 := ⟨N - 1, by omega⟩
      show Okv (b_X4_oneBeat_92 tx a (f_X4_oneBeat_92 tx a N) (nI k) s) _
      unfold b_X4_oneBeat_92 f_X4_oneBeat_121
      rw [hA.1, nIt (n := k) (by omega), nIt (n := T) (by omega), Int.toNat_natCast]
      refine Okv.t (by omega) (Okv.cle (e_isUp (by omega)) ?_)
      have eu : upA s a k = decide ((ρ k).toInt = 0) := by
        rw [hA.up (by omega)]
        unfold upR decU
        rw [if_neg (by omega)]
      rw [eu]
      by_cases c : (ρ k).toInt = 0
      · rw [if_pos (decide_eq_true c)]
        refine Okv.f i1_ne (Okv.t (by omega) (Okv.t (by omega) (Okv.bd (Okv.bd ?_))))
        rw [nI_1, (hA.2.1 k (by omega)).2.1]
        refine ih (k + 1) N _ (by omega) (by omega) ((hA.l (k := k) hT (by omega)).cg hT (fun i hi => ?_)) (hf.I (by unfold wAi; simp))
        unfold upF decU
        by_cases ci : i = 7 + k
        · subst ci
          rw [if_pos rfl, if_neg (by omega), if_pos ⟨by omega, by omega, by rw [Nat.add_sub_cancel_left]; exact c⟩]
        · rw [if_neg ci]
          by_cases c3 : 7 ≤ i ∧ i < 7 + k ∧ (ρ (i - 7)).toInt = 0
          · rw [if_pos c3, if_pos ⟨c3.1, by omega, c3.2.2⟩]
          · rw [if_neg c3, if_neg (fun h => c3 ⟨h.1, by omega, h.2.2⟩)]
      · have cn : ¬ decide ((ρ k).toInt = 0) = true := by rw [decide_eq_false c]; decide
        rw [if_neg cn]
        refine Okv.t i0_eq (Okv.bd ?_)
        rw [nI_1]
        refine ih (k + 1) N s (by omega) (by omega) (hA.cg hT (fun i hi => ?_)) hf
        unfold decU
        by_cases c3 : 7 ≤ i ∧ i < 7 + k ∧ (ρ (i - 7)).toInt = 0
        · rw [if_pos c3, if_pos ⟨c3.1, by omega, c3.2.2⟩]
        · rw [if_neg c3, if_neg (fun h => c3 ⟨h.1, by
            by_cases e : i = 7 + k
            · exfalso
              rw [e, Nat.add_sub_cancel_left] at h
              exact c h.2.2
            · omega, h.2.2⟩)]
  unfold f_X4_oneBeat_89
  rw [nI0]
  refine loop T 0 5000 σ (by omega) (by omega) (hA.cg hT (fun i hi => ?_)) frm.rf
  unfold decU
  rw [if_neg (by omega)]
theorem drop_step {k f : Nat} (hk : k < 7) (hf : k ≠ f) (i : Nat) : dropS (k + 1) f ρ i = if lnR ρ 0 k = true then upF (upF (dropS k f ρ) k 2) 23 (dropS k f ρ 23 + 1) i else dropS k f ρ i := by
  have c23 : ∀ j, j ≤ 7 → dropS j f ρ 23 = ρ 23 + nI (cntB (fun e => decide (e ≠ f) && lnR ρ 0 e) j) := fun j hj => by unfold dropS; rw [if_neg (by omega), if_pos rfl]
  have cs : cntB (fun e => decide (e ≠ f) && lnR ρ 0 e) (k + 1) = if lnR ρ 0 k = true then cntB (fun e => decide (e ≠ f) && lnR ρ 0 e) k + 1 else cntB (fun e => decide (e ≠ f) && lnR ρ 0 e) k := by
    show (if (decide (k ≠ f) && lnR ρ 0 k) = true then _ else _) = _
    rw [decide_eq_true hf, Bool.true_and]
  by_cases c : lnR ρ 0 k = true
  · rw [if_pos c] at cs ⊢
    unfold upF
    by_cases e23 : i = 23
    · rw [if_pos e23, e23, c23 _ (by omega), c23 _ (by omega), cs, ← nI_1, Int32.add_assoc]
    · rw [if_neg e23]
      by_cases ek : i = k
      · rw [if_pos ek]
        unfold dropS
        rw [if_pos ⟨by omega, by omega, by rw [ek]; exact c⟩]
      · rw [if_neg ek]
        unfold dropS
        rw [if_neg e23, if_neg e23]
        by_cases c3 : i < k ∧ i ≠ f ∧ lnR ρ 0 i = true
        · rw [if_pos c3, if_pos ⟨by omega, c3.2⟩]
        · rw [if_neg c3, if_neg (fun h => c3 ⟨by omega, h.2⟩)]
  · rw [if_neg c] at cs ⊢
    by_cases e23 : i = 23
    · rw [e23, c23 _ (by omega), c23 _ (by omega), cs]
    · unfold dropS
      rw [if_neg e23, if_neg e23]
      by_cases c3 : i < k ∧ i ≠ f ∧ lnR ρ 0 i = true
      · rw [if_pos c3, if_pos ⟨by omega, c3.2⟩]
      · rw [if_neg c3, if_neg (fun h => c3 ⟨by
          by_cases e : i = k
          · exfalso; rw [e] at h; exact c h.2.2
          · omega, h.2⟩)]
theorem cnt_zero {p : Nat → Bool} : ∀ {n : Nat}, (∀ e, e < n → p e = false) → cntB p n = 0 := by
  intro n
  induction n with
  | zero => intro _; rfl
  | succ n ih =>
    intro h
    show (if p n = true then cntB p n + 1 else cntB p n) = 0
    rw [if_neg (by rw [h n (by omega)]; decide)]
    exact ih (fun e he => h e (by omega))
theorem drop_first {i : Nat} (hi : i < 29) : dropS (firS T ρ + 1) (firS T ρ) ρ i = ρ i := by
  have no : ∀ e, e < firS T ρ → lnR ρ 0 e = false := fun e he => ffB_no (Nat.zero_le _) he
  unfold dropS
  rw [if_neg (fun h => by
    have := no i (by omega)
    rw [h.2.2] at this
    exact absurd this (by decide))]
  by_cases c : i = 23
  · rw [if_pos c, cnt_zero (fun e he => ?_), nI_0, Int32.add_zero, c]
    by_cases ef : e = firS T ρ
    · rw [ef]; simp
    · rw [no e (by omega), Bool.and_false]
  · rw [if_neg c]
theorem RW.drop {f : Nat} (h : RW d b ρ) (hT : d.1.1.1 ≤ 7) : RW d b (dropS d.1.1.1 f ρ) := by
  obtain ⟨w1, w2, w3, w4, w5, w6⟩ := h
  have n : ∀ i, 7 ≤ i → i ≠ 23 → dropS d.1.1.1 f ρ i = ρ i := fun i h1 h2 => by
    unfold dropS
    rw [if_neg (by omega), if_neg h2]
  refine ⟨fun e he => ?_, by rw [n 21 (by decide) (by decide)]; exact w2, by rw [n 27 (by decide) (by decide), n 21 (by decide) (by decide)]; exact w3, by rw [n 26 (by decide) (by decide)]; exact w4, by rw [n 28 (by decide) (by decide)]; exact w5, by rw [n 22 (by decide) (by decide)]; exact w6⟩
  rw [n (7 + e) (by omega) (by omega)]
  unfold dropS
  by_cases c : e < d.1.1.1 ∧ e ≠ f ∧ lnR ρ 0 e = true
  · rw [if_pos c]; exact ⟨by decide, fun h => absurd h (by decide)⟩
  · rw [if_neg c, if_neg (by omega)]; exact w1 e he
theorem w_oneBeat {x : Int32} (hA : AR a d.1.1.1 ρ σ) (hC : TC tx d σ) (hD : DOK d) (htx : txk tx) (ha : aAi a) (hW : RW d b ρ) (hb : b ≤ 100000) (hx : SDr x sd) : Okv (f_X4_oneBeat tx a x σ) (fun s => AR a d.1.1.1 (beatS d sd ρ) s ∧ frm (wBt a) wl0 σ s) := by
  have hT := hC.T7
  have a56 := ha.1
  have lo := htx.lo
  have up' : ∀ {x y : HS}, frm (wAi a) wl0 x y → frm (wBt a) wl0 x y := fun hf => hf.mono (fun _ _ => wBt_Ai) (fun _ e => e)
  have et : ∀ {s' : HS}, frm (wBt a) wl0 σ s' → TC tx d s' := fun hf => hC.fr hf (fun i k x y => wBt_no (Or.inl (by rcases htx with rfl | rfl <;> omega)) (Or.inr (by omega)))
  unfold f_X4_oneBeat beatS midS
  refine Okv.cle (e_firstLanding hA.1 hT) ?_
  unfold firI
  rw [hA.ff]
  have hf := ffB_rg (p := lnR ρ 0) (d := d.1.1.1) (e := 0)
  by_cases c : firS d.1.1.1 ρ < d.1.1.1
  · rw [if_pos c, if_pos c]
    generalize hff : firS d.1.1.1 ρ = f at c
    refine Okv.f (by rw [nIt (by omega)]; omega) (Okv.bd ?_)
    rw [nI_1]
    -- all others are dropped
    have loop : ∀ (dd k N : Nat) (s : HS), k + dd = d.1.1.1 → dd < N → f < k → AR a d.1.1.1 (dropS k f ρ) s → frm (wBt a) wl0 σ s → Okv (f_X4_oneBeat_38 tx a N x (nI f) (nI k) s) (fun s => AR a d.1.1.1 (decS d.1.1.1 (catS d sd f (dropS d.1.1.1 f ρ))) s ∧ frm (wBt a) wl0 σ s) := by
      intro dd
      induction dd with
      | zero =>
        intro k N s hk hN hfk hA' hfr
        obtain ⟨N, rfl⟩ : ∃ q, N = q + 1 := ⟨N - 1, by omega⟩
        have ek : k = d.1.1.1 := by omega
        rw [ek] at hA' ⊢
        show Okv (b_X4_oneBeat_38 tx a (f_X4_oneBeat_38 tx a N) x (nI f) (nI d.1.1.1) s) _
        unfold b_X4_oneBeat_38
        rw [hA'.1]
        refine Okv.f (by omega) (Okv.cle (e_howManyUp hA'.1 hT) ?_)
        rw [hA'.cntUp]
        have C' := et hfr
        refine Okv.cv (e_lookAt hA' C' htx ha c hT c) (fun s3 h3 => ?_)
        obtain ⟨v3, f3⟩ := h3
        have f3' : frm (wBt a) wl0 s s3 := f3.mono (fun i k e => by
          unfold wBt at e
          simp only [Bool.or_eq_false_iff] at e
          exact e.1.2) (fun _ e => e)
        have A3 : AR a d.1.1.1 (dropS d.1.1.1 f ρ) s3 := hA'.fr f3 (fun i k x y => by simp; omega)
        refine Okv.cv (w_catchOne A3 (et (hfr.tr f3')) hD htx ha rfl c v3 (hW.drop hT) hb hx) (fun s5 h5 => ?_)
        exact (w_dec (tx := tx) ha hT h5.1).mono (fun s h => ⟨h.1, ((hfr.tr f3').tr h5.2).tr (up' h.2)⟩)
      | succ dd ih =>
        intro k N s hk hN hfk hA' hfr
        obtain ⟨N, rfl⟩ : ∃ q, N = q + 1 := ⟨N - 1, by omega⟩
        show Okv (b_X4_oneBeat_38 tx a (f_X4_oneBeat_38 tx a N) x (nI f) (nI k) s) _
        unfold b_X4_oneBeat_38 f_X4_oneBeat_62
        rw [hA'.1, nIt (n := k) (by omega), nIt (n := d.1.1.1) (by omega)]
        refine Okv.t (by omega) (Okv.cle (e_landsNow (by omega)) ?_)
        have el : lnA s a k = lnR ρ 0 k := by
          rw [hA'.ln (by omega)]
          unfold lnR dropS
          rw [if_neg (by omega), if_neg (by omega), if_neg (by omega), if_neg (by omega)]
        have st := drop_step (ρ := ρ) (k := k) (f := f) (by omega) (by omega)
        rw [el]
        by_cases c2 : lnR ρ 0 k = true
        · rw [if_pos c2]
          refine Okv.f i1_ne (Okv.cve (e_drop (by omega)) (Okv.bd ?_))
          rw [nI_1, hA'.2.2.1 6 (by decide) (by decide)]
          refine ih (k + 1) N _ (by omega) (by omega) (by omega) (((hA'.w (k := k) (v := 2) hT (by omega)).f (k := 6) hT (by decide) (by decide)).cg hT (fun i hi => ?_)) ((hfr.I (by unfold wBt wAi; simp)).I (by unfold wBt wAi; simp))
          rw [st i, if_pos c2]
        · rw [if_neg c2]
          refine Okv.t i0_eq (Okv.bd ?_)
          rw [nI_1]
          refine ih (k + 1) N _ (by omega) (by omega) (by omega) (hA'.cg hT (fun i hi => ?_)) hfr
          rw [st i, if_neg c2]
    refine loop (d.1.1.1 - (f + 1)) (f + 1) 5000 σ (by omega) (by omega) (by omega) (hA.cg hT (fun i hi => ?_)) frm.rf
    rw [← hff, drop_first hi]
  · rw [if_neg c, if_neg c]
    refine Okv.t (by decide) (Okv.bd ?_)
    have r0 := hC.2.2.1.1
    have rr := hD.2.2.1.1
    have t0 := hW.2.2.2.2.2
    have er : σ.1 tx 10 = Int32.ofInt d.2.1.1 := ofI r0
    have xs : (ρ 22 - Int32.ofInt d.2.1.1).toInt = (ρ 22).toInt - d.2.1.1 := by
      rw [i32_sub (by rw [← er, r0]; omega), ← er, r0]
    rw [hA.2.2.1 5 (by decide) (by decide), er, mx_hld (hi := 999) (by
      show (ρ 22 - Int32.ofInt d.2.1.1).toInt ≤ 999
      rw [xs]; omega)]
    clear xs
    have A1 := hA.f (k := 5) (v := hldI (ρ (17 + 5) - Int32.ofInt d.2.1.1) 0 999) hT (by decide) (by decide)
    exact (w_dec (tx := tx) ha hT A1).mono (fun s h => ⟨h.1, (frm.rf.I (by unfold wBt wAi; simp)).tr (up' h.2)⟩)
end BEATD
