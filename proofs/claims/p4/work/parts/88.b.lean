/-! what would be: inHand, busiest, load, rule, lands -/
section WOULB
variable {σ s : HS} {n t u sd k nx m p L T : Nat} {ρ : Nat → Int32} {d : DAT} {b : Int} {H G : Nat → Nat → Int32} {tb9 : Nat → Nat} {x y z : Int32}
theorem e_isLong : f_X12_isLong x σ = some (if 0 ≤ x.toInt ∧ x.toInt ≤ 60 then 1 else 0, σ) := by
  unfold f_X12_isLong
  rw [e_in]
  simp only [Cl]
  have e6 : (60 : Int32).toInt = 60 := rfl
  rw [i0_eq, e6]
  by_cases c : 0 ≤ x.toInt ∧ x.toInt ≤ 60
  · rw [if_pos c]; rfl
  · rw [if_neg c]; rfl
theorem e_isSome : f_X12_isSome x σ = some (if 1 ≤ x.toInt ∧ x.toInt ≤ 60 then 1 else 0, σ) := by
  unfold f_X12_isSome
  rw [e_in]
  simp only [Cl]
  have e6 : (60 : Int32).toInt = 60 := rfl
  rw [i1_e, e6]
  by_cases c : 1 ≤ x.toInt ∧ x.toInt ≤ 60
  · rw [if_pos c]; rfl
  · rw [if_neg c]; rfl
theorem e_isSpan : f_X11_isSpan x σ = some (if 1 ≤ x.toInt ∧ x.toInt ≤ 60 then 1 else 0, σ) := by
  unfold f_X11_isSpan
  by_cases c : x.toInt < 1
  · rw [if_pos c, if_neg (show ¬ (1 ≤ x.toInt ∧ x.toInt ≤ 60) by omega)]
  · rw [if_neg c]
    by_cases c2 : 60 < x.toInt
    · rw [if_pos c2, if_neg (show ¬ (1 ≤ x.toInt ∧ x.toInt ≤ 60) by omega)]
    · rw [if_neg c2, if_pos (show 1 ≤ x.toInt ∧ x.toInt ≤ 60 by omega)]
theorem c_safe2 {q : Nat} (h : RELx n d t u sd ρ k nx H m tb9 G σ) (hn : n ≤ 512) (hq : q ≤ 1000) (hs : TRc d ρ σ q s) : Okv (f_X4_goOnSafely t 60 s) (fun s1 => TRc d ρ σ (q + 1) s1 ∧ frm (wBt 60) wl0 s s1) := by
  have h2 := h.fr hs.2
  have hW : RW d (30720 + q) (itS d none q ρ) := RW.it h.ok h.tc.ln (by omega) (h.n0 hn)
  refine (w_goOnSafely h2.tc h.ok h.tk a60 hs.1 hW (by omega)).mono (fun s1 h1 => ⟨⟨?_, hs.2.tr (h1.2.sub bt_wQ)⟩, h1.2⟩)
  rw [it_succ]; exact h1.1
def hanS (d : DAT) (ρ : Nat → Int32) (i : Nat) : Int32 := firI (lnR (itS d none i ρ) 0) d.1.1.1 (-1)
theorem w_findHands {Z : Nat} (h : RELx n d t u sd ρ k nx H m tb9 G σ) (hn : n ≤ 512) (hZ : Z ≤ 61) : Okv (f_X11_findHands (nI Z) σ) (fun s => (∀ i, i < Z → s.1 27 i = hanS d ρ i) ∧ frm wQ wl0 σ s) := by
  have hT := h.tc.T7
  unfold f_X11_findHands
  refine Okv.cv (c_trial h) (fun s1 h1 => ?_)
  have loop : ∀ (dd q N : Nat) (s : HS), q + dd = Z → dd < N → (∀ i, i < q → s.1 27 i = hanS d ρ i) → TRc d ρ σ q s → Okv (f_X11_findHands_13 N (nI Z) (nI q) s) (fun s => (∀ i, i < Z → s.1 27 i = hanS d ρ i) ∧ frm wQ wl0 σ s) := by
    intro dd
    induction dd with
    | zero =>
      intro q N s hq hN hh hs
      obtain ⟨N, rfl⟩ : ∃ q, N = q + 1 := ⟨N - 1, by omega⟩
      show Okv (b_X11_findHands_13 (f_X11_findHands_13 N) (nI Z) (nI q) s) _
      unfold b_X11_findHands_13
      rw [nIt (n := q) (by omega), nIt (n := Z) (by omega)]
      exact Okv.f (by omega) (Okv.ret ⟨fun i hi => hh i (by omega), hs.2⟩)
    | succ dd ih =>
      intro q N s hq hN hh hs
      obtain ⟨N, rfl⟩ : ∃ q, N = q + 1 := ⟨N - 1, by omega⟩
      show Okv (b_X11_findHands_13 (f_X11_findHands_13 N) (nI Z) (nI q) s) _
      unfold b_X11_findHands_13
      rw [nIt (n := q) (by omega), nIt (n := Z) (by omega), Int.toNat_natCast]
      refine Okv.t (by omega) (Okv.t (by omega) (Okv.cle (e_firstLanding hs.1.1 hT) (Okv.t (by omega) (Okv.bd ?_))))
      have ev : firI (lnA s 60) d.1.1.1 (-1) = hanS d ρ q := by
        unfold hanS firI
        rw [hs.1.ff]; rfl
      rw [ev]
      generalize hs3 : hI s 27 q (hanS d ρ q) = s3
      have f3 : frm (fun a _ => a == 27) wl0 s s3 := by rw [← hs3]; exact frm.rf.I rfl
      have F3 : frm wQ wl0 σ s3 := by rw [← hs3]; exact hs.2.I rfl
      have T3 : TRc d ρ σ q s3 := ⟨hs.1.fr f3 (fun i k x y => by simp; omega), F3⟩
      rw [TRc.t0 h T3]
      refine Okv.t h.tk (Okv.cv (c_safe2 h hn (by omega) T3) (fun s5 h5 => Okv.bd ?_))
      rw [nI_1]
      refine ih (q + 1) N s5 (by omega) (by omega) (fun i hi => ?_) h5.1
      rw [h5.2.1 27 i rfl, ← hs3]
      by_cases c : i = q
      · rw [c, rI_s]
      · rw [rI_k c]; exact hh i (by omega)
  rw [nI0]
  exact loop Z 0 5000 s1 (by omega) (by omega) (fun i hi => absurd hi (by omega)) h1
theorem han_cau {i : Nat} (hT : d.1.1.1 ≤ 7) : ((hanS d ρ i).toInt = -1 ↔ ¬ firS d.1.1.1 (itS d none i ρ) < d.1.1.1) ∧ (firS d.1.1.1 (itS d none i ρ) < d.1.1.1 → hanS d ρ i = nI (firS d.1.1.1 (itS d none i ρ))) := by
  have e : hanS d ρ i = if firS d.1.1.1 (itS d none i ρ) < d.1.1.1 then nI (firS d.1.1.1 (itS d none i ρ)) else -1 := rfl
  rw [e]
  by_cases c : firS d.1.1.1 (itS d none i ρ) < d.1.1.1
  · rw [if_pos c]
    refine ⟨?_, fun _ => rfl⟩
    rw [nIt (by omega)]
    exact ⟨fun h => by omega, fun h => absurd c h⟩
  · rw [if_neg c]
    exact ⟨⟨fun _ => c, fun _ => by decide⟩, fun h => absurd h c⟩
/-! inHand -/
def inhS (d : DAT) (ρ : Nat → Int32) (x : Int32) : Int32 := if 0 ≤ x.toInt ∧ x.toInt ≤ 60 then cauS d.1.1.1 (itS d none x.toInt.toNat ρ) else -1
theorem inhS_in {q : Nat} (hq : q ≤ 60) : inhS d ρ (nI q) = cauS d.1.1.1 (itS d none q ρ) := by
  unfold inhS
  rw [nIt (by omega), Int.toNat_natCast]
  exact if_pos ⟨by omega, by omega⟩
theorem q_inHand_c (h : RELx n d t u sd ρ k nx H m tb9 G σ) (hn : n ≤ 512) : Ok (f_X11_inHand x σ) (fun r s => r = inhS d ρ x ∧ frm wQ wl0 σ s) := by
  have hT := h.tc.T7
  unfold f_X11_inHand
  by_cases c1 : x.toInt < 0
  · exact Ok.t c1 (Ok.ret ⟨(clo_no (fun h => by omega)).symm, frm.rf⟩)
  by_cases c2 : 60 < x.toInt
  · exact Ok.f c1 (Ok.t c2 (Ok.ret ⟨(clo_no (fun h => by omega)).symm, frm.rf⟩))
  refine Ok.f c1 (Ok.f c2 ?_)
  obtain ⟨q, hq, rfl⟩ : ∃ q, q < 61 ∧ x = nI q := in_T (T := 61) (by omega) (by decide)
  rw [inhS_in (by omega), nI_1, nIt (n := q) (by omega), Int.toNat_natCast]
  refine Ok.cv (w_findHands (Z := q + 1) h hn (by omega)) (fun s1 h1 => ?_)
  rw [h1.1 q (by omega)]
  have hc := han_cau (ρ := ρ) (d := d) (i := q) hT
  refine Ok.t (by omega) ?_
  by_cases c : firS d.1.1.1 (itS d none q ρ) < d.1.1.1
  · refine Ok.f (fun e => hc.1.mp e c) (Ok.t (by omega) (Ok.ret ⟨?_, h1.2⟩))
    rw [hc.2 c]
    unfold cauS
    rw [if_pos c]
  · refine Ok.t (hc.1.mpr c) (Ok.ret ⟨?_, h1.2⟩)
    unfold cauS
    rw [if_neg c]
theorem q_inHand_m (h : RELx n d t u sd ρ k nx H m tb9 G σ) (hn : n ≤ 512) : Ok (f_X12_inHand x σ) (fun r s => r = inhS d ρ x ∧ frm wQ wl0 σ s) := by
  have hT := h.tc.T7
  unfold f_X12_inHand
  refine Ok.cle e_isLong ?_
  by_cases c : 0 ≤ x.toInt ∧ x.toInt ≤ 60
  · refine Ok.f (fun e => if10.mp e c) (Ok.cv (m_trial h) (fun s3 h3 => ?_))
    obtain ⟨q, hq, rfl⟩ : ∃ q, q < 61 ∧ x = nI q := in_T (T := 61) (by omega) (by decide)
    rw [inhS_in (by omega)]
    have h2 := h.fr h3.2.2
    refine Ok.cv (w_goes (b := 30720) h2.tm h.ok h.tc.ln (by omega) h3.1 (h.n0 hn) (by omega) h3.2.1) (fun s5 h5 => ?_)
    have h5r := h2.fr (h5.2.sub bm_wQ)
    refine Ok.cle (e_catchesNow h5r.tm.lv) (Ok.ret ⟨?_, h3.2.2.tr (h5.2.sub bm_wQ)⟩)
    unfold firI
    rw [h5.1.ff hT]; rfl
  · exact Ok.t (if10.mpr c) (Ok.ret ⟨(clo_no c).symm, frm.rf⟩)
theorem sim_inHand (hn : n ≤ 512) : SIM n (f_X11_inHand x) (f_X12_inHand x) := sim_q (fun d t u sd ρ k nx H m tb G σ h => ⟨_, q_inHand_c h hn, fun s hs _ => q_inHand_m hs hn⟩)
/-! load -/
def loaN (d : DAT) (ρ : Nat → Int32) : Nat → Int32
  | 0 => 0
  | k + 1 => if firS d.1.1.1 (itS d none k ρ) < d.1.1.1 then loaN d ρ k + Int32.ofInt (d.1.1.2.1 (firS d.1.1.1 (itS d none k ρ))) else loaN d ρ k
def loaS (d : DAT) (ρ : Nat → Int32) (x : Int32) : Int32 := if 1 ≤ x.toInt ∧ x.toInt ≤ 60 then loaN d ρ x.toInt.toNat else -1
theorem loaS_in {q : Nat} (h1 : 1 ≤ q) (hq : q ≤ 60) : loaS d ρ (nI q) = loaN d ρ q := by
  unfold loaS
  rw [nIt (by omega), Int.toNat_natCast]
  exact if_pos ⟨by omega, by omega⟩
theorem in_60 (c : 1 ≤ x.toInt ∧ x.toInt ≤ 60) : ∃ q, (1 ≤ q ∧ q ≤ 60) ∧ x = nI q := ⟨x.toInt.toNat, by omega, nI_tn (by omega) (by omega)⟩
theorem q_load_c (h : RELx n d t u sd ρ k nx H m tb9 G σ) (hn : n ≤ 512) : Ok (f_X11_load x σ) (fun r s => r = loaS d ρ x ∧ frm wQ wl0 σ s) := by
  have hT := h.tc.T7
  unfold f_X11_load
  refine Ok.cle e_isSpan ?_
  by_cases c : 1 ≤ x.toInt ∧ x.toInt ≤ 60
  · refine Ok.f (fun e => if10.mp e c) ?_
    obtain ⟨Z, hZ, rfl⟩ := in_60 c
    rw [loaS_in hZ.1 hZ.2]
    have ht : t = 30 ∨ t = 43 := h.tk
    refine Ok.cv (w_findHands (Z := Z) h hn (by omega)) (fun s1 h1 => ?_)
    have h2 := h.fr h1.2
    have loop : ∀ (dd q N : Nat), q + dd = Z → dd < N → f_X11_load_18 N (nI Z) (loaN d ρ q) (nI q) s1 = some (loaN d ρ Z, s1) := by
      intro dd
      induction dd with
      | zero =>
        intro q N hq hN
        obtain ⟨N, rfl⟩ : ∃ q, N = q + 1 := ⟨N - 1, by omega⟩
        obtain rfl : q = Z := by omega
        show b_X11_load_18 (f_X11_load_18 N) (nI q) _ (nI q) s1 = _
        unfold b_X11_load_18
        rw [if_neg (Int.lt_irrefl _)]
      | succ dd ih =>
        intro q N hq hN
        obtain ⟨N, rfl⟩ : ∃ q, N = q + 1 := ⟨N - 1, by omega⟩
        have hc := han_cau (ρ := ρ) (d := d) (i := q) hT
        have ih1 := ih (q + 1) N (by omega) (by omega)
        have el : loaN d ρ (q + 1) = if firS d.1.1.1 (itS d none q ρ) < d.1.1.1 then loaN d ρ q + Int32.ofInt (d.1.1.2.1 (firS d.1.1.1 (itS d none q ρ))) else loaN d ρ q := rfl
        rw [el] at ih1
        show b_X11_load_18 (f_X11_load_18 N) (nI Z) _ (nI q) s1 = _
        unfold b_X11_load_18 f_X11_load_56
        rw [nIt (n := q) (by omega), nIt (n := Z) (by omega), if_pos (show (q : Int) < Z by omega), h2.t0, if_pos ht, if_pos (show 0 ≤ (q : Int) ∧ (q : Int) < 61 by omega), Int.toNat_natCast, h1.1 q (by omega), e_hasThing h2.tc.1.1 hT]
        simp only [Cl, Bd]
        rw [nI_1]
        by_cases cf : firS d.1.1.1 (itS d none q ρ) < d.1.1.1
        · have ev := hc.2 cf
          have ew := h2.tc.1.2.2 _ cf
          generalize firS d.1.1.1 (itS d none q ρ) = f at cf ev ew ih1
          have ef : (nI f).toInt = (f : Int) := nIt (by omega)
          rw [if_pos cf] at ih1
          rw [ev, ef, if_neg (fun e => if10.mp e (show 0 ≤ (f : Int) ∧ (f : Int) < d.1.1.1 by omega)), h2.t0, if_pos ht, if_pos (show 0 ≤ (q : Int) ∧ (q : Int) < 61 by omega), h1.1 q (by omega), ev, ef, if_pos (show 0 ≤ (f : Int) ∧ (f : Int) < 7 by omega), Int.toNat_natCast, ofI ew.1]
          exact ih1
        · rw [if_neg cf] at ih1
          rw [if_pos (if10.mpr (show ¬ (0 ≤ (hanS d ρ q).toInt ∧ (hanS d ρ q).toInt < d.1.1.1) by rw [hc.1.mpr cf]; omega))]
          exact ih1
    have := loop Z 0 5000 (by omega) (by omega)
    rw [nI_0] at this
    exact Ok.of this ⟨rfl, h1.2⟩
  · exact Ok.t (if10.mpr c) (Ok.ret ⟨(clo_no c).symm, frm.rf⟩)
theorem q_load_m (h : RELx n d t u sd ρ k nx H m tb9 G σ) (hn : n ≤ 512) : Ok (f_X12_load x σ) (fun r s => r = loaS d ρ x ∧ frm wQ wl0 σ s) := by
  have hT := h.tc.T7
  unfold f_X12_load
  refine Ok.cle e_isSome ?_
  by_cases c : 1 ≤ x.toInt ∧ x.toInt ≤ 60
  · refine Ok.f (fun e => if10.mp e c) (Ok.cv (m_trial h) (fun s3 h3 => ?_))
    obtain ⟨Z, hZ, rfl⟩ := in_60 c
    rw [loaS_in hZ.1 hZ.2]
    have loop : ∀ (dd q N : Nat) (s : HS), q + dd = Z → dd < N → TRm d ρ σ q s → Ok (f_X12_load_17 N (nI Z) (loaN d ρ q) (nI q) s) (fun r s => r = loaN d ρ Z ∧ frm wQ wl0 σ s) := by
      intro dd
      induction dd with
      | zero =>
        intro q N s hq hN hs
        obtain ⟨N, rfl⟩ : ∃ q, N = q + 1 := ⟨N - 1, by omega⟩
        obtain rfl : q = Z := by omega
        show Ok (b_X12_load_17 (f_X12_load_17 N) (nI q) _ (nI q) s) _
        unfold b_X12_load_17
        exact Ok.f (Int.lt_irrefl _) (Ok.ret ⟨rfl, hs.2.2⟩)
      | succ dd ih =>
        intro q N s hq hN hs
        obtain ⟨N, rfl⟩ : ∃ q, N = q + 1 := ⟨N - 1, by omega⟩
        have el : loaN d ρ (q + 1) = if firS d.1.1.1 (itS d none q ρ) < d.1.1.1 then loaN d ρ q + Int32.ofInt (d.1.1.2.1 (firS d.1.1.1 (itS d none q ρ))) else loaN d ρ q := rfl
        show Ok (b_X12_load_17 (f_X12_load_17 N) (nI Z) _ (nI q) s) _
        unfold b_X12_load_17 f_X12_load_53
        rw [nIt (n := q) (by omega), nIt (n := Z) (by omega)]
        refine Ok.t (by omega) (Ok.cv (m_beat h hn (by omega) hs) (fun s1 h1 => ?_))
        obtain ⟨h1, e51, -⟩ := h1
        have hM := (h.fr h1.2.2).tm
        have ih1 := ih (q + 1) N s1 (by omega) (by omega) h1
        rw [e51]
        by_cases cf : firS d.1.1.1 (itS d none q ρ) < d.1.1.1
        · rw [el, if_pos cf] at ih1
          refine Ok.f (fun e => (cau_neg hT).mp e cf) ?_
          unfold cauS
          have ew := hM.2.2.1.2.2 _ cf
          rw [if_pos cf, hM.1]
          generalize firS d.1.1.1 (itS d none q ρ) = f at cf ew ih1
          have hs1 := hM.2.1
          rw [e7s hs1, nIt (n := 7 * sd + f) (by omega), Int.toNat_natCast]
          refine Ok.t (by omega) (Ok.bd (Ok.bd ?_))
          rw [nI_1, ofI ew.1]
          exact ih1
        · rw [el, if_neg cf] at ih1
          refine Ok.t ((cau_neg hT).mpr cf) (Ok.bd ?_)
          rw [nI_1]
          exact ih1
    rw [show f_X12_load_17 5000 (nI Z) 0 0 s3 = f_X12_load_17 5000 (nI Z) (loaN d ρ 0) (nI 0) s3 by rw [nI_0]; rfl]
    exact loop Z 0 5000 s3 (by omega) (by omega) h3
  · exact Ok.t (if10.mpr c) (Ok.ret ⟨(clo_no c).symm, frm.rf⟩)
theorem sim_load (hn : n ≤ 512) : SIM n (f_X11_load x) (f_X12_load x) := sim_q (fun d t u sd ρ k nx H m tb G σ h => ⟨_, q_load_c h hn, fun s hs _ => q_load_m hs hn⟩)
/-! rule -/
theorem cnt_sub {p q : Nat → Bool} : ∀ {n : Nat}, (∀ e, e < n → q e = true → p e = true) → cntB (fun e => p e && !q e) n + cntB q n = cntB p n := by
  intro n
  induction n with
  | zero => intro _; rfl
  | succ n ih =>
    intro h
    have i := ih (fun e he => h e (by omega))
    have hn := h n (by omega)
    show (if (p n && !q n) = true then cntB (fun e => p e && !q e) n + 1 else cntB (fun e => p e && !q e) n) + (if q n = true then cntB q n + 1 else cntB q n) = (if p n = true then cntB p n + 1 else cntB p n)
    cases hq : q n with
    | true =>
      have hp := hn hq
      rw [hp]
      show cntB (fun e => p e && !q e) n + (cntB q n + 1) = cntB p n + 1
      omega
    | false =>
      cases hp : p n with
      | true =>
        show cntB (fun e => p e && !q e) n + 1 + cntB q n = cntB p n + 1
        omega
      | false =>
        show cntB (fun e => p e && !q e) n + cntB q n = cntB p n
        omega
theorem up_drop {f : Nat} (hT : T ≤ 7) : cntB (upR (dropS T f ρ)) T + othS T f ρ = cntB (upR ρ) T := by
  have e : cntB (upR (dropS T f ρ)) T = cntB (fun e => upR ρ e && !(decide (e ≠ f) && lnR ρ 0 e)) T := cntB_cg (fun e he => by
    unfold upR dropS
    by_cases c : e ≠ f ∧ lnR ρ 0 e = true
    · rw [if_pos ⟨he, c⟩, decide_eq_true c.1, c.2]; simp
    · rw [if_neg (fun h => c h.2), if_neg (by omega)]
      have : (decide (e ≠ f) && lnR ρ 0 e) = false := by
        cases h1 : lnR ρ 0 e with
        | false => rw [Bool.and_false]
        | true => rw [decide_eq_false (fun h => c ⟨h, h1⟩)]; rfl
      rw [this]; simp)
  rw [e]
  exact cnt_sub (fun e _ h => by
    rw [Bool.and_eq_true] at h
    unfold upR
    exact decide_eq_true (ln_iff.mp h.2).1)
theorem var_drop {f e : Nat} {up h : Int32} (hT : T ≤ 7) : varS d (dropS T f ρ) e up h = varS d ρ e up h := by
  have n : ∀ i, 7 ≤ i → i ≠ 23 → dropS T f ρ i = ρ i := fun i h1 h2 => by
    unfold dropS
    rw [if_neg (by omega), if_neg h2]
  unfold varS
  rw [n 21 (by decide) (by decide), n 22 (by decide) (by decide), n 24 (by decide) (by decide)]
theorem for_eq (hT : d.1.1.1 ≤ 7) (c : firS d.1.1.1 ρ < d.1.1.1) : forS d ρ = lawV d 2 (varS d ρ (firS d.1.1.1 ρ) (nI (cntB (upR ρ) d.1.1.1 - othS d.1.1.1 (firS d.1.1.1 ρ) ρ)) 0) := by
  unfold forS
  have := up_drop (ρ := ρ) (f := firS d.1.1.1 ρ) hT
  rw [if_pos c, var_drop hT]
  unfold upsS
  rw [show cntB (upR ρ) d.1.1.1 - othS d.1.1.1 (firS d.1.1.1 ρ) ρ = cntB (upR (dropS d.1.1.1 (firS d.1.1.1 ρ) ρ)) d.1.1.1 by omega]
theorem w_inForce {q : Nat} (h : RELx n d t u sd ρ k nx H m tb9 G σ) (hs : TRc d ρ σ q s) : Ok (f_X4_inForce t 60 s) (fun v s1 => v = forS d (itS d none q ρ) ∧ TRc d ρ σ q s1) := by
  have hT := h.tc.T7
  have h2 := h.fr hs.2
  unfold f_X4_inForce
  refine Ok.cle (e_firstLanding hs.1.1 hT) ?_
  unfold firI
  rw [hs.1.ff]
  by_cases c : firS d.1.1.1 (itS d none q ρ) < d.1.1.1
  · have oc := oth_cnt c
    have cl := cntB_le (p := lnR (itS d none q ρ) 0) (n := d.1.1.1)
    have ud := up_drop (ρ := itS d none q ρ) (f := firS d.1.1.1 (itS d none q ρ)) hT
    rw [if_pos c, for_eq hT c]
    generalize firS d.1.1.1 (itS d none q ρ) = f at c oc ud
    refine Ok.f (by rw [nIt (by omega)]; omega) (Ok.cle (e_howManyUp hs.1.1 hT) (Ok.cle (e_howManyLand hs.1.1 hT) ?_))
    rw [hs.1.cntUp, hs.1.cntLn, ← oc, nI_mm (by omega), nI_sub (by omega) (by have := cntB_le (p := upR (itS d none q ρ)) (n := d.1.1.1); omega)]
    refine Ok.cv (e_lookAt hs.1 h2.tc h.tk a60 c hT c) (fun s7 h7 => ?_)
    obtain ⟨v7, f7⟩ := h7
    have F7 := hs.2.tr (f7.sub lk_wQ)
    have h7 := h.fr F7
    rw [show (2 : Int32) = nI 2 from rfl]
    refine Ok.cl (w_asksV (k := 2) v7 h7.tc h.ok h.tk (by decide)) (fun r s9 h9 => Ok.ret ⟨h9.1, ?_, F7.tr (h9.2.1.mono (fun _ _ => wQ_an) (fun _ e => e))⟩)
    exact (hs.1.fr f7 (fun i k x y => by simp; omega)).fr h9.2.1 (fun i k x y => wAns_a a60 x)
  · rw [if_neg c]
    refine Ok.t (by decide) (Ok.ret ⟨?_, hs⟩)
    unfold forS
    rw [if_neg c]
def rulN (d : DAT) (ρ : Nat → Int32) : Nat → Int32
  | 0 => 0
  | k + 1 => rulN d ρ k + forS d (itS d none k ρ)
def rulS (d : DAT) (ρ : Nat → Int32) (x : Int32) : Int32 := if 1 ≤ x.toInt ∧ x.toInt ≤ 60 then rulN d ρ x.toInt.toNat else -100000
theorem rulS_in {q : Nat} (h1 : 1 ≤ q) (hq : q ≤ 60) : rulS d ρ (nI q) = rulN d ρ q := by
  unfold rulS
  rw [nIt (by omega), Int.toNat_natCast]
  exact if_pos ⟨by omega, by omega⟩
theorem q_rule_c (h : RELx n d t u sd ρ k nx H m tb9 G σ) (hn : n ≤ 512) : Ok (f_X11_rule x σ) (fun r s => r = rulS d ρ x ∧ frm wQ wl0 σ s) := by
  have hT := h.tc.T7
  unfold f_X11_rule
  refine Ok.cle e_isSpan ?_
  by_cases c : 1 ≤ x.toInt ∧ x.toInt ≤ 60
  · refine Ok.f (fun e => if10.mp e c) (Ok.cv (c_trial h) (fun s3 h3 => ?_))
    obtain ⟨Z, hZ, rfl⟩ := in_60 c
    rw [rulS_in hZ.1 hZ.2]
    have loop : ∀ (dd q N : Nat) (s : HS), q + dd = Z → dd < N → TRc d ρ σ q s → Ok (f_X11_rule_26 N (nI Z) (rulN d ρ q) (nI q) s) (fun r s => r = rulN d ρ Z ∧ frm wQ wl0 σ s) := by
      intro dd
      induction dd with
      | zero =>
        intro q N s hq hN hs
        obtain ⟨N, rfl⟩ : ∃ q, N = q + 1 := ⟨N - 1, by omega⟩
        obtain rfl : q = Z := by omega
        show Ok (b_X11_rule_26 (f_X11_rule_26 N) (nI q) _ (nI q) s) _
        unfold b_X11_rule_26
        exact Ok.f (Int.lt_irrefl _) (Ok.ret ⟨rfl, hs.2⟩)
      | succ dd ih =>
        intro q N s hq hN hs
        obtain ⟨N, rfl⟩ : ∃ q, N = q + 1 := ⟨N - 1, by omega⟩
        show Ok (b_X11_rule_26 (f_X11_rule_26 N) (nI Z) _ (nI q) s) _
        unfold b_X11_rule_26
        rw [nIt (n := q) (by omega), nIt (n := Z) (by omega), TRc.t0 h hs]
        refine Ok.t (by omega) (Ok.t h.tk (Ok.cl (w_inForce h hs) (fun v s2 h2 => ?_)))
        obtain ⟨rfl, T2⟩ := h2
        refine Ok.bd ?_
        rw [TRc.t0 h T2]
        refine Ok.t h.tk (Ok.cv (c_safe h hn (by omega) T2) (fun s6 h6 => Ok.bd ?_))
        rw [nI_1]
        exact ih (q + 1) N s6 (by omega) (by omega) h6
    rw [show f_X11_rule_26 5000 (nI Z) 0 0 s3 = f_X11_rule_26 5000 (nI Z) (rulN d ρ 0) (nI 0) s3 by rw [nI_0]; rfl]
    exact loop Z 0 5000 s3 (by omega) (by omega) h3
  · exact Ok.t (if10.mpr c) (Ok.ret ⟨(if_neg c).symm, frm.rf⟩)
theorem q_rule_m (h : RELx n d t u sd ρ k nx H m tb9 G σ) (hn : n ≤ 512) : Ok (f_X12_rule x σ) (fun r s => r = rulS d ρ x ∧ frm wQ wl0 σ s) := by
  have hT := h.tc.T7
  unfold f_X12_rule
  refine Ok.cle e_isSome ?_
  by_cases c : 1 ≤ x.toInt ∧ x.toInt ≤ 60
  · refine Ok.f (fun e => if10.mp e c) (Ok.cv (m_trial h) (fun s3 h3 => ?_))
    obtain ⟨Z, hZ, rfl⟩ := in_60 c
    rw [rulS_in hZ.1 hZ.2]
    have loop : ∀ (dd q N : Nat) (s : HS), q + dd = Z → dd < N → TRm d ρ σ q s → Ok (f_X12_rule_19 N (nI Z) (rulN d ρ q) (nI q) s) (fun r s => r = rulN d ρ Z ∧ frm wQ wl0 σ s) := by
      intro dd
      induction dd with
      | zero =>
        intro q N s hq hN hs
        obtain ⟨N, rfl⟩ : ∃ q, N = q + 1 := ⟨N - 1, by omega⟩
        obtain rfl : q = Z := by omega
        show Ok (b_X12_rule_19 (f_X12_rule_19 N) (nI q) _ (nI q) s) _
        unfold b_X12_rule_19
        exact Ok.f (Int.lt_irrefl _) (Ok.ret ⟨rfl, hs.2.2⟩)
      | succ dd ih =>
        intro q N s hq hN hs
        obtain ⟨N, rfl⟩ : ∃ q, N = q + 1 := ⟨N - 1, by omega⟩
        show Ok (b_X12_rule_19 (f_X12_rule_19 N) (nI Z) _ (nI q) s) _
        unfold b_X12_rule_19
        rw [nIt (n := q) (by omega), nIt (n := Z) (by omega)]
        refine Ok.t (by omega) (Ok.cv (m_beat h hn (by omega) hs) (fun s1 h1 => Ok.bd (Ok.bd ?_)))
        rw [nI_1, h1.2.2.2.1]
        exact ih (q + 1) N s1 (by omega) (by omega) h1.1
    rw [show f_X12_rule_19 5000 (nI Z) 0 0 s3 = f_X12_rule_19 5000 (nI Z) (rulN d ρ 0) (nI 0) s3 by rw [nI_0]; rfl]
    exact loop Z 0 5000 s3 (by omega) (by omega) h3
  · exact Ok.t (if10.mpr c) (Ok.ret ⟨(if_neg c).symm, frm.rf⟩)
theorem sim_rule (hn : n ≤ 512) : SIM n (f_X11_rule x) (f_X12_rule x) := sim_q (fun d t u sd ρ k nx H m tb G σ h => ⟨_, q_rule_c h hn, fun s hs _ => q_rule_m hs hn⟩)
/-! lands -/
theorem bset_ins {q : Nat → Bool} {a : Nat} : ∀ {n : Nat}, a < n → bset q n ||| bitI a = bset (fun e => q e || decide (e = a)) n := by
  intro n
  induction n with
  | zero => intro h; omega
  | succ n ih =>
    intro h
    show (if q n = true then bset q n ||| bitI n else bset q n) ||| bitI a = (if (q n || decide (n = a)) = true then bset (fun e => q e || decide (e = a)) n ||| bitI n else bset (fun e => q e || decide (e = a)) n)
    by_cases c : n = a
    · subst c
      have e : bset (fun e => q e || decide (e = n)) n = bset q n := bset_cg (fun e he => by rw [decide_eq_false (by omega), Bool.or_false])
      rw [e, decide_eq_true rfl, Bool.or_true, if_pos rfl]
      by_cases cq : q n = true
      · rw [if_pos cq, Int32.or_assoc, Int32.or_self]
      · rw [if_neg cq]
    · rw [decide_eq_false c, Bool.or_false, ← ih (by omega)]
      by_cases cq : q n = true
      · rw [if_pos cq, if_pos cq, Int32.or_assoc, Int32.or_comm (bitI n), ← Int32.or_assoc]
      · rw [if_neg cq, if_neg cq]
def lanP (ρ : Nat → Int32) (T n : Nat) : Bool := decide (0 < cntB (lnR ρ n) T)
def lanS (d : DAT) (ρ : Nat → Int32) : Int32 := bset (lanP ρ d.1.1.1) 10
theorem lb_eq {f : Nat → Int32} {q : Nat → Bool} (hq : ∀ e, e < T → q e = upR ρ e) (hf : ∀ e, e < T → f e = ρ (7 + e)) (hr : ∀ e, e < T → (ρ e).toInt = 0 → 0 ≤ (ρ (7 + e)).toInt ∧ (ρ (7 + e)).toInt ≤ 9) : ∀ {n : Nat}, n ≤ T → lbA f q n = bset (lanP ρ n) 10 := by
  intro n
  induction n with
  | zero =>
    intro _
    show (0 : Int32) = bset (fun _ => decide (0 < 0)) 10
    decide
  | succ n ih =>
    intro hn
    show (if q n = true then lbA f q n ||| ((1 : Int32) <<< (f n &&& 31)) else lbA f q n) = _
    rw [hq n (by omega), hf n (by omega), ih (by omega)]
    by_cases c : (ρ n).toInt = 0
    · have r := hr n (by omega) c
      have eu : upR ρ n = true := decide_eq_true c
      obtain ⟨a, ha, ea⟩ : ∃ a, a < 10 ∧ ρ (7 + n) = nI a := ⟨(ρ (7 + n)).toInt.toNat, by omega, nI_tn r.1 (by omega)⟩
      rw [if_pos eu, ea]
      show bset (lanP ρ n) 10 ||| bitI a = _
      rw [bset_ins ha]
      refine bset_cg (fun e he => ?_)
      unfold lanP
      show (decide (0 < cntB (lnR ρ e) n) || decide (e = a)) = decide (0 < (if lnR ρ e n = true then cntB (lnR ρ e) n + 1 else cntB (lnR ρ e) n))
      by_cases ce : e = a
      · have el : lnR ρ e n = true := ln_iff.mpr ⟨c, by rw [ea, nIt (by omega), ce]⟩
        rw [if_pos el, decide_eq_true ce, Bool.or_true, decide_eq_true (by omega)]
      · have el : ¬ lnR ρ e n = true := fun h => ce (by
          have := (ln_iff.mp h).2
          rw [ea, nIt (by omega)] at this
          omega)
        rw [if_neg el, decide_eq_false ce, Bool.or_false]
    · have eu : ¬ upR ρ n = true := by unfold upR; rw [decide_eq_false c]; decide
      rw [if_neg eu]
      refine bset_cg (fun e he => ?_)
      unfold lanP
      show decide (0 < cntB (lnR ρ e) n) = decide (0 < (if lnR ρ e n = true then cntB (lnR ρ e) n + 1 else cntB (lnR ρ e) n))
      rw [if_neg (fun h => c (ln_iff.mp h).1)]
theorem e_landBits (h : RELx n d t u sd ρ k nx H m tb9 G σ) : f_X0_landingBits 56 σ = some (lanS d ρ, σ) := by
  rw [e_landingBits h.ar.1 h.tc.T7, lb_eq (T := d.1.1.1) (ρ := ρ) (fun e he => h.ar.up he) (fun e he => (h.ar.2.1 e he).2.1) (fun e he h0 => (h.rw.1 e he).2 h0) (Nat.le_refl _)]; rfl
theorem q_lands_c (h : RELx n d t u sd ρ k nx H m tb9 G σ) : Ok (f_X11_lands σ) (fun r s => r = lanS d ρ ∧ frm wQ wl0 σ s) := by
  unfold f_X11_lands
  exact Ok.cle (e_landBits h) (Ok.ret ⟨rfl, frm.rf⟩)
theorem w_landsM (h : RELx n d t u sd ρ k nx H m tb9 G σ) : Ok (f_X12_lands σ) (fun r s => r = lanS d ρ ∧ RRm ρ s ∧ frm wCp wl0 σ s) := by
  have hT := h.tc.T7
  unfold f_X12_lands
  refine Ok.cv (w_copies h.tm h.nw) (fun s1 h1 => ?_)
  obtain ⟨R1, -, -, f1⟩ := h1
  have h2 := h.fr (f1.sub cp_wQ)
  have loop : ∀ (dd q N : Nat), q + dd = 10 → dd < N → f_X12_lands_8 N (bset (lanP ρ d.1.1.1) q) (nI q) s1 = some (lanS d ρ, s1) := by
    intro dd
    induction dd with
    | zero =>
      intro q N hq hN
      obtain ⟨N, rfl⟩ : ∃ q, N = q + 1 := ⟨N - 1, by omega⟩
      obtain rfl : q = 10 := by omega
      show b_X12_lands_8 (f_X12_lands_8 N) _ (nI 10) s1 = _
      unfold b_X12_lands_8
      rw [if_neg (by decide)]; rfl
    | succ dd ih =>
      intro q N hq hN
      obtain ⟨N, rfl⟩ : ∃ q, N = q + 1 := ⟨N - 1, by omega⟩
      have ih1 := ih (q + 1) N (by omega) (by omega)
      have eb : bset (lanP ρ d.1.1.1) (q + 1) = if lanP ρ d.1.1.1 q = true then bset (lanP ρ d.1.1.1) q ||| bitI q else bset (lanP ρ d.1.1.1) q := rfl
      rw [eb] at ih1
      have cl := cntB_le (p := lnR ρ q) (n := d.1.1.1)
      show b_X12_lands_8 (f_X12_lands_8 N) _ (nI q) s1 = _
      unfold b_X12_lands_8 f_X12_lands_28
      rw [e_landsAt h2.tm.lv, nIt (n := q) (by omega), if_pos (show (q : Int) < 10 by omega), R1.cntLn hT]
      simp only [Cl, Bd]
      rw [nI_1, nIt (n := cntB (lnR ρ q) d.1.1.1) (by omega)]
      unfold lanP at ih1 ⊢
      by_cases c : 0 < cntB (lnR ρ q) d.1.1.1
      · rw [if_pos (decide_eq_true c)] at ih1
        rw [if_pos (show (0 : Int) < cntB (lnR ρ q) d.1.1.1 by omega)]
        exact ih1
      · have cn : ¬ decide (0 < cntB (lnR ρ q) d.1.1.1) = true := by rw [decide_eq_false c]; decide
        rw [if_neg cn] at ih1
        rw [if_neg (show ¬ (0 : Int) < cntB (lnR ρ q) d.1.1.1 by omega)]
        exact ih1
  have := loop 10 0 5000 (by omega) (by omega)
  rw [nI_0] at this
  exact Ok.of this ⟨rfl, R1, f1⟩
theorem q_lands_m (h : RELx n d t u sd ρ k nx H m tb9 G σ) : Ok (f_X12_lands σ) (fun r s => r = lanS d ρ ∧ frm wQ wl0 σ s) := (w_landsM h).mono (fun r s h => ⟨h.1, h.2.2.sub cp_wQ⟩)
theorem sim_lands : SIM n f_X11_lands f_X12_lands := sim_q (fun d t u sd ρ k nx H m tb G σ h => ⟨_, q_lands_c h, fun s hs _ => q_lands_m hs⟩)
end WOULB
