/-! what would be: gap, clash, inHand, lands -/
section WOULD
variable {σ s : HS} {n t u sd k nx m p L T : Nat} {ρ : Nat → Int32} {d : DAT} {b : Int} {H G : Nat → Nat → Int32} {tb9 : Nat → Nat} {x y z : Int32}
theorem a60 : aAi 60 := ⟨by decide, by decide⟩
theorem cp_wQ (i k : Nat) (h : wCp i k = true) : wQ i k = true := go_wQ i k (by unfold wGoM; rw [h]; rfl)
theorem bm_wQ (i k : Nat) (h : wBm i k = true) : wQ i k = true := go_wQ i k (by unfold wGoM; rw [h, Bool.or_true])
theorem ai_wQ (i k : Nat) (h : wAi 60 i k = true) : wQ i k = true := bt_wQ i k (by unfold wBt; rw [h]; rfl)
theorem RELx.n0 (h : RELx n d t u sd ρ k nx H m tb9 G σ) (hn : n ≤ 512) : RW d 30720 ρ := h.rw.mono (by omega)
/-- a trial of the class, k beats on -/
def TRc (d : DAT) (ρ : Nat → Int32) (σ : HS) (k : Nat) (s : HS) : Prop := AR 60 d.1.1.1 (itS d none k ρ) s ∧ frm wQ wl0 σ s
theorem c_trial (h : RELx n d t u sd ρ k nx H m tb9 G σ) : Okv (f_X0_copy 60 56 σ) (TRc d ρ σ 0) := (w_copy h.ar h.tc.T7 (by decide)).mono (fun s hs => ⟨hs.1, hs.2.sub ai_wQ⟩)
theorem c_safe {q : Nat} (h : RELx n d t u sd ρ k nx H m tb9 G σ) (hn : n ≤ 512) (hq : q ≤ 1000) (hs : TRc d ρ σ q s) : Okv (f_X4_goOnSafely t 60 s) (TRc d ρ σ (q + 1)) := by
  have h2 := h.fr hs.2
  have hW : RW d (30720 + q) (itS d none q ρ) := RW.it h.ok h.tc.ln (by omega) (h.n0 hn)
  refine (w_goOnSafely h2.tc h.ok h.tk a60 hs.1 hW (by omega)).mono (fun s1 h1 => ⟨?_, hs.2.tr (h1.2.sub bt_wQ)⟩)
  rw [it_succ]; exact h1.1
/-- a trial of the reference, k beats on -/
def TRm (d : DAT) (ρ : Nat → Int32) (σ : HS) (k : Nat) (s : HS) : Prop := RRm (itS d none k ρ) s ∧ SDm none s ∧ frm wQ wl0 σ s
theorem m_trial (h : RELx n d t u sd ρ k nx H m tb9 G σ) : Okv (f_X12_copiesStill σ) (TRm d ρ σ 0) := (w_copiesStill h.tm h.nw).mono (fun s hs => ⟨hs.1, hs.2.1, hs.2.2.sub cp_wQ⟩)
theorem m_beat {q : Nat} (h : RELx n d t u sd ρ k nx H m tb9 G σ) (hn : n ≤ 512) (hq : q ≤ 1000) (hs : TRm d ρ σ q s) : Okv (f_X12_beatGoes s) (fun s1 => TRm d ρ σ (q + 1) s1 ∧ s1.1 236 51 = cauS d.1.1.1 (itS d none q ρ) ∧ s1.1 236 52 = twoS d.1.1.1 (itS d none q ρ) ∧ s1.1 236 53 = forS d (itS d none q ρ) ∧ frm wBm wl0 s s1) := by
  have h2 := h.fr hs.2.2
  have hW : RW d (30720 + q) (itS d none q ρ) := RW.it h.ok h.tc.ln (by omega) (h.n0 hn)
  refine (w_beatGoes h2.tm h.ok hs.1 hW (by omega) hs.2.1).mono (fun s1 h1 => ⟨⟨?_, hs.2.1.bm h1.2.2.2.2, hs.2.2.tr (h1.2.2.2.2.sub bm_wQ)⟩, h1.2⟩)
  rw [it_succ]; exact h1.1
theorem TRc.t0 {q : Nat} (h : RELx n d t u sd ρ k nx H m tb9 G σ) (hs : TRc d ρ σ q s) : s.2.2 0 = t := (h.fr hs.2).t0
theorem cnt_fir {p : Nat → Bool} : cntB p T = 0 ↔ ¬ ffB p T 0 < T := by
  constructor
  · intro h hf
    have ht := ffB_at (p := p) (d := T) (e := 0) (by omega)
    generalize ffB p T 0 = f at hf ht
    have := cnt_del (p := p) (q := fun e => decide (e ≠ f) && p e) (a := f) hf (fun e _ hn => by rw [decide_eq_true hn, Bool.true_and]) ht (by simp)
    omega
  · intro h
    exact cnt_zero (fun e he => ffB_no (p := p) (d := T) (e := 0) (Nat.zero_le _) (by omega))
theorem oth_cnt {ρ : Nat → Int32} (hf : firS T ρ < T) : othS T (firS T ρ) ρ + 1 = cntB (lnR ρ 0) T := by
  have ht := ffB_at (p := lnR ρ 0) (d := T) (e := 0) (by
    have : ffB (lnR ρ 0) T 0 = firS T ρ := rfl
    omega)
  exact cnt_del hf (fun e _ hn => by rw [decide_eq_true hn, Bool.true_and]) ht (by simp)
theorem two_iff {ρ : Nat → Int32} : (twoS T ρ).toInt = 0 ↔ ¬ 1 < cntB (lnR ρ 0) T := by
  unfold twoS
  by_cases c : firS T ρ < T
  · have := oth_cnt c
    rw [if_pos c]
    by_cases c2 : othS T (firS T ρ) ρ = 0
    · rw [if_pos c2]; exact ⟨fun _ => by omega, fun _ => rfl⟩
    · rw [if_neg c2]; exact ⟨fun h => absurd h (by decide), fun h => absurd h (by omega)⟩
  · have : cntB (lnR ρ 0) T = 0 := cnt_fir.mpr c
    rw [if_neg c]; exact ⟨fun _ => by omega, fun _ => rfl⟩
theorem cau_neg {ρ : Nat → Int32} (hT : T ≤ 7) : (cauS T ρ).toInt < 0 ↔ ¬ firS T ρ < T := by
  unfold cauS
  by_cases c : firS T ρ < T
  · rw [if_pos c, nIt (by omega)]; exact ⟨fun h => by omega, fun h => absurd c h⟩
  · rw [if_neg c]; exact ⟨fun _ => c, fun _ => by decide⟩
/-! gap -/
def gapP (d : DAT) (ρ : Nat → Int32) (k : Nat) : Bool := decide (¬ firS d.1.1.1 (itS d none k ρ) < d.1.1.1)
def gapS (d : DAT) (ρ : Nat → Int32) : Int32 := firI (gapP d ρ) 61 (-2)
theorem q_gap_c (h : RELx n d t u sd ρ k nx H m tb9 G σ) (hn : n ≤ 512) : Ok (f_X11_gap σ) (fun r s => r = gapS d ρ ∧ frm wQ wl0 σ s) := by
  have hT := h.tc.T7
  unfold f_X11_gap
  refine Ok.cv (c_trial h) (fun s1 h1 => ?_)
  have loop : ∀ (dd q N : Nat) (s : HS), q + dd = 61 → dd < N → TRc d ρ σ q s → Ok (f_X11_gap_13 N (nI q) s) (fun r s => r = (if ffB (gapP d ρ) dd q < 61 then nI (ffB (gapP d ρ) dd q) else -2) ∧ frm wQ wl0 σ s) := by
    intro dd
    induction dd with
    | zero =>
      intro q N s hq hN hs
      obtain ⟨N, rfl⟩ : ∃ q, N = q + 1 := ⟨N - 1, by omega⟩
      show Ok (b_X11_gap_13 (f_X11_gap_13 N) (nI q) s) _
      unfold b_X11_gap_13
      rw [nIt (by omega), if_neg (show ¬ ffB (gapP d ρ) 0 q < 61 from (by show ¬ q < 61; omega))]
      exact Ok.t (by omega) (Ok.ret ⟨rfl, hs.2⟩)
    | succ dd ih =>
      intro q N s hq hN hs
      obtain ⟨N, rfl⟩ : ∃ q, N = q + 1 := ⟨N - 1, by omega⟩
      have ef : ffB (gapP d ρ) (dd + 1) q = if gapP d ρ q = true then q else ffB (gapP d ρ) dd (q + 1) := rfl
      show Ok (b_X11_gap_13 (f_X11_gap_13 N) (nI q) s) _
      unfold b_X11_gap_13
      rw [nIt (n := q) (by omega)]
      refine Ok.f (by omega) (Ok.cle (e_howManyLand hs.1.1 hT) ?_)
      rw [hs.1.cntLn, ef]
      by_cases c : firS d.1.1.1 (itS d none q ρ) < d.1.1.1
      · have c0 : cntB (lnR (itS d none q ρ) 0) d.1.1.1 ≠ 0 := fun e => cnt_fir.mp e c
        have cl := cntB_le (p := lnR (itS d none q ρ) 0) (n := d.1.1.1)
        have eg : ¬ gapP d ρ q = true := by unfold gapP; rw [decide_eq_false (not_not_intro c)]; decide
        rw [if_neg eg]
        refine Ok.f (by rw [nIt (by omega)]; omega) ?_
        rw [TRc.t0 h hs]
        refine Ok.t h.tk (Ok.cv (c_safe h hn (by omega) hs) (fun s4 h4 => Ok.bd ?_))
        rw [nI_1]
        exact ih (q + 1) N s4 (by omega) (by omega) h4
      · have c0 : cntB (lnR (itS d none q ρ) 0) d.1.1.1 = 0 := cnt_fir.mpr c
        have eg : gapP d ρ q = true := by unfold gapP; rw [decide_eq_true c]
        rw [if_pos eg, c0, if_pos (show q < 61 by omega)]
        exact Ok.t (by decide) (Ok.ret ⟨rfl, hs.2⟩)
  rw [nI0]
  exact loop 61 0 5000 s1 (by omega) (by omega) h1
theorem q_gap_m (h : RELx n d t u sd ρ k nx H m tb9 G σ) (hn : n ≤ 512) : Ok (f_X12_gap σ) (fun r s => r = gapS d ρ ∧ frm wQ wl0 σ s) := by
  have hT := h.tc.T7
  unfold f_X12_gap
  refine Ok.cv (m_trial h) (fun s1 h1 => ?_)
  have loop : ∀ (dd q N : Nat) (s : HS), q + dd = 61 → dd < N → TRm d ρ σ q s → Ok (f_X12_gap_6 N (nI q) s) (fun r s => r = (if ffB (gapP d ρ) dd q < 61 then nI (ffB (gapP d ρ) dd q) else -2) ∧ frm wQ wl0 σ s) := by
    intro dd
    induction dd with
    | zero =>
      intro q N s hq hN hs
      obtain ⟨N, rfl⟩ : ∃ q, N = q + 1 := ⟨N - 1, by omega⟩
      show Ok (b_X12_gap_6 (f_X12_gap_6 N) (nI q) s) _
      unfold b_X12_gap_6
      rw [nIt (by omega), if_neg (show ¬ ffB (gapP d ρ) 0 q < 61 from (by show ¬ q < 61; omega))]
      exact Ok.t (by omega) (Ok.ret ⟨rfl, hs.2.2⟩)
    | succ dd ih =>
      intro q N s hq hN hs
      obtain ⟨N, rfl⟩ : ∃ q, N = q + 1 := ⟨N - 1, by omega⟩
      have ef : ffB (gapP d ρ) (dd + 1) q = if gapP d ρ q = true then q else ffB (gapP d ρ) dd (q + 1) := rfl
      show Ok (b_X12_gap_6 (f_X12_gap_6 N) (nI q) s) _
      unfold b_X12_gap_6
      rw [nIt (n := q) (by omega), ef]
      refine Ok.f (by omega) (Ok.cv (m_beat h hn (by omega) hs) (fun s1 h1 => ?_))
      obtain ⟨h1, e51, -⟩ := h1
      rw [e51]
      by_cases c : firS d.1.1.1 (itS d none q ρ) < d.1.1.1
      · have eg : ¬ gapP d ρ q = true := by unfold gapP; rw [decide_eq_false (not_not_intro c)]; decide
        rw [if_neg eg]
        refine Ok.f (fun e => (cau_neg hT).mp e c) (Ok.bd ?_)
        rw [nI_1]
        exact ih (q + 1) N s1 (by omega) (by omega) h1
      · have eg : gapP d ρ q = true := by unfold gapP; rw [decide_eq_true c]
        rw [if_pos eg, if_pos (show q < 61 by omega)]
        exact Ok.t ((cau_neg hT).mpr c) (Ok.ret ⟨rfl, h1.2.2⟩)
  rw [nI0]
  exact loop 61 0 5000 s1 (by omega) (by omega) h1
theorem sim_gap (hn : n ≤ 512) : SIM n f_X11_gap f_X12_gap := sim_q (fun d t u sd ρ k nx H m tb G σ h => ⟨_, q_gap_c h hn, fun s hs _ => q_gap_m hs hn⟩)
/-! clash, of any row -/
def claP (d : DAT) (ρ : Nat → Int32) (k : Nat) : Bool := decide (1 < cntB (lnR (itS d none k ρ) 0) d.1.1.1)
def claS (d : DAT) (ρ : Nat → Int32) (Z : Nat) : Int32 := firI (claP d ρ) Z (-2)
theorem c_clash {s0 : HS} {r : Nat → Int32} (h : RELx n d t u sd ρ k nx H m tb9 G σ) (hr : RW d 30720 r) {Z : Nat} (hZ : 1 ≤ Z ∧ Z ≤ 61) : ∀ (dd q N : Nat) (s : HS), q + dd = Z → dd < N → AR 60 d.1.1.1 (itS d none q r) s → frm wQ wl0 σ s → Ok (f_X11_firstClash_2 N (nI (Z - 1)) (nI q) s) (fun v s => v = (if ffB (claP d r) dd q < Z then nI (ffB (claP d r) dd q) else -2) ∧ frm wQ wl0 σ s) := by
  have hT := h.tc.T7
  intro dd
  induction dd with
  | zero =>
    intro q N s hq hN hs hf
    obtain ⟨N, rfl⟩ : ∃ q, N = q + 1 := ⟨N - 1, by omega⟩
    show Ok (b_X11_firstClash_2 (f_X11_firstClash_2 N) (nI (Z - 1)) (nI q) s) _
    unfold b_X11_firstClash_2
    rw [nIt (n := Z - 1) (by omega), nIt (n := q) (by omega), if_neg (show ¬ ffB (claP d r) 0 q < Z from (by show ¬ q < Z; omega))]
    exact Ok.t (by omega) (Ok.ret ⟨rfl, hf⟩)
  | succ dd ih =>
    intro q N s hq hN hs hf
    obtain ⟨N, rfl⟩ : ∃ q, N = q + 1 := ⟨N - 1, by omega⟩
    have ef : ffB (claP d r) (dd + 1) q = if claP d r q = true then q else ffB (claP d r) dd (q + 1) := rfl
    have h2 := h.fr hf
    have hW : RW d (30720 + q) (itS d none q r) := RW.it h.ok h.tc.ln (by omega) hr
    have cl := cntB_le (p := lnR (itS d none q r) 0) (n := d.1.1.1)
    show Ok (b_X11_firstClash_2 (f_X11_firstClash_2 N) (nI (Z - 1)) (nI q) s) _
    unfold b_X11_firstClash_2
    rw [nIt (n := Z - 1) (by omega), nIt (n := q) (by omega)]
    refine Ok.f (by omega) (Ok.cle (e_howManyLand hs.1 hT) ?_)
    rw [hs.cntLn, ef, nIt (n := cntB (lnR (itS d none q r) 0) d.1.1.1) (by omega)]
    by_cases c : 1 < cntB (lnR (itS d none q r) 0) d.1.1.1
    · have eg : claP d r q = true := by unfold claP; rw [decide_eq_true c]
      rw [if_pos eg, if_pos (show q < Z by omega)]
      exact Ok.t (by omega) (Ok.ret ⟨rfl, hf⟩)
    · have eg : ¬ claP d r q = true := by unfold claP; rw [decide_eq_false c]; decide
      rw [if_neg eg]
      refine Ok.f (by omega) ?_
      rw [h2.t0]
      refine Ok.t h.tk (Ok.cv (w_goOnSafely h2.tc h.ok h.tk a60 hs hW (by omega)) (fun s4 h4 => Ok.bd ?_))
      rw [nI_1]
      refine ih (q + 1) N s4 (by omega) (by omega) ?_ (hf.tr (h4.2.sub bt_wQ))
      rw [it_succ]; exact h4.1
theorem q_clash_c (h : RELx n d t u sd ρ k nx H m tb9 G σ) (hn : n ≤ 512) : Ok (f_X11_clash σ) (fun r s => r = claS d ρ 61 ∧ frm wQ wl0 σ s) := by
  unfold f_X11_clash f_X11_firstClash
  refine Ok.cv (c_trial h) (fun s1 h1 => ?_)
  have := c_clash (s0 := s1) h (h.n0 hn) (Z := 61) (by omega) 61 0 5000 s1 (by omega) (by omega) h1.1 h1.2
  rw [nI_0] at this
  exact Ok.cl this (fun r s h => Ok.ret h)
theorem m_step {s0 : HS} {r : Nat → Int32} {q : Nat} (h : RELx n d t u sd ρ k nx H m tb9 G σ) (hr : RW d 30720 r) (hq : q ≤ 1000) (hR : RRm (itS d none q r) s) (hx : SDm none s) (hf : frm wQ wl0 σ s) : Okv (f_X12_beatGoes s) (fun s1 => RRm (itS d none (q + 1) r) s1 ∧ SDm none s1 ∧ frm wQ wl0 σ s1 ∧ s1.1 236 51 = cauS d.1.1.1 (itS d none q r) ∧ s1.1 236 52 = twoS d.1.1.1 (itS d none q r)) := by
  have h2 := h.fr hf
  have hW : RW d (30720 + q) (itS d none q r) := RW.it h.ok h.tc.ln (by omega) hr
  refine (w_beatGoes h2.tm h.ok hR hW (by omega) hx).mono (fun s1 h1 => ⟨?_, hx.bm h1.2.2.2.2, hf.tr (h1.2.2.2.2.sub bm_wQ), h1.2.1, h1.2.2.1⟩)
  rw [it_succ]; exact h1.1
theorem q_clash_m (h : RELx n d t u sd ρ k nx H m tb9 G σ) (hn : n ≤ 512) : Ok (f_X12_clash σ) (fun r s => r = claS d ρ 61 ∧ frm wQ wl0 σ s) := by
  unfold f_X12_clash
  refine Ok.cv (m_trial h) (fun s1 h1 => ?_)
  have loop : ∀ (dd q N : Nat) (s : HS), q + dd = 61 → dd < N → TRm d ρ σ q s → Ok (f_X12_clash_6 N (nI q) s) (fun r s => r = (if ffB (claP d ρ) dd q < 61 then nI (ffB (claP d ρ) dd q) else -2) ∧ frm wQ wl0 σ s) := by
    intro dd
    induction dd with
    | zero =>
      intro q N s hq hN hs
      obtain ⟨N, rfl⟩ : ∃ q, N = q + 1 := ⟨N - 1, by omega⟩
      show Ok (b_X12_clash_6 (f_X12_clash_6 N) (nI q) s) _
      unfold b_X12_clash_6
      rw [nIt (by omega), if_neg (show ¬ ffB (claP d ρ) 0 q < 61 from (by show ¬ q < 61; omega))]
      exact Ok.t (by omega) (Ok.ret ⟨rfl, hs.2.2⟩)
    | succ dd ih =>
      intro q N s hq hN hs
      obtain ⟨N, rfl⟩ : ∃ q, N = q + 1 := ⟨N - 1, by omega⟩
      have ef : ffB (claP d ρ) (dd + 1) q = if claP d ρ q = true then q else ffB (claP d ρ) dd (q + 1) := rfl
      show Ok (b_X12_clash_6 (f_X12_clash_6 N) (nI q) s) _
      unfold b_X12_clash_6
      rw [nIt (n := q) (by omega), ef]
      refine Ok.f (by omega) (Ok.cv (m_beat h hn (by omega) hs) (fun s1 h1 => ?_))
      obtain ⟨h1, -, e52, -⟩ := h1
      rw [e52]
      by_cases c : 1 < cntB (lnR (itS d none q ρ) 0) d.1.1.1
      · have eg : claP d ρ q = true := by unfold claP; rw [decide_eq_true c]
        rw [if_pos eg, if_pos (show q < 61 by omega)]
        exact Ok.f (fun e => two_iff.mp e c) (Ok.ret ⟨rfl, h1.2.2⟩)
      · have eg : ¬ claP d ρ q = true := by unfold claP; rw [decide_eq_false c]; decide
        rw [if_neg eg]
        refine Ok.t (two_iff.mpr c) (Ok.bd ?_)
        rw [nI_1]
        exact ih (q + 1) N s1 (by omega) (by omega) h1
  rw [nI0]
  exact loop 61 0 5000 s1 (by omega) (by omega) h1
theorem sim_clash (hn : n ≤ 512) : SIM n f_X11_clash f_X12_clash := sim_q (fun d t u sd ρ k nx H m tb G σ h => ⟨_, q_clash_c h hn, fun s hs _ => q_clash_m hs hn⟩)
/-! room -/
def putR (ρ : Nat → Int32) (e q : Nat) : Nat → Int32 := upF (upF ρ e 0) (7 + e) (nI q)
theorem RW.put {e q : Nat} (h : RW d b ρ) (hT : d.1.1.1 ≤ 7) (he : e < d.1.1.1) (hq : q ≤ 9) : RW d b (putR ρ e q) := by
  obtain ⟨w1, w2, w3, w4, w5, w6⟩ := h
  have n7 : ∀ i, 21 ≤ i → putR ρ e q i = ρ i := fun i hi => by unfold putR; rw [upF_n (by omega), upF_n (by omega)]
  refine ⟨fun j hj => ?_, by rw [n7 21 (by omega)]; exact w2, by rw [n7 27 (by omega), n7 21 (by omega)]; exact w3, by rw [n7 26 (by omega)]; exact w4, by rw [n7 28 (by omega)]; exact w5, by rw [n7 22 (by omega)]; exact w6⟩
  unfold putR
  rw [upF_n (show j ≠ 7 + e by omega)]
  by_cases c : j = e
  · subst c
    rw [upF_s, upF_s, nIt (by omega)]
    exact ⟨⟨by decide, by decide⟩, fun _ => by omega⟩
  · rw [upF_n c, upF_n (show 7 + j ≠ 7 + e by omega), upF_n (show 7 + j ≠ e by omega)]
    exact w1 j hj
def rooP (d : DAT) (ρ : Nat → Int32) (e q : Nat) : Bool := decide (¬ ffB (claP d (putR ρ e q)) 60 0 < 60)
def rooS (d : DAT) (ρ : Nat → Int32) (x : Int32) : Int32 := if (0 ≤ x.toInt ∧ x.toInt < d.1.1.1) ∧ (ρ x.toInt.toNat).toInt ≠ 0 then firI (rooP d ρ x.toInt.toNat) 10 (-2) else -1
theorem rooS_in {e : Nat} (he : e < d.1.1.1) (hT : d.1.1.1 ≤ 7) (h0 : (ρ e).toInt ≠ 0) : rooS d ρ (nI e) = firI (rooP d ρ e) 10 (-2) := by
  have e1 : (nI e).toInt = (e : Int) := nIt (by omega)
  unfold rooS
  rw [e1, Int.toNat_natCast, if_pos ⟨⟨by omega, by omega⟩, h0⟩]
theorem q_room_c (h : RELx n d t u sd ρ k nx H m tb9 G σ) (hn : n ≤ 512) : Ok (f_X11_room x σ) (fun r s => r = rooS d ρ x ∧ frm wQ wl0 σ s) := by
  have hT := h.tc.T7
  have hA := h.ar
  unfold f_X11_room
  rw [h.t0]
  refine Ok.t h.tk (Ok.cle (e_hasThing h.tc.1.1 hT) ?_)
  by_cases c : 0 ≤ x.toInt ∧ x.toInt < d.1.1.1
  · refine Ok.f (fun e => if10.mp e c) ?_
    obtain ⟨e, he, rfl⟩ := in_T c (by omega)
    have ee : (nI e).toInt.toNat = e := nItn (by omega)
    refine Ok.cle (e_isUp (by omega)) ?_
    rw [hA.up he]
    unfold upR
    by_cases cu : (ρ e).toInt = 0
    · rw [if_pos (decide_eq_true cu)]
      exact Ok.f i1_ne (Ok.ret ⟨(clo_no (fun h => h.2 (by rw [ee]; exact cu))).symm, frm.rf⟩)
    · have cn : ¬ decide ((ρ e).toInt = 0) = true := by rw [decide_eq_false cu]; decide
      rw [if_neg cn, rooS_in he hT cu]
      refine Ok.t i0_eq ?_
      have loop : ∀ (dd q N : Nat) (s : HS), q + dd = 10 → dd < N → frm wQ wl0 σ s → Ok (f_X11_room_26 N (nI e) (nI q) s) (fun r s => r = (if ffB (rooP d ρ e) dd q < 10 then nI (ffB (rooP d ρ e) dd q) else -2) ∧ frm wQ wl0 σ s) := by
        intro dd
        induction dd with
        | zero =>
          intro q N s hq hN hf
          obtain ⟨N, rfl⟩ : ∃ q, N = q + 1 := ⟨N - 1, by omega⟩
          show Ok (b_X11_room_26 (f_X11_room_26 N) (nI e) (nI q) s) _
          unfold b_X11_room_26
          rw [nIt (n := q) (by omega), if_neg (show ¬ ffB (rooP d ρ e) 0 q < 10 from (by show ¬ q < 10; omega))]
          exact Ok.t (by omega) (Ok.ret ⟨rfl, hf⟩)
        | succ dd ih =>
          intro q N s hq hN hf
          obtain ⟨N, rfl⟩ : ∃ q, N = q + 1 := ⟨N - 1, by omega⟩
          have ef : ffB (rooP d ρ e) (dd + 1) q = if rooP d ρ e q = true then q else ffB (rooP d ρ e) dd (q + 1) := rfl
          have h2 := h.fr hf
          show Ok (b_X11_room_26 (f_X11_room_26 N) (nI e) (nI q) s) _
          unfold b_X11_room_26 f_X11_firstClash
          rw [nIt (n := q) (by omega), ef]
          refine Ok.f (by omega) (Ok.cv (c_trial h2) (fun s1 h1 => Ok.cve (e_putUp (by omega)) ?_))
          have A3 := (h1.1.w (k := e) (v := 0) hT he).l (k := e) (v := nI q) hT he
          have f3 : frm wQ wl0 s (hI (hI s1 (60 + 1) e 0) (60 + 2) e (nI q)) := (h1.2.I rfl).I rfl
          have hr : RW d 30720 (putR ρ e q) := (h.n0 hn).put hT he (by omega)
          have := c_clash (s0 := s1) h hr (Z := 60) (by omega) 60 0 5000 _ (by omega) (by omega) A3 (hf.tr f3)
          rw [nI_0] at this
          refine Ok.cl this (fun v s5 h5 => ?_)
          obtain ⟨rfl, f5⟩ := h5
          have rg := ffB_rg (p := claP d (putR ρ e q)) (d := 60) (e := 0)
          by_cases cc : ffB (claP d (putR ρ e q)) 60 0 < 60
          · have eg : ¬ rooP d ρ e q = true := by unfold rooP; rw [decide_eq_false (not_not_intro cc)]; decide
            rw [if_neg eg, if_pos cc]
            refine Ok.f (by rw [nIt (by omega)]; omega) (Ok.bd ?_)
            rw [nI_1]
            exact ih (q + 1) N s5 (by omega) (by omega) f5
          · have eg : rooP d ρ e q = true := by unfold rooP; rw [decide_eq_true cc]
            rw [if_pos eg, if_neg cc, if_pos (show q < 10 by omega)]
            exact Ok.t (by decide) (Ok.ret ⟨rfl, f5⟩)
      have := loop 10 0 5000 σ (by omega) (by omega) frm.rf
      rw [nI_0] at this
      exact this
  · exact Ok.t (if10.mpr c) (Ok.ret ⟨(clo_no (fun h => c h.1)).symm, frm.rf⟩)
theorem q_room_m (h : RELx n d t u sd ρ k nx H m tb9 G σ) (hn : n ≤ 512) : Ok (f_X12_room x σ) (fun r s => r = rooS d ρ x ∧ frm wQ wl0 σ s) := by
  have hT := h.tc.T7
  have hM := h.tm
  unfold f_X12_room
  refine Ok.cle (e_isThing hM.lv) ?_
  by_cases c : 0 ≤ x.toInt ∧ x.toInt < d.1.1.1
  · refine Ok.f (fun e => if10.mp e c) ?_
    obtain ⟨e, he, rfl⟩ := in_T c (by omega)
    have ee : (nI e).toInt.toNat = e := nItn (by omega)
    rw [nIt (n := e) (by omega), Int.toNat_natCast, h.nw e (by omega)]
    refine Ok.t (by omega) ?_
    by_cases cu : (ρ e).toInt = 0
    · exact Ok.t cu (Ok.ret ⟨(clo_no (fun h => h.2 (by rw [ee]; exact cu))).symm, frm.rf⟩)
    · refine Ok.f cu ?_
      rw [rooS_in he hT cu]
      have hasR : ∀ (q : Nat) (s : HS), q ≤ 9 → frm wQ wl0 σ s → Ok (f_X12_hasRoom (nI e) (nI q) s) (fun r s => r = (if rooP d ρ e q = true then 1 else 0) ∧ frm wQ wl0 σ s) := by
        intro q s hq hf
        have h2 := h.fr hf
        have hr : RW d 30720 (putR ρ e q) := (h.n0 hn).put hT he (by omega)
        unfold f_X12_hasRoom
        refine Ok.cv (m_trial h2) (fun s1 h1 => ?_)
        rw [n7_add, nIt (n := e) (by omega), nIt (n := 7 + e) (by omega), Int.toNat_natCast, Int.toNat_natCast]
        refine Ok.t (by omega) (Ok.bd (Ok.t (by omega) (Ok.bd ?_)))
        have R4 := (h1.1.w (k := e) (v := 0)).w (k := 7 + e) (v := nI q)
        generalize hs4 : hI (hI s1 267 e 0) 267 (7 + e) (nI q) = s4 at R4
        have f4 : frm (fun a _ => a == 267) wl0 s1 s4 := by rw [← hs4]; exact (frm.rf.I rfl).I rfl
        have F4 : frm wQ wl0 s1 s4 := by rw [← hs4]; exact (frm.rf.I rfl).I rfl
        have x4 : SDm none s4 := by
          unfold SDm
          rw [f4.1 236 49 rfl, f4.1 236 50 rfl]; exact h1.2.1
        have loop : ∀ (dd j N : Nat) (s : HS), j + dd = 60 → dd < N → RRm (itS d none j (putR ρ e q)) s → SDm none s → frm wQ wl0 σ s → Ok (f_X12_hasRoom_23 N (nI j) s) (fun r s => r = (if ¬ ffB (claP d (putR ρ e q)) dd j < 60 then 1 else 0) ∧ frm wQ wl0 σ s) := by
          intro dd
          induction dd with
          | zero =>
            intro j N s hj hN hR hx hf
            obtain ⟨N, rfl⟩ : ∃ q, N = q + 1 := ⟨N - 1, by omega⟩
            show Ok (b_X12_hasRoom_23 (f_X12_hasRoom_23 N) (nI j) s) _
            unfold b_X12_hasRoom_23
            rw [nIt (n := j) (by omega), if_pos (show ¬ ffB (claP d (putR ρ e q)) 0 j < 60 from (by show ¬ j < 60; omega))]
            exact Ok.f (by omega) (Ok.ret ⟨rfl, hf⟩)
          | succ dd ih =>
            intro j N s hj hN hR hx hf
            obtain ⟨N, rfl⟩ : ∃ q, N = q + 1 := ⟨N - 1, by omega⟩
            have ef : ffB (claP d (putR ρ e q)) (dd + 1) j = if claP d (putR ρ e q) j = true then j else ffB (claP d (putR ρ e q)) dd (j + 1) := rfl
            show Ok (b_X12_hasRoom_23 (f_X12_hasRoom_23 N) (nI j) s) _
            unfold b_X12_hasRoom_23
            rw [nIt (n := j) (by omega), ef]
            refine Ok.t (by omega) (Ok.cv (m_step (s0 := s) h hr (by omega) hR hx hf) (fun s1 h1 => ?_))
            obtain ⟨R1, x1, g1, -, e52⟩ := h1
            rw [e52]
            by_cases c : 1 < cntB (lnR (itS d none j (putR ρ e q)) 0) d.1.1.1
            · have eg : claP d (putR ρ e q) j = true := by unfold claP; rw [decide_eq_true c]
              rw [if_pos eg, if_neg (not_not_intro (show j < 60 by omega))]
              exact Ok.f (fun e => two_iff.mp e c) (Ok.ret ⟨rfl, g1⟩)
            · have eg : ¬ claP d (putR ρ e q) j = true := by unfold claP; rw [decide_eq_false c]; decide
              rw [if_neg eg]
              refine Ok.t (two_iff.mpr c) (Ok.bd ?_)
              rw [nI_1]
              exact ih (j + 1) N s1 (by omega) (by omega) R1 x1 g1
        rw [nI0]
        refine (loop 60 0 5000 s4 (by omega) (by omega) R4 x4 ((hf.tr h1.2.2).tr F4)).mono (fun r s h => ⟨?_, h.2⟩)
        rw [h.1]
        unfold rooP
        by_cases cc : ffB (claP d (putR ρ e q)) 60 0 < 60
        · rw [if_neg (not_not_intro cc), decide_eq_false (not_not_intro cc)]; rfl
        · rw [if_pos cc, decide_eq_true cc]; rfl
      have loop : ∀ (dd q N : Nat) (s : HS), q + dd = 10 → dd < N → frm wQ wl0 σ s → Ok (f_X12_room_21 N (nI e) (nI q) s) (fun r s => r = (if ffB (rooP d ρ e) dd q < 10 then nI (ffB (rooP d ρ e) dd q) else -2) ∧ frm wQ wl0 σ s) := by
        intro dd
        induction dd with
        | zero =>
          intro q N s hq hN hf
          obtain ⟨N, rfl⟩ : ∃ q, N = q + 1 := ⟨N - 1, by omega⟩
          show Ok (b_X12_room_21 (f_X12_room_21 N) (nI e) (nI q) s) _
          unfold b_X12_room_21
          rw [nIt (n := q) (by omega), if_neg (show ¬ ffB (rooP d ρ e) 0 q < 10 from (by show ¬ q < 10; omega))]
          exact Ok.f (by omega) (Ok.ret ⟨rfl, hf⟩)
        | succ dd ih =>
          intro q N s hq hN hf
          obtain ⟨N, rfl⟩ : ∃ q, N = q + 1 := ⟨N - 1, by omega⟩
          have ef : ffB (rooP d ρ e) (dd + 1) q = if rooP d ρ e q = true then q else ffB (rooP d ρ e) dd (q + 1) := rfl
          show Ok (b_X12_room_21 (f_X12_room_21 N) (nI e) (nI q) s) _
          unfold b_X12_room_21
          rw [nIt (n := q) (by omega), ef]
          refine Ok.t (by omega) (Ok.cl (hasR q s (by omega) hf) (fun v s1 h1 => ?_))
          obtain ⟨rfl, f1⟩ := h1
          cases hp : rooP d ρ e q with
          | true =>
            rw [if_pos rfl, if_pos rfl, if_pos (show q < 10 by omega)]
            exact Ok.f i1_ne (Ok.ret ⟨rfl, f1⟩)
          | false =>
            refine Ok.t i0_eq (Ok.bd ?_)
            rw [nI_1]
            exact ih (q + 1) N s1 (by omega) (by omega) f1
      have := loop 10 0 5000 σ (by omega) (by omega) frm.rf
      rw [nI_0] at this
      exact this
  · exact Ok.t (if10.mpr c) (Ok.ret ⟨(clo_no (fun h => c h.1)).symm, frm.rf⟩)
theorem sim_room (hn : n ≤ 512) : SIM n (f_X11_room x) (f_X12_room x) := sim_q (fun d t u sd ρ k nx H m tb G σ h => ⟨_, q_room_c h hn, fun s hs _ => q_room_m hs hn⟩)
end WOULD
