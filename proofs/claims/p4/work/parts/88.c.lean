/-! what would be, with drops: then, year; handover, limit, down, light (that they answer) -/
section WOULC
variable {σ s : HS} {n t u sd k nx m p L T : Nat} {ρ : Nat → Int32} {d : DAT} {b : Int} {H G : Nat → Nat → Int32} {tb9 : Nat → Nat} {x y z : Int32}
def seeI (d : DAT) : Int32 := Int32.ofInt d.2.1.2
theorem see_v (hD : DOK d) : (seeI d).toInt = d.2.1.2 := by
  have := hD.2.2.1.2
  unfold seeI
  rw [Int32.toInt_ofInt]; exact i32_bm (by omega)
theorem see_c (h : RELx n d t u sd ρ k nx H m tb9 G σ) : σ.1 t 11 = seeI d := ofI h.tc.2.2.1.2
theorem see_k (hD : DOK d) {q : Nat} (hq : q ≤ 100) : (seeI d + nI q).toInt = d.2.1.2 + q := by
  have := hD.2.2.1.2
  rw [i32_add (by rw [see_v hD, nIt (by omega)]; omega), see_v hD, nIt (by omega)]
theorem SDr.see (hD : DOK d) {q : Nat} (hq : q ≤ 100) : SDr (seeI d + nI q) (some (seeI d + nI q)) := Or.inr ⟨rfl, by
  have := hD.2.2.1.2
  rw [see_k hD hq]; omega⟩
theorem SDr.see0 (hD : DOK d) : SDr (seeI d) (some (seeI d)) := Or.inr ⟨rfl, by
  have := hD.2.2.1.2
  rw [see_v hD]; omega⟩
/-- a trial of the class with drops -/
def TRd (d : DAT) (v : Int32) (ρ : Nat → Int32) (σ : HS) (k : Nat) (s : HS) : Prop := AR 60 d.1.1.1 (itS d (some v) k ρ) s ∧ frm wQ wl0 σ s
theorem c_go {v : Int32} {r : Nat → Int32} {q : Nat} (h : RELx n d t u sd ρ k nx H m tb9 G σ) (hr : RW d 30720 r) (hA : AR 60 d.1.1.1 r s) (hf : frm wQ wl0 σ s) (hq : q ≤ 60) (hv : SDr v (some v)) : Okv (f_X4_goOn t 60 (nI q) v s) (TRd d v r σ q) := by
  have h2 := h.fr hf
  exact (w_goOn h2.tc h.ok h.tk a60 hv (by omega) hA hr (by omega)).mono (fun s1 h1 => ⟨h1.1, hf.tr (h1.2.sub bt_wQ)⟩)
def thnI (d : DAT) (ρ : Nat → Int32) (q : Nat) (y : Int32) : Int32 := if y.toInt = 0 then itS d (some (seeI d)) q ρ 22 else if y.toInt = 1 then upsS d.1.1.1 (itS d (some (seeI d)) q ρ) else if y.toInt = 2 then itS d (some (seeI d)) q ρ 23 - ρ 23 else itS d (some (seeI d)) q ρ 25 - ρ 25
def thnS (d : DAT) (ρ : Nat → Int32) (x y : Int32) : Int32 := if (0 ≤ x.toInt ∧ x.toInt ≤ 60) ∧ (0 ≤ y.toInt ∧ y.toInt ≤ 3) then thnI d ρ x.toInt.toNat y else -1
theorem thnS_in {q : Nat} (hq : q ≤ 60) (hy : 0 ≤ y.toInt ∧ y.toInt ≤ 3) : thnS d ρ (nI q) y = thnI d ρ q y := by
  unfold thnS
  rw [nIt (by omega), Int.toNat_natCast]
  exact if_pos ⟨⟨by omega, by omega⟩, hy⟩
theorem q_then_c (h : RELx n d t u sd ρ k nx H m tb9 G σ) (hn : n ≤ 512) : Ok (f_X11_then x y σ) (fun r s => r = thnS d ρ x y ∧ frm wQ wl0 σ s) := by
  have hT := h.tc.T7
  unfold f_X11_then
  by_cases c1 : x.toInt < 0
  · exact Ok.t c1 (Ok.ret ⟨(clo_no (fun h => by omega)).symm, frm.rf⟩)
  by_cases c2 : 60 < x.toInt
  · exact Ok.f c1 (Ok.t c2 (Ok.ret ⟨(clo_no (fun h => by omega)).symm, frm.rf⟩))
  by_cases c3 : y.toInt < 0
  · exact Ok.f c1 (Ok.f c2 (Ok.t c3 (Ok.ret ⟨(clo_no (fun h => by omega)).symm, frm.rf⟩)))
  by_cases c4 : 3 < y.toInt
  · exact Ok.f c1 (Ok.f c2 (Ok.f c3 (Ok.t c4 (Ok.ret ⟨(clo_no (fun h => by omega)).symm, frm.rf⟩))))
  refine Ok.f c1 (Ok.f c2 (Ok.f c3 (Ok.f c4 (Ok.cv (c_trial h) (fun s1 h1 => ?_)))))
  obtain ⟨q, hq, rfl⟩ : ∃ q, q < 61 ∧ x = nI q := in_T (T := 61) (by omega) (by decide)
  have h2 := h.fr h1.2
  rw [thnS_in (by omega) (by omega), h2.t0, see_c h2]
  refine Ok.t h.tk (Ok.t h.tk (Ok.cv (c_go h (h.n0 hn) h1.1 h1.2 (by omega) (SDr.see0 h.ok)) (fun s5 h5 => ?_)))
  have h5r := h.fr h5.2
  have A5 := h5.1
  have A0 := h5r.ar
  by_cases d0 : y.toInt = 0
  · refine Ok.t d0 (Ok.ret ⟨?_, h5.2⟩)
    unfold thnI; rw [if_pos d0]; exact A5.2.2.1 5 (by decide) (by decide)
  refine Ok.f d0 ?_
  by_cases d1 : y.toInt = 1
  · refine Ok.t d1 (Ok.cle (e_howManyUp A5.1 hT) (Ok.ret ⟨?_, h5.2⟩))
    unfold thnI; rw [if_neg d0, if_pos d1, A5.cntUp]; rfl
  refine Ok.f d1 ?_
  by_cases d2 : y.toInt = 2
  · refine Ok.t d2 (Ok.ret ⟨?_, h5.2⟩)
    unfold thnI; rw [if_neg d0, if_neg d1, if_pos d2, A5.2.2.1 6 (by decide) (by decide), A0.2.2.1 6 (by decide) (by decide)]
  · refine Ok.f d2 (Ok.ret ⟨?_, h5.2⟩)
    unfold thnI; rw [if_neg d0, if_neg d1, if_neg d2, A5.2.2.1 8 (by decide) (by decide), A0.2.2.1 8 (by decide) (by decide)]
theorem q_then_m (h : RELx n d t u sd ρ k nx H m tb9 G σ) (hn : n ≤ 512) : Ok (f_X12_then x y σ) (fun r s => r = thnS d ρ x y ∧ frm wQ wl0 σ s) := by
  have hT := h.tc.T7
  have e3 : (3 : Int32).toInt = 3 := rfl
  unfold f_X12_then
  refine Ok.cle e_isLong ?_
  by_cases c : 0 ≤ x.toInt ∧ x.toInt ≤ 60
  · refine Ok.f (fun e => if10.mp e c) (Ok.cle e_in ?_)
    rw [i0_eq, e3]
    by_cases cy : 0 ≤ y.toInt ∧ y.toInt ≤ 3
    · refine Ok.f (fun e => if10.mp e cy) (Ok.cv (w_copies h.tm h.nw) (fun s5 h5 => ?_))
      obtain ⟨q, hq, rfl⟩ : ∃ q, q < 61 ∧ x = nI q := in_T (T := 61) (by omega) (by decide)
      rw [thnS_in (by omega) cy]
      obtain ⟨R5, x5, -, f5⟩ := h5
      have F5 := f5.sub cp_wQ
      have h5 := h.fr F5
      refine Ok.cv (w_goes (b := 30720) h5.tm h.ok h.tc.ln (by omega) R5 (h.n0 hn) (by omega) x5) (fun s7 h7 => ?_)
      obtain ⟨R7, f7⟩ := h7
      have F7 := F5.tr (f7.sub bm_wQ)
      have h7 := h.fr F7
      have N7 := h7.nw
      by_cases d0 : y.toInt = 0
      · refine Ok.t d0 (Ok.ret ⟨?_, F7⟩)
        unfold thnI; rw [if_pos d0]; exact R7 22 (by decide)
      refine Ok.f d0 ?_
      by_cases d1 : y.toInt = 1
      · refine Ok.t d1 (Ok.cle (e_thingsSo h7.tm.lv) (Ok.cle e_bits (Ok.ret ⟨?_, F7⟩)))
        unfold thnI; rw [if_neg d0, if_pos d1, pcM_cnt (by omega)]
        unfold upsS
        exact congrArg nI (R7.cntUp hT)
      refine Ok.f d1 ?_
      by_cases d2 : y.toInt = 2
      · refine Ok.t d2 (Ok.ret ⟨?_, F7⟩)
        unfold thnI; rw [if_neg d0, if_neg d1, if_pos d2, R7 23 (by decide), N7 23 (by decide)]; rfl
      · refine Ok.f d2 (Ok.ret ⟨?_, F7⟩)
        unfold thnI; rw [if_neg d0, if_neg d1, if_neg d2, R7 25 (by decide), N7 25 (by decide)]; rfl
    · exact Ok.t (if10.mpr cy) (Ok.ret ⟨(clo_no (fun h => cy h.2)).symm, frm.rf⟩)
  · exact Ok.t (if10.mpr c) (Ok.ret ⟨(clo_no (fun h => c h.1)).symm, frm.rf⟩)
theorem sim_then (hn : n ≤ 512) : SIM n (f_X11_then x y) (f_X12_then x y) := sim_q (fun d t u sd ρ k nx H m tb G σ h => ⟨_, q_then_c h hn, fun s hs _ => q_then_m hs hn⟩)
/-! year -/
def yeaP (d : DAT) (ρ : Nat → Int32) (q k : Nat) : Bool := decide ((itS d (some (seeI d + nI k)) q ρ 23).toInt = (ρ 23).toInt)
def yeaS (d : DAT) (ρ : Nat → Int32) (x y : Int32) : Int32 := if (0 ≤ x.toInt ∧ x.toInt ≤ 60) ∧ (1 ≤ y.toInt ∧ y.toInt ≤ 20) then nI (cntB (yeaP d ρ x.toInt.toNat) y.toInt.toNat) else -1
theorem yeaS_in {q Z : Nat} (hq : q ≤ 60) (hZ : 1 ≤ Z ∧ Z ≤ 20) : yeaS d ρ (nI q) (nI Z) = nI (cntB (yeaP d ρ q) Z) := by
  unfold yeaS
  rw [nIt (n := q) (by omega), nIt (n := Z) (by omega), Int.toNat_natCast, Int.toNat_natCast]
  exact if_pos ⟨⟨by omega, by omega⟩, ⟨by omega, by omega⟩⟩
theorem q_year_c (h : RELx n d t u sd ρ k nx H m tb9 G σ) (hn : n ≤ 512) : Ok (f_X11_year x y σ) (fun r s => r = yeaS d ρ x y ∧ frm wQ wl0 σ s) := by
  have hT := h.tc.T7
  unfold f_X11_year
  by_cases c1 : x.toInt < 0
  · exact Ok.t c1 (Ok.ret ⟨(clo_no (fun h => by omega)).symm, frm.rf⟩)
  by_cases c2 : 60 < x.toInt
  · exact Ok.f c1 (Ok.t c2 (Ok.ret ⟨(clo_no (fun h => by omega)).symm, frm.rf⟩))
  by_cases c3 : y.toInt < 1
  · exact Ok.f c1 (Ok.f c2 (Ok.t c3 (Ok.ret ⟨(clo_no (fun h => by omega)).symm, frm.rf⟩)))
  by_cases c4 : 20 < y.toInt
  · exact Ok.f c1 (Ok.f c2 (Ok.f c3 (Ok.t c4 (Ok.ret ⟨(clo_no (fun h => by omega)).symm, frm.rf⟩))))
  refine Ok.f c1 (Ok.f c2 (Ok.f c3 (Ok.f c4 ?_)))
  obtain ⟨q, hq, rfl⟩ : ∃ q, q < 61 ∧ x = nI q := in_T (T := 61) (by omega) (by decide)
  obtain ⟨Z, hZ, rfl⟩ : ∃ q, q < 21 ∧ y = nI q := in_T (T := 21) (by omega) (by decide)
  rw [nIt (by omega)] at c3
  rw [yeaS_in (by omega) (by omega)]
  have loop : ∀ (dd j N : Nat) (s : HS), j + dd = Z → dd < N → frm wQ wl0 σ s → Ok (f_X11_year_28 N (nI q) (nI Z) (nI (cntB (yeaP d ρ q) j)) (nI j) s) (fun r s => r = nI (cntB (yeaP d ρ q) Z) ∧ frm wQ wl0 σ s) := by
    intro dd
    induction dd with
    | zero =>
      intro j N s hj hN hf
      obtain ⟨N, rfl⟩ : ∃ q, N = q + 1 := ⟨N - 1, by omega⟩
      obtain rfl : j = Z := by omega
      show Ok (b_X11_year_28 (f_X11_year_28 N) (nI q) (nI j) _ (nI j) s) _
      unfold b_X11_year_28
      exact Ok.f (Int.lt_irrefl _) (Ok.ret ⟨rfl, hf⟩)
    | succ dd ih =>
      intro j N s hj hN hf
      obtain ⟨N, rfl⟩ : ∃ q, N = q + 1 := ⟨N - 1, by omega⟩
      have h2 := h.fr hf
      have ec : cntB (yeaP d ρ q) (j + 1) = if yeaP d ρ q j = true then cntB (yeaP d ρ q) j + 1 else cntB (yeaP d ρ q) j := rfl
      show Ok (b_X11_year_28 (f_X11_year_28 N) (nI q) (nI Z) _ (nI j) s) _
      unfold b_X11_year_28 f_X11_year_91
      rw [nIt (n := j) (by omega), nIt (n := Z) (by omega)]
      refine Ok.t (by omega) (Ok.cv (c_trial h2) (fun s1 h1 => ?_))
      have F1 := hf.tr h1.2
      have h1r := h.fr F1
      rw [h1r.t0, see_c h1r]
      refine Ok.t h.tk (Ok.t h.tk (Ok.cv (c_go h (h.n0 hn) h1.1 F1 (by omega) (SDr.see h.ok (by omega))) (fun s5 h5 => ?_)))
      have h5r := h.fr h5.2
      rw [h5.1.2.2.1 6 (by decide) (by decide), h5r.ar.2.2.1 6 (by decide) (by decide)]
      by_cases cp : (itS d (some (seeI d + nI j)) q ρ 23).toInt = (ρ 23).toInt
      · have ep : yeaP d ρ q j = true := decide_eq_true cp
        refine Ok.t cp (Ok.bd (Ok.bd ?_))
        rw [nI_1, nI_1]
        have := ih (j + 1) N s5 (by omega) (by omega) h5.2
        rw [ec, if_pos ep] at this
        exact this
      · have ep : ¬ yeaP d ρ q j = true := by unfold yeaP; rw [decide_eq_false cp]; decide
        refine Ok.f cp (Ok.bd ?_)
        rw [nI_1]
        have := ih (j + 1) N s5 (by omega) (by omega) h5.2
        rw [ec, if_neg ep] at this
        exact this
  have := loop Z 0 5000 σ (by omega) (by omega) frm.rf
  rw [show nI (cntB (yeaP d ρ q) 0) = 0 from nI_0, nI_0] at this
  exact this
theorem q_year_m (h : RELx n d t u sd ρ k nx H m tb9 G σ) (hn : n ≤ 512) : Ok (f_X12_year x y σ) (fun r s => r = yeaS d ρ x y ∧ frm wQ wl0 σ s) := by
  have hT := h.tc.T7
  have e20 : (20 : Int32).toInt = 20 := rfl
  unfold f_X12_year
  refine Ok.cle e_isLong ?_
  by_cases c : 0 ≤ x.toInt ∧ x.toInt ≤ 60
  · refine Ok.f (fun e => if10.mp e c) (Ok.cle e_in ?_)
    rw [i1_e, e20]
    by_cases cy : 1 ≤ y.toInt ∧ y.toInt ≤ 20
    · refine Ok.f (fun e => if10.mp e cy) ?_
      obtain ⟨q, hq, rfl⟩ : ∃ q, q < 61 ∧ x = nI q := in_T (T := 61) (by omega) (by decide)
      obtain ⟨Z, hZ, rfl⟩ : ∃ q, q < 21 ∧ y = nI q := in_T (T := 21) (by omega) (by decide)
      rw [nIt (by omega)] at cy
      rw [yeaS_in (by omega) (by omega)]
      have loop : ∀ (dd j N : Nat) (s : HS), j + dd = Z → dd < N → frm wQ wl0 σ s → Ok (f_X12_year_24 N (nI q) (nI Z) (nI (cntB (yeaP d ρ q) j)) (nI j) s) (fun r s => r = nI (cntB (yeaP d ρ q) Z) ∧ frm wQ wl0 σ s) := by
        intro dd
        induction dd with
        | zero =>
          intro j N s hj hN hf
          obtain ⟨N, rfl⟩ : ∃ q, N = q + 1 := ⟨N - 1, by omega⟩
          obtain rfl : j = Z := by omega
          show Ok (b_X12_year_24 (f_X12_year_24 N) (nI q) (nI j) _ (nI j) s) _
          unfold b_X12_year_24
          exact Ok.f (Int.lt_irrefl _) (Ok.ret ⟨rfl, hf⟩)
        | succ dd ih =>
          intro j N s hj hN hf
          obtain ⟨N, rfl⟩ : ∃ q, N = q + 1 := ⟨N - 1, by omega⟩
          have h2 := h.fr hf
          have ec : cntB (yeaP d ρ q) (j + 1) = if yeaP d ρ q j = true then cntB (yeaP d ρ q) j + 1 else cntB (yeaP d ρ q) j := rfl
          show Ok (b_X12_year_24 (f_X12_year_24 N) (nI q) (nI Z) _ (nI j) s) _
          unfold b_X12_year_24 f_X12_year_70
          rw [nIt (n := j) (by omega), nIt (n := Z) (by omega)]
          refine Ok.t (by omega) (Ok.cv (w_copies h2.tm h2.nw) (fun s1 h1 => Ok.bd ?_))
          obtain ⟨R1, x1, e49, f1⟩ := h1
          have e49' : s1.1 236 49 = seeI d := e49
          rw [e49']
          generalize hs3 : hI s1 236 49 (seeI d + nI j) = s3
          have R3 : RRm ρ s3 := fun i hi => by rw [← hs3, rI_i (by decide)]; exact R1 i hi
          have x3 : SDm (some (seeI d + nI j)) s3 := by
            rcases x1 with ⟨h1, -⟩ | ⟨-, h50⟩
            · exact nomatch h1
            · exact Or.inr ⟨by rw [← hs3, rI_s], by rw [← hs3, rI_k (by decide)]; exact h50⟩
          have F3 : frm wQ wl0 σ s3 := by rw [← hs3]; exact (hf.tr (f1.sub cp_wQ)).I rfl
          have h3 := h.fr F3
          refine Ok.cv (w_goes (b := 30720) h3.tm h.ok h.tc.ln (by omega) R3 (h.n0 hn) (by omega) x3) (fun s4 h4 => ?_)
          obtain ⟨R4, f4⟩ := h4
          have F4 := F3.tr (f4.sub bm_wQ)
          have h4 := h.fr F4
          rw [R4 23 (by decide), h4.nw 23 (by decide)]
          by_cases cp : (itS d (some (seeI d + nI j)) q ρ 23).toInt = (ρ 23).toInt
          · have ep : yeaP d ρ q j = true := decide_eq_true cp
            refine Ok.t cp (Ok.bd (Ok.bd ?_))
            rw [nI_1, nI_1]
            have := ih (j + 1) N s4 (by omega) (by omega) F4
            rw [ec, if_pos ep] at this
            exact this
          · have ep : ¬ yeaP d ρ q j = true := by unfold yeaP; rw [decide_eq_false cp]; decide
            refine Ok.f cp (Ok.bd ?_)
            rw [nI_1]
            have := ih (j + 1) N s4 (by omega) (by omega) F4
            rw [ec, if_neg ep] at this
            exact this
      have := loop Z 0 5000 σ (by omega) (by omega) frm.rf
      rw [show nI (cntB (yeaP d ρ q) 0) = 0 from nI_0, nI_0] at this
      exact this
    · exact Ok.t (if10.mpr cy) (Ok.ret ⟨(clo_no (fun h => cy h.2)).symm, frm.rf⟩)
  · exact Ok.t (if10.mpr c) (Ok.ret ⟨(clo_no (fun h => c h.1)).symm, frm.rf⟩)
theorem sim_year (hn : n ≤ 512) : SIM n (f_X11_year x y) (f_X12_year x y) := sim_q (fun d t u sd ρ k nx H m tb G σ h => ⟨_, q_year_c h hn, fun s hs _ => q_year_m hs hn⟩)
/-! that handover, limit, down answer -/
theorem c_go1 {q : Nat} (h : RELx n d t u sd ρ k nx H m tb9 G σ) (hn : n ≤ 512) (hq : q ≤ 1000) (hs : TRd d (seeI d) ρ σ q s) : Okv (f_X4_goOn t 60 1 (seeI d) s) (TRd d (seeI d) ρ σ (q + 1)) := by
  have h2 := h.fr hs.2
  have hW : RW d (30720 + q) (itS d (some (seeI d)) q ρ) := RW.it h.ok h.tc.ln (by omega) (h.n0 hn)
  rw [show (1 : Int32) = nI 1 from rfl]
  refine (w_goOn h2.tc h.ok h.tk a60 (SDr.see0 h.ok) (by omega) hs.1 hW (by omega)).mono (fun s1 h1 => ⟨?_, hs.2.tr (h1.2.sub bt_wQ)⟩)
  rw [it_add]; exact h1.1
theorem c_trd (h : RELx n d t u sd ρ k nx H m tb9 G σ) : Okv (f_X0_copy 60 56 σ) (TRd d (seeI d) ρ σ 0) := (c_trial h).mono (fun _ h => h)
theorem q_limit_c (h : RELx n d t u sd ρ k nx H m tb9 G σ) (hn : n ≤ 512) : Ok (f_X11_limit x σ) (fun _ s => frm wQ wl0 σ s) := by
  unfold f_X11_limit
  refine Ok.i (fun _ => Ok.ret frm.rf) (fun _ => Ok.i (fun _ => Ok.ret frm.rf) (fun _ => Ok.cv (c_trd h) (fun s1 h1 => ?_)))
  have loop : ∀ (dd q N : Nat) (s : HS), q + dd = 201 → dd < N → TRd d (seeI d) ρ σ q s → Ok (f_X11_limit_26 N x (nI q) s) (fun _ s => frm wQ wl0 σ s) := by
    intro dd
    induction dd with
    | zero =>
      intro q N s hq hN hs
      obtain ⟨N, rfl⟩ : ∃ q, N = q + 1 := ⟨N - 1, by omega⟩
      show Ok (b_X11_limit_26 (f_X11_limit_26 N) x (nI q) s) _
      unfold b_X11_limit_26
      rw [nIt (by omega)]
      exact Ok.t (by omega) (Ok.ret hs.2)
    | succ dd ih =>
      intro q N s hq hN hs
      obtain ⟨N, rfl⟩ : ∃ q, N = q + 1 := ⟨N - 1, by omega⟩
      have h2 := h.fr hs.2
      show Ok (b_X11_limit_26 (f_X11_limit_26 N) x (nI q) s) _
      unfold b_X11_limit_26
      rw [nIt (by omega), h2.t0, see_c h2]
      refine Ok.f (by omega) (Ok.i (fun _ => Ok.t h.tk (Ok.t h.tk (Ok.cv (c_go1 h hn (by omega) hs) (fun s3 h3 => Ok.bd ?_)))) (fun _ => Ok.ret hs.2))
      rw [nI_1]
      exact ih (q + 1) N s3 (by omega) (by omega) h3
  rw [nI0]
  exact loop 201 0 5000 s1 (by omega) (by omega) h1
theorem q_limit_m (h : RELx n d t u sd ρ k nx H m tb9 G σ) (hn : n ≤ 512) : Ok (f_X12_limit x σ) (fun _ s => frm wQ wl0 σ s) := by
  unfold f_X12_limit
  refine Ok.cle e_in (Ok.i (fun _ => Ok.ret frm.rf) (fun _ => Ok.cv (m_trial h) (fun s1 h1 => ?_)))
  have loop : ∀ (dd q N : Nat) (s : HS), q + dd = 201 → dd < N → TRm d ρ σ q s → Ok (f_X12_limit_19 N x (nI q) s) (fun _ s => frm wQ wl0 σ s) := by
    intro dd
    induction dd with
    | zero =>
      intro q N s hq hN hs
      obtain ⟨N, rfl⟩ : ∃ q, N = q + 1 := ⟨N - 1, by omega⟩
      show Ok (b_X12_limit_19 (f_X12_limit_19 N) x (nI q) s) _
      unfold b_X12_limit_19
      rw [nIt (by omega)]
      exact Ok.t (by omega) (Ok.ret hs.2.2)
    | succ dd ih =>
      intro q N s hq hN hs
      obtain ⟨N, rfl⟩ : ∃ q, N = q + 1 := ⟨N - 1, by omega⟩
      show Ok (b_X12_limit_19 (f_X12_limit_19 N) x (nI q) s) _
      unfold b_X12_limit_19
      rw [nIt (by omega)]
      refine Ok.f (by omega) (Ok.i (fun _ => Ok.cv (m_beat h hn (by omega) hs) (fun s3 h3 => Ok.bd ?_)) (fun _ => Ok.ret hs.2.2))
      rw [nI_1]
      exact ih (q + 1) N s3 (by omega) (by omega) h3.1
  rw [nI0]
  exact loop 201 0 5000 s1 (by omega) (by omega) h1
theorem simx_limit (hn : n ≤ 512) : SIMx n (f_X11_limit x) (f_X12_limit x) := sim_x (fun d t u sd ρ k nx H m tb G σ h => ⟨q_limit_c h hn, q_limit_m h hn⟩)
theorem q_down_c (h : RELx n d t u sd ρ k nx H m tb9 G σ) (hn : n ≤ 512) : Ok (f_X11_down σ) (fun _ s => frm wQ wl0 σ s) := by
  have hT := h.tc.T7
  unfold f_X11_down
  refine Ok.cv (c_trd h) (fun s1 h1 => ?_)
  have loop : ∀ (dd q N : Nat) (s : HS), q + dd = 201 → dd < N → TRd d (seeI d) ρ σ q s → Ok (f_X11_down_13 N (nI q) s) (fun _ s => frm wQ wl0 σ s) := by
    intro dd
    induction dd with
    | zero =>
      intro q N s hq hN hs
      obtain ⟨N, rfl⟩ : ∃ q, N = q + 1 := ⟨N - 1, by omega⟩
      show Ok (b_X11_down_13 (f_X11_down_13 N) (nI q) s) _
      unfold b_X11_down_13
      rw [nIt (by omega)]
      exact Ok.t (by omega) (Ok.ret hs.2)
    | succ dd ih =>
      intro q N s hq hN hs
      obtain ⟨N, rfl⟩ : ∃ q, N = q + 1 := ⟨N - 1, by omega⟩
      have h2 := h.fr hs.2
      show Ok (b_X11_down_13 (f_X11_down_13 N) (nI q) s) _
      unfold b_X11_down_13
      rw [nIt (by omega)]
      refine Ok.f (by omega) (Ok.cle (e_howManyUp hs.1.1 hT) (Ok.i (fun _ => Ok.ret hs.2) (fun _ => ?_)))
      rw [h2.t0, see_c h2]
      refine Ok.t h.tk (Ok.t h.tk (Ok.cv (c_go1 h hn (by omega) hs) (fun s3 h3 => Ok.bd ?_)))
      rw [nI_1]
      exact ih (q + 1) N s3 (by omega) (by omega) h3
  rw [nI0]
  exact loop 201 0 5000 s1 (by omega) (by omega) h1
theorem q_down_m (h : RELx n d t u sd ρ k nx H m tb9 G σ) (hn : n ≤ 512) : Ok (f_X12_down σ) (fun _ s => frm wQ wl0 σ s) := by
  unfold f_X12_down
  refine Ok.cv (m_trial h) (fun s1 h1 => ?_)
  have loop : ∀ (dd q N : Nat) (s : HS), q + dd = 201 → dd < N → TRm d ρ σ q s → Ok (f_X12_down_6 N (nI q) s) (fun _ s => frm wQ wl0 σ s) := by
    intro dd
    induction dd with
    | zero =>
      intro q N s hq hN hs
      obtain ⟨N, rfl⟩ : ∃ q, N = q + 1 := ⟨N - 1, by omega⟩
      show Ok (b_X12_down_6 (f_X12_down_6 N) (nI q) s) _
      unfold b_X12_down_6
      rw [nIt (by omega)]
      exact Ok.t (by omega) (Ok.ret hs.2.2)
    | succ dd ih =>
      intro q N s hq hN hs
      obtain ⟨N, rfl⟩ : ∃ q, N = q + 1 := ⟨N - 1, by omega⟩
      have h2 := h.fr hs.2.2
      show Ok (b_X12_down_6 (f_X12_down_6 N) (nI q) s) _
      unfold b_X12_down_6
      rw [nIt (by omega)]
      refine Ok.f (by omega) (Ok.cle (e_thingsSo h2.tm.lv) (Ok.i (fun _ => Ok.ret hs.2.2) (fun _ => Ok.cv (m_beat h hn (by omega) hs) (fun s3 h3 => Ok.bd ?_))))
      rw [nI_1]
      exact ih (q + 1) N s3 (by omega) (by omega) h3.1
  rw [nI0]
  exact loop 201 0 5000 s1 (by omega) (by omega) h1
theorem simx_down (hn : n ≤ 512) : SIMx n f_X11_down f_X12_down := sim_x (fun d t u sd ρ k nx H m tb G σ h => ⟨q_down_c h hn, q_down_m h hn⟩)
theorem q_handover_c (h : RELx n d t u sd ρ k nx H m tb9 G σ) (hn : n ≤ 512) : Ok (f_X11_handover σ) (fun _ s => frm wQ wl0 σ s) := by
  have hT := h.tc.T7
  unfold f_X11_handover
  refine Ok.cv (c_trd h) (fun s1 h1 => Ok.cle (e_bitsOf (h.fr h1.2).ar.1 hT) ?_)
  generalize bset _ _ = w0
  have loop : ∀ (dd q N : Nat) (w : Int32) (s : HS), q + dd = 61 → dd < N → TRd d (seeI d) ρ σ q s → Ok (f_X11_handover_22 N w (nI q) s) (fun _ s => frm wQ wl0 σ s) := by
    intro dd
    induction dd with
    | zero =>
      intro q N w s hq hN hs
      obtain ⟨N, rfl⟩ : ∃ q, N = q + 1 := ⟨N - 1, by omega⟩
      show Ok (b_X11_handover_22 (f_X11_handover_22 N) w (nI q) s) _
      unfold b_X11_handover_22
      rw [nIt (by omega)]
      exact Ok.t (by omega) (Ok.ret hs.2)
    | succ dd ih =>
      intro q N w s hq hN hs
      obtain ⟨N, rfl⟩ : ∃ q, N = q + 1 := ⟨N - 1, by omega⟩
      have h2 := h.fr hs.2
      have go : ∀ w', Ok (f_X11_handover_55 (f_X11_handover_22 N) w' (nI q) s) (fun _ s => frm wQ wl0 σ s) := by
        intro w'
        unfold f_X11_handover_55
        rw [h2.t0, see_c h2]
        refine Ok.t h.tk (Ok.t h.tk (Ok.cv (c_go1 h hn (by omega) hs) (fun s3 h3 => Ok.bd ?_)))
        rw [nI_1]
        exact ih (q + 1) N w' s3 (by omega) (by omega) h3
      show Ok (b_X11_handover_22 (f_X11_handover_22 N) w (nI q) s) _
      unfold b_X11_handover_22
      rw [nIt (by omega)]
      exact Ok.f (by omega) (Ok.i (fun _ => Ok.ret hs.2) (fun _ => Ok.cle (e_firstLanding hs.1.1 hT) (Ok.i (fun _ => go _) (fun _ => Ok.bd (go _)))))
  rw [nI0]
  exact loop 61 0 5000 w0 s1 (by omega) (by omega) h1
theorem q_handover_m (h : RELx n d t u sd ρ k nx H m tb9 G σ) (hn : n ≤ 512) : Ok (f_X12_handover σ) (fun _ s => frm wQ wl0 σ s) := by
  unfold f_X12_handover
  refine Ok.cv (m_trial h) (fun s1 h1 => Ok.cle (e_thingsSo (h.fr h1.2.2).tm.lv) ?_)
  generalize bset _ _ = w0
  have loop : ∀ (dd q N : Nat) (w : Int32) (s : HS), q + dd = 61 → dd < N → TRm d ρ σ q s → Ok (f_X12_handover_12 N w (nI q) s) (fun _ s => frm wQ wl0 σ s) := by
    intro dd
    induction dd with
    | zero =>
      intro q N w s hq hN hs
      obtain ⟨N, rfl⟩ : ∃ q, N = q + 1 := ⟨N - 1, by omega⟩
      show Ok (b_X12_handover_12 (f_X12_handover_12 N) w (nI q) s) _
      unfold b_X12_handover_12
      rw [nIt (by omega)]
      exact Ok.t (by omega) (Ok.ret hs.2.2)
    | succ dd ih =>
      intro q N w s hq hN hs
      obtain ⟨N, rfl⟩ : ∃ q, N = q + 1 := ⟨N - 1, by omega⟩
      show Ok (b_X12_handover_12 (f_X12_handover_12 N) w (nI q) s) _
      unfold b_X12_handover_12
      rw [nIt (by omega)]
      refine Ok.f (by omega) (Ok.i (fun _ => Ok.ret hs.2.2) (fun _ => Ok.cv (m_beat h hn (by omega) hs) (fun s3 h3 => ?_)))
      have go : ∀ w', Ok (f_X12_handover_46 (f_X12_handover_12 N) w' (nI q) s3) (fun _ s => frm wQ wl0 σ s) := by
        intro w'
        unfold f_X12_handover_46
        refine Ok.cle (e_thingsSo (h.fr h3.1.2.2).tm.lv) (Ok.i (fun _ => Ok.bd ?_) (fun _ => Ok.ret h3.1.2.2))
        rw [nI_1]
        exact ih (q + 1) N w' s3 (by omega) (by omega) h3.1
      exact Ok.i (fun _ => go _) (fun _ => Ok.bd (go _))
  rw [nI0]
  exact loop 61 0 5000 w0 s1 (by omega) (by omega) h1
theorem simx_handover (hn : n ≤ 512) : SIMx n f_X11_handover f_X12_handover := sim_x (fun d t u sd ρ k nx H m tb G σ h => ⟨q_handover_c h hn, q_handover_m h hn⟩)
end WOULC
