/-! what stands: thing, pattern -/
section STANDS
variable {σ s : HS} {n t u sd k nx m : Nat} {ρ : Nat → Int32} {d : DAT} {b : Int} {H G : Nat → Nat → Int32} {tb : Nat → Nat} {x y z : Int32}
def thgI (d : DAT) (ρ : Nat → Int32) (e : Nat) (y : Int32) : Int32 := if y.toInt = 0 then Int32.ofInt (d.1.1.2.1 e) else if y.toInt = 1 then Int32.ofInt (d.1.1.2.2.1 e) else if y.toInt = 2 then ρ e else if y.toInt = 3 then (if (ρ e).toInt = 0 then ρ (7 + e) else -2) else if y.toInt = 4 then ρ (14 + e) else -1
def thgS (d : DAT) (ρ : Nat → Int32) (x y : Int32) : Int32 := if 0 ≤ x.toInt ∧ x.toInt < d.1.1.1 then thgI d ρ x.toInt.toNat y else -1
theorem thgS_in {e : Nat} (he : e < d.1.1.1) (hT : d.1.1.1 ≤ 7) : thgS d ρ (nI e) y = thgI d ρ e y := by
  unfold thgS
  rw [nIt (by omega), Int.toNat_natCast]
  exact if_pos (by omega)
theorem q_thing_c (h : RELx n d t u sd ρ k nx H m tb G σ) : Ok (f_X11_thing x y σ) (fun r s => r = thgS d ρ x y ∧ frm wQ wl0 σ s) := by
  have hT := h.tc.T7
  have hA := h.ar
  unfold f_X11_thing
  rw [h.t0]
  refine Ok.t h.tk (Ok.cle (e_hasThing h.tc.1.1 hT) ?_)
  rw [h.t0]
  by_cases c : 0 ≤ x.toInt ∧ x.toInt < d.1.1.1
  · refine Ok.f (fun e => if10.mp e c) ?_
    obtain ⟨e, he, rfl⟩ := in_T c (by omega)
    have t1 := h.tc.1.2.2 e he
    have a1 := hA.2.1 e he
    rw [nIt (by omega), Int.toNat_natCast, thgS_in he hT]
    have c7 : 0 ≤ (e : Int) ∧ (e : Int) < 7 := by omega
    by_cases c0 : y.toInt = 0
    · refine Ok.t c0 (Ok.t h.tk (Ok.t c7 (Ok.ret ⟨?_, frm.rf⟩)))
      unfold thgI; rw [if_pos c0]; exact ofI t1.1
    refine Ok.f c0 ?_
    by_cases c1 : y.toInt = 1
    · refine Ok.t c1 (Ok.t h.tk (Ok.t c7 (Ok.ret ⟨?_, frm.rf⟩)))
      unfold thgI; rw [if_neg c0, if_pos c1]; exact ofI t1.2.1
    refine Ok.f c1 ?_
    by_cases c2 : y.toInt = 2
    · refine Ok.t c2 (Ok.t c7 (Ok.ret ⟨?_, frm.rf⟩))
      unfold thgI; rw [if_neg c0, if_neg c1, if_pos c2]; exact a1.1
    refine Ok.f c2 ?_
    by_cases c3 : y.toInt = 3
    · refine Ok.t c3 (Ok.cle (e_isUp (by omega)) ?_)
      rw [hA.up he]
      unfold upR
      by_cases c4 : (ρ e).toInt = 0
      · rw [if_pos (decide_eq_true c4)]
        refine Ok.f i1_ne (Ok.t c7 (Ok.ret ⟨?_, frm.rf⟩))
        unfold thgI; rw [if_neg c0, if_neg c1, if_neg c2, if_pos c3, if_pos c4]; exact a1.2.1
      · have cn : ¬ decide ((ρ e).toInt = 0) = true := by rw [decide_eq_false c4]; decide
        rw [if_neg cn]
        refine Ok.t i0_eq (Ok.ret ⟨?_, frm.rf⟩)
        unfold thgI; rw [if_neg c0, if_neg c1, if_neg c2, if_pos c3, if_neg c4]
    refine Ok.f c3 ?_
    by_cases c4 : y.toInt = 4
    · refine Ok.t c4 (Ok.t c7 (Ok.ret ⟨?_, frm.rf⟩))
      unfold thgI; rw [if_neg c0, if_neg c1, if_neg c2, if_neg c3, if_pos c4]; exact a1.2.2
    refine Ok.f c4 (Ok.ret ⟨?_, frm.rf⟩)
    unfold thgI; rw [if_neg c0, if_neg c1, if_neg c2, if_neg c3, if_neg c4]
  · refine Ok.t (if10.mpr c) (Ok.ret ⟨?_, frm.rf⟩)
    unfold thgS; rw [if_neg c]
theorem q_thing_m (h : RELx n d t u sd ρ k nx H m tb G σ) : Ok (f_X12_thing x y σ) (fun r s => r = thgS d ρ x y ∧ frm wQ wl0 σ s) := by
  have hT := h.tc.T7
  have hN := h.nw
  have hM := h.tm
  unfold f_X12_thing
  refine Ok.cle (e_isThing hM.lv) ?_
  by_cases c : 0 ≤ x.toInt ∧ x.toInt < d.1.1.1
  · refine Ok.f (fun e => if10.mp e c) ?_
    obtain ⟨e, he, rfl⟩ := in_T c (by omega)
    have h1 := hM.2.1
    have t1 := hM.2.2.1.2.2 e he
    rw [thgS_in he hT, hM.1, e7s h1, n7_add, n14_add, nIt (n := e) (by omega), nIt (n := 7 * sd + e) (by omega), nIt (n := 7 + e) (by omega), nIt (n := 14 + e) (by omega), Int.toNat_natCast, Int.toNat_natCast, Int.toNat_natCast, Int.toNat_natCast, hN e (by omega), hN (7 + e) (by omega), hN (14 + e) (by omega)]
    have c14 : 0 ≤ ((7 * sd + e : Nat) : Int) ∧ ((7 * sd + e : Nat) : Int) < 14 := by omega
    have c29 : 0 ≤ (e : Int) ∧ (e : Int) < 29 := by omega
    have d29 : 0 ≤ ((7 + e : Nat) : Int) ∧ ((7 + e : Nat) : Int) < 29 := by omega
    have e29 : 0 ≤ ((14 + e : Nat) : Int) ∧ ((14 + e : Nat) : Int) < 29 := by omega
    by_cases c0 : y.toInt = 0
    · refine Ok.t c0 (Ok.t c14 (Ok.ret ⟨?_, frm.rf⟩))
      unfold thgI; rw [if_pos c0]; exact ofI t1.1
    refine Ok.f c0 ?_
    by_cases c1 : y.toInt = 1
    · refine Ok.t c1 (Ok.t c14 (Ok.ret ⟨?_, frm.rf⟩))
      unfold thgI; rw [if_neg c0, if_pos c1]; exact ofI t1.2.1
    refine Ok.f c1 ?_
    by_cases c2 : y.toInt = 2
    · refine Ok.t c2 (Ok.t c29 (Ok.ret ⟨?_, frm.rf⟩))
      unfold thgI; rw [if_neg c0, if_neg c1, if_pos c2]
    refine Ok.f c2 ?_
    by_cases c3 : y.toInt = 3
    · refine Ok.t c3 (Ok.t c29 ?_)
      by_cases c4 : (ρ e).toInt = 0
      · refine Ok.t c4 (Ok.t d29 (Ok.ret ⟨?_, frm.rf⟩))
        unfold thgI; rw [if_neg c0, if_neg c1, if_neg c2, if_pos c3, if_pos c4]
      · refine Ok.f c4 (Ok.ret ⟨?_, frm.rf⟩)
        unfold thgI; rw [if_neg c0, if_neg c1, if_neg c2, if_pos c3, if_neg c4]
    refine Ok.f c3 ?_
    by_cases c4 : y.toInt = 4
    · refine Ok.t c4 (Ok.t e29 (Ok.ret ⟨?_, frm.rf⟩))
      unfold thgI; rw [if_neg c0, if_neg c1, if_neg c2, if_neg c3, if_pos c4]
    refine Ok.f c4 (Ok.ret ⟨?_, frm.rf⟩)
    unfold thgI; rw [if_neg c0, if_neg c1, if_neg c2, if_neg c3, if_neg c4]
  · refine Ok.t (if10.mpr c) (Ok.ret ⟨?_, frm.rf⟩)
    unfold thgS; rw [if_neg c]
theorem sim_thing : SIM n (f_X11_thing x y) (f_X12_thing x y) := sim_q (fun d t u sd ρ k nx H m tb G σ h => ⟨_, q_thing_c h, fun s hs _ => q_thing_m hs⟩)
def patI (d : DAT) (e : Nat) (y : Int32) : Int32 := if y.toInt = -1 then nI (d.1.2.2.1 e) else if 0 ≤ y.toInt ∧ y.toInt < d.1.2.2.1 e then Int32.ofInt (d.1.2.2.2 e y.toInt.toNat) else -1
def patS1 (d : DAT) (x y : Int32) : Int32 := if 0 ≤ x.toInt ∧ x.toInt < d.1.2.1 then patI d x.toInt.toNat y else -1
theorem patS_in {e : Nat} (he : e < d.1.2.1) (hT : d.1.2.1 ≤ 5) : patS1 d (nI e) y = patI d e y := by
  unfold patS1
  rw [nIt (by omega), Int.toNat_natCast]
  exact if_pos (by omega)
theorem q_pattern_c (h : RELx n d t u sd ρ k nx H m tb G σ) : Ok (f_X11_pattern x y σ) (fun r s => r = patS1 d x y ∧ frm wQ wl0 σ s) := by
  have hP := h.tc.2.1.2.1
  unfold f_X11_pattern
  rw [h.t0]
  refine Ok.t h.tk (Ok.cle (e_hasPattern h.tc.2.1.1 hP) ?_)
  rw [h.t0]
  by_cases c : 0 ≤ x.toInt ∧ x.toInt < d.1.2.1
  · refine Ok.f (fun e => if10.mp e c) ?_
    obtain ⟨e, he, rfl⟩ := in_T c (by omega)
    obtain ⟨q1, q2, q3⟩ := h.tc.2.1.2.2 e he
    rw [patS_in he hP, nIt (n := e) (by omega), Int.toNat_natCast, q1, nIt (n := d.1.2.2.1 e) (by omega)]
    have c5 : 0 ≤ (e : Int) ∧ (e : Int) < 5 := by omega
    by_cases c0 : y.toInt = -1
    · refine Ok.t c0 (Ok.t h.tk (Ok.t c5 (Ok.ret ⟨?_, frm.rf⟩)))
      unfold patI; rw [if_pos c0]
    refine Ok.f c0 ?_
    by_cases c1 : 0 ≤ y.toInt ∧ y.toInt < d.1.2.2.1 e
    · have ev : patI d e y = Int32.ofInt (d.1.2.2.2 e y.toInt.toNat) := by unfold patI; rw [if_neg c0, if_pos c1]
      rw [ev]
      obtain ⟨i, hi, rfl⟩ := in_T c1 (by omega)
      rw [nIt (n := i) (by omega), Int.toNat_natCast]
      have c8 : 0 ≤ (i : Int) ∧ (i : Int) < 8 := by omega
      exact Ok.f (by omega) (Ok.t h.tk (Ok.t c5 (Ok.t (by omega) (Ok.t h.tk (Ok.t c5 (Ok.t c8 (Ok.ret ⟨ofI (q3 i hi), frm.rf⟩)))))))
    · have ev : patI d e y = -1 := by unfold patI; rw [if_neg c0, if_neg c1]
      rw [ev]
      by_cases c2 : y.toInt < 0
      · exact Ok.t c2 (Ok.ret ⟨rfl, frm.rf⟩)
      · exact Ok.f c2 (Ok.t h.tk (Ok.t c5 (Ok.f (by omega) (Ok.ret ⟨rfl, frm.rf⟩))))
  · refine Ok.t (if10.mpr c) (Ok.ret ⟨?_, frm.rf⟩)
    unfold patS1; rw [if_neg c]
theorem q_pattern_m (h : RELx n d t u sd ρ k nx H m tb G σ) : Ok (f_X12_pattern x y σ) (fun r s => r = patS1 d x y ∧ frm wQ wl0 σ s) := by
  have hM := h.tm
  have hP := hM.2.2.2.1.2.1
  unfold f_X12_pattern
  refine Ok.cle (e_isPattern hM.lv hM.2.2.2.1.1 hP) ?_
  by_cases c : 0 ≤ x.toInt ∧ x.toInt < d.1.2.1
  · refine Ok.f (fun e => if10.mp e c) ?_
    obtain ⟨e, he, rfl⟩ := in_T c (by omega)
    obtain ⟨q1, q2, q3⟩ := hM.2.2.2.1.2.2 e he
    refine Ok.cle (e_lengthOf hM he) (Ok.cle e_in ?_)
    have e1 : (nI (d.1.2.2.1 e) - 1).toInt = (d.1.2.2.1 e : Int) - 1 := by rw [i32_sub (by rw [nIt (by omega)]; show _ ≤ (d.1.2.2.1 e : Int) - 1 ∧ (d.1.2.2.1 e : Int) - 1 ≤ _; omega), nIt (by omega)]; rfl
    have em : (-1 : Int32).toInt = -1 := by decide
    rw [e1, em, patS_in he hP]
    clear e1 em
    by_cases c0 : y.toInt = -1
    · have ev : patI d e y = nI (d.1.2.2.1 e) := by unfold patI; rw [if_pos c0]
      rw [ev]
      exact Ok.f (fun h => if10.mp h (by omega)) (Ok.t c0 (Ok.cle (e_lengthOf hM he) (Ok.ret ⟨rfl, frm.rf⟩)))
    by_cases c1 : 0 ≤ y.toInt ∧ y.toInt < d.1.2.2.1 e
    · have ev : patI d e y = Int32.ofInt (d.1.2.2.2 e y.toInt.toNat) := by unfold patI; rw [if_neg c0, if_pos c1]
      rw [ev]
      obtain ⟨i, hi, rfl⟩ := in_T c1 (by omega)
      refine Ok.f (fun h => if10.mp h (by omega)) (Ok.f c0 (Ok.cle (e_heightAt hM he (by omega)) (Ok.ret ⟨?_, frm.rf⟩)))
      rw [nIt (n := i) (by omega), Int.toNat_natCast, Nat.mod_eq_of_lt hi]
    · have ev : patI d e y = -1 := by unfold patI; rw [if_neg c0, if_neg c1]
      rw [ev]
      exact Ok.t (if10.mpr (by omega)) (Ok.ret ⟨rfl, frm.rf⟩)
  · refine Ok.t (if10.mpr c) (Ok.ret ⟨?_, frm.rf⟩)
    unfold patS1; rw [if_neg c]
theorem sim_pattern : SIM n (f_X11_pattern x y) (f_X12_pattern x y) := sim_q (fun d t u sd ρ k nx H m tb G σ h => ⟨_, q_pattern_c h, fun s hs _ => q_pattern_m hs⟩)
end STANDS
/-! the frames of what is asked -/
section STANDS
variable {σ s : HS} {n t u sd k nx m : Nat} {ρ : Nat → Int32} {d : DAT} {b : Int} {H G : Nat → Nat → Int32} {tb : Nat → Nat} {x y z : Int32}
def telS (d : DAT) (ρ : Nat → Int32) (x y z : Int32) : Int32 := if (0 ≤ x.toInt ∧ x.toInt < d.1.1.1) ∧ (0 ≤ z.toInt ∧ z.toInt ≤ 3) ∧ (z.toInt < 2 → 0 ≤ y.toInt ∧ y.toInt ≤ 9) then lawV d z.toInt.toNat (varS d ρ x.toInt.toNat (upsS d.1.1.1 ρ) (if z.toInt < 2 then y else 0)) else -100
theorem frm_sub {w w1 : Nat → Nat → Bool} (hw : ∀ i k, w i k = true → w1 i k = true) {i k : Nat} (e : w1 i k = false) : w i k = false := by
  cases c : w i k with
  | false => rfl
  | true => rw [hw i k c] at e; exact nomatch e
theorem frm.sub {w w1 : Nat → Nat → Bool} (h : frm w wl0 σ s) (hw : ∀ i k, w i k = true → w1 i k = true) : frm w1 wl0 σ s := h.mono (fun i k e => frm_sub hw e) (fun _ e => e)
theorem bt_wQ (i k : Nat) (h : wBt 60 i k = true) : wQ i k = true := by
  unfold wBt wAi at h
  simp only [Bool.or_eq_true, beq_iff_eq] at h
  rcases h with (((((h | h) | h) | h) | h) | h) | h <;> subst h <;> rfl
theorem lk_wQ (i k : Nat) (h : (i == 10) = true) : wQ i k = true := by
  have : i = 10 := by simpa using h
  subst this; rfl
theorem go_wQ (i k : Nat) (h : wGoM i k = true) : wQ i k = true := by
  unfold wGoM wCp wBm at h
  simp only [Bool.or_eq_true, Bool.and_eq_true, beq_iff_eq] at h
  rcases h with (h | ⟨h, h2⟩) | ((h | h) | h) | ⟨h, h2⟩
  · subst h; rfl
  · subst h; rcases h2 with h2 | h2 <;> subst h2 <;> rfl
  · subst h; rfl
  · subst h; rfl
  · subst h; rfl
  · subst h; rcases h2 with ((h2 | h2) | h2) | h2 <;> subst h2 <;> rfl
theorem wQ_bt {i k : Nat} (h : wQ i k = false) : wBt 60 i k = false := frm_sub bt_wQ h
theorem wQ_an {i k : Nat} (h : wQ i k = false) : wAns i k = false := wBt_An (wQ_bt h)
theorem wQ_go {i k : Nat} (h : wQ i k = false) : wGoM i k = false := frm_sub go_wQ h
theorem e_isHeight : f_X11_isHeight y σ = some (if 0 ≤ y.toInt ∧ y.toInt ≤ 9 then 1 else 0, σ) := by
  unfold f_X11_isHeight
  by_cases c : y.toInt < 0
  · rw [if_pos c, if_neg (by omega)]
  · rw [if_neg c]
    by_cases c2 : 9 < y.toInt
    · rw [if_pos c2, if_neg (by omega)]
    · rw [if_neg c2, if_pos (by omega)]
end STANDS
/-! tells -/
section TELLS
variable {σ s : HS} {n t u sd k nx m : Nat} {ρ : Nat → Int32} {d : DAT} {b : Int} {H G : Nat → Nat → Int32} {tb : Nat → Nat} {x y z : Int32}
theorem telS_no (h : ¬ ((0 ≤ x.toInt ∧ x.toInt < d.1.1.1) ∧ (0 ≤ z.toInt ∧ z.toInt ≤ 3) ∧ (z.toInt < 2 → 0 ≤ y.toInt ∧ y.toInt ≤ 9))) : telS d ρ x y z = -100 := if_neg h
theorem telS_in {e q : Nat} (he : e < d.1.1.1) (hT : d.1.1.1 ≤ 7) (hq : q < 4) (hy : q < 2 → 0 ≤ y.toInt ∧ y.toInt ≤ 9) : telS d ρ (nI e) y (nI q) = lawV d q (varS d ρ e (upsS d.1.1.1 ρ) (if q < 2 then y else 0)) := by
  have e1 : (nI e).toInt = (e : Int) := nIt (by omega)
  have e2 : (nI q).toInt = (q : Int) := nIt (by omega)
  unfold telS
  rw [e1, e2, if_pos (⟨by omega, by omega, fun h => hy (by omega)⟩ : (0 ≤ (e : Int) ∧ (e : Int) < d.1.1.1) ∧ (0 ≤ (q : Int) ∧ (q : Int) ≤ 3) ∧ ((q : Int) < 2 → 0 ≤ y.toInt ∧ y.toInt ≤ 9)), Int.toNat_natCast, Int.toNat_natCast]
  by_cases c : q < 2
  · rw [if_pos c, if_pos (show (q : Int) < 2 by omega)]
  · rw [if_neg c, if_neg (show ¬ (q : Int) < 2 by omega)]
theorem q_tells_c (h : RELx n d t u sd ρ k nx H m tb G σ) : Ok (f_X11_tells x y z σ) (fun r s => r = telS d ρ x y z ∧ frm wQ wl0 σ s) := by
  have hT := h.tc.T7
  have hA := h.ar
  have ha : aAi 56 := ⟨by decide, by decide⟩
  unfold f_X11_tells
  rw [h.t0]
  refine Ok.t h.tk (Ok.cle (e_hasThing h.tc.1.1 hT) ?_)
  by_cases c : 0 ≤ x.toInt ∧ x.toInt < d.1.1.1
  · refine Ok.f (fun e => if10.mp e c) ?_
    by_cases c3 : z.toInt < 0
    · exact Ok.t c3 (Ok.ret ⟨(telS_no (fun e => by omega)).symm, frm.rf⟩)
    by_cases c4 : 3 < z.toInt
    · exact Ok.f c3 (Ok.t c4 (Ok.ret ⟨(telS_no (fun e => by omega)).symm, frm.rf⟩))
    refine Ok.f c3 (Ok.f c4 ?_)
    obtain ⟨e, he, rfl⟩ := in_T c (by omega)
    obtain ⟨q, hq, rfl⟩ : ∃ q, q < 4 ∧ z = nI q := in_T (T := 4) (by omega) (by decide)
    have eq : (nI q).toInt = (q : Int) := nIt (by omega)
    -- behind the refusals
    have fin : ∀ (v : Int32), Ok (f_X11_tells_54 (nI e) y (nI q) v σ) (fun r s => r = lawV d q (varS d ρ e (upsS d.1.1.1 ρ) (if v.toInt = 0 then 0 else y)) ∧ frm wQ wl0 σ s) := by
      intro v
      unfold f_X11_tells_54
      rw [h.t0]
      refine Ok.t h.tk (Ok.cle (e_howManyUp hA.1 hT) ?_)
      rw [hA.cntUp]
      refine Ok.cv (e_lookAt hA h.tc h.tk ha he hT he) (fun s4 h4 => ?_)
      obtain ⟨v4, f4⟩ := h4
      have F4 : frm wQ wl0 σ s4 := f4.sub lk_wQ
      have h4 := h.fr F4
      rw [h4.t0]
      refine Ok.t h.tk ?_
      unfold f_X11_tells_96
      by_cases cv : v.toInt = 0
      · refine Ok.t cv (Ok.cl (w_asksV (k := q) v4 h4.tc h.ok h.tk hq) (fun r s5 h5 => Ok.ret ⟨?_, F4.tr (h5.2.1.mono (fun _ _ => wQ_an) (fun _ e => e))⟩))
        rw [if_pos cv]; exact h5.1
      · refine Ok.f cv (Ok.cl (w_asksV (k := q) v4 h4.tc h.ok h.tk hq) (fun r s5 h5 => Ok.ret ⟨?_, F4.tr (h5.2.1.mono (fun _ _ => wQ_an) (fun _ e => e))⟩))
        rw [if_neg cv]; exact h5.1
    have thr : q < 2 → Ok (f_X11_tells_32 (nI e) y (nI q) σ) (fun r s => r = telS d ρ (nI e) y (nI q) ∧ frm wQ wl0 σ s) := by
      intro hq2
      unfold f_X11_tells_32 f_X11_tells_37
      refine Ok.f i1_ne (Ok.cle e_isHeight ?_)
      by_cases cy : 0 ≤ y.toInt ∧ y.toInt ≤ 9
      · rw [telS_in he hT hq (fun _ => cy), if_pos hq2]
        refine Ok.f (fun e => if10.mp e cy) ((fin 1).mono (fun r s hr => ⟨?_, hr.2⟩))
        rw [hr.1, if_neg i1_ne]
      · rw [telS_no (fun e => cy (e.2.2 (by omega)))]
        exact Ok.t (if10.mpr cy) (Ok.ret ⟨rfl, frm.rf⟩)
    rcases (show q = 0 ∨ q = 1 ∨ 2 ≤ q by omega) with c0 | c0 | c0
    · exact Ok.t (by omega) (thr (by omega))
    · exact Ok.f (by omega) (Ok.t (by omega) (thr (by omega)))
    · refine Ok.f (by omega) (Ok.f (by omega) ?_)
      unfold f_X11_tells_37
      rw [telS_in he hT hq (fun e => by omega), if_neg (show ¬ q < 2 by omega)]
      refine Ok.t i0_eq ((fin 0).mono (fun r s hr => ⟨?_, hr.2⟩))
      rw [hr.1, if_pos i0_eq]
  · exact Ok.t (if10.mpr c) (Ok.ret ⟨(telS_no (fun e => c e.1)).symm, frm.rf⟩)
theorem q_tells_m (h : RELx n d t u sd ρ k nx H m tb G σ) : Ok (f_X12_tells x y z σ) (fun r s => r = telS d ρ x y z ∧ frm wQ wl0 σ s) := by
  have hT := h.tc.T7
  have hM := h.tm
  unfold f_X12_tells
  refine Ok.cle (e_isThing hM.lv) ?_
  by_cases c : 0 ≤ x.toInt ∧ x.toInt < d.1.1.1
  · refine Ok.f (fun e => if10.mp e c) (Ok.cle e_in ?_)
    have e3 : (3 : Int32).toInt = 3 := rfl
    have e9 : (9 : Int32).toInt = 9 := rfl
    rw [i0_eq, e3]
    by_cases c3 : 0 ≤ z.toInt ∧ z.toInt ≤ 3
    · refine Ok.f (fun e => if10.mp e c3) ?_
      obtain ⟨e, he, rfl⟩ := in_T c (by omega)
      obtain ⟨q, hq, rfl⟩ : ∃ q, q < 4 ∧ z = nI q := in_T (T := 4) (by omega) (by decide)
      have eq : (nI q).toInt = (q : Int) := nIt (by omega)
      have fin : Ok (f_X12_tells_35 (nI e) y (nI q) σ) (fun r s => r = lawV d q (varS d ρ e (upsS d.1.1.1 ρ) (if q < 2 then y else 0)) ∧ frm wQ wl0 σ s) := by
        unfold f_X12_tells_35
        refine Ok.cv (w_copies hM h.nw) (fun s1 h1 => ?_)
        obtain ⟨R1, -, -, f1⟩ := h1
        have M1 : TM sd d s1 := hM.fr f1 (by decide) (fun i k h1 h2 => by unfold wCp; simp; omega)
        refine Ok.cle (e_thingsSo M1.lv) (Ok.cle e_bits ?_)
        rw [pcM_cnt (by omega)]
        have eu : nI (cntB (fun e => decide ((s1.1 267 e).toInt = (0 : Int32).toInt)) d.1.1.1) = upsS d.1.1.1 ρ := by
          unfold upsS
          rw [← R1.cntUp hT]; rfl
        rw [eu, eq]
        have up1 : ∀ {v : HS}, frm wLa wl0 s1 v → frm wQ wl0 σ v := fun hf => (f1.mono (fun _ _ e => wGoM_Cp (wQ_go e)) (fun _ e => e)).tr (hf.mono (fun _ _ e => wBm_La (wGoM_Bm (wQ_go e))) (fun _ e => e))
        rcases (show q = 0 ∨ q = 1 ∨ q = 2 ∨ q = 3 by omega) with rfl | rfl | rfl | rfl
        · exact Ok.t rfl (Ok.cl (w_tiresBy M1 h.ok R1 he h.rw) (fun r s2 h2 => Ok.ret ⟨h2.1, up1 h2.2⟩))
        · exact Ok.f (by decide) (Ok.t rfl (Ok.cl (w_dropsBy M1 h.ok R1 he h.rw) (fun r s2 h2 => Ok.ret ⟨h2.1, up1 h2.2⟩)))
        · exact Ok.f (by decide) (Ok.f (by decide) (Ok.t rfl (Ok.cl (w_forceOf M1 h.ok R1 he h.rw) (fun r s2 h2 => Ok.ret ⟨h2.1, up1 h2.2⟩))))
        · exact Ok.f (by decide) (Ok.f (by decide) (Ok.f (by decide) (Ok.cl (w_paysOf M1 h.ok R1 he h.rw) (fun r s2 h2 => Ok.ret ⟨h2.1, up1 h2.2⟩))))
      rw [eq]
      by_cases c2 : q < 2
      · refine Ok.t (by omega) (Ok.cle e_in ?_)
        rw [i0_eq, e9]
        by_cases cy : 0 ≤ y.toInt ∧ y.toInt ≤ 9
        · rw [telS_in he hT hq (fun _ => cy)]
          exact Ok.f (fun e => if10.mp e cy) fin
        · rw [telS_no (fun e => cy (e.2.2 (by omega)))]
          exact Ok.t (if10.mpr cy) (Ok.ret ⟨rfl, frm.rf⟩)
      · rw [telS_in he hT hq (fun e => absurd e c2)]
        exact Ok.f (by omega) fin
    · exact Ok.t (if10.mpr c3) (Ok.ret ⟨(telS_no (fun e => c3 e.2.1)).symm, frm.rf⟩)
  · exact Ok.t (if10.mpr c) (Ok.ret ⟨(telS_no (fun e => c e.1)).symm, frm.rf⟩)
theorem sim_tells : SIM n (f_X11_tells x y z) (f_X12_tells x y z) := sim_q (fun d t u sd ρ k nx H m tb G σ h => ⟨_, q_tells_c h, fun s hs _ => q_tells_m hs⟩)
end TELLS
/-! bits -/
section BITS
def tb (x : Int32) (a : Nat) : Bool := x.toBitVec.getLsbD a
theorem bv_shr (x : Int32) : ∀ a, a < 16 → (x >>> (nI a &&& 31)).toBitVec = x.toBitVec.sshiftRight a := by
  intro a h
  rcases (show a = 0 ∨ a = 1 ∨ a = 2 ∨ a = 3 ∨ a = 4 ∨ a = 5 ∨ a = 6 ∨ a = 7 ∨ a = 8 ∨ a = 9 ∨ a = 10 ∨ a = 11 ∨ a = 12 ∨ a = 13 ∨ a = 14 ∨ a = 15 by omega) with rfl | rfl | rfl | rfl | rfl | rfl | rfl | rfl | rfl | rfl | rfl | rfl | rfl | rfl | rfl | rfl <;> rfl
theorem bv_bit : ∀ a, a < 16 → ∀ i, i < 32 → (bitI a).toBitVec.getLsbD i = decide (i = a) := by decide +kernel
theorem bv_one : ∀ i, i < 32 → (1#32).getLsbD i = decide (i = 0) := by decide +kernel
theorem tb_sh {x : Int32} {a : Nat} (h : a < 16) : (x >>> (nI a &&& 31)) &&& 1 = if tb x a = true then 1 else 0 := by
  apply Int32.toBitVec_inj.mp
  rw [Int32.toBitVec_and, bv_shr x a h]
  apply BitVec.eq_of_getLsbD_eq
  intro i hi
  rw [BitVec.getLsbD_and, BitVec.getLsbD_sshiftRight]
  have e1 : (Int32.toBitVec 1).getLsbD i = decide (i = 0) := bv_one i hi
  rw [e1, decide_eq_false (show ¬ 32 ≤ i by omega), Bool.not_false, Bool.true_and]
  unfold tb
  by_cases c : i = 0
  · subst c
    rw [if_pos (show a + 0 < 32 by omega), Nat.add_zero]
    cases hb : x.toBitVec.getLsbD a with
    | true => rfl
    | false => rfl
  · rw [decide_eq_false c, Bool.and_false]
    cases hb : x.toBitVec.getLsbD a with
    | true =>
      show false = (1#32).getLsbD i
      rw [bv_one i hi, decide_eq_false c]
    | false =>
      show false = (0#32).getLsbD i
      rw [BitVec.getLsbD_zero]
theorem tb_sh1 {x : Int32} {a : Nat} (h : a < 16) : ((x >>> (nI a &&& 31)) &&& 1).toInt = 1 ↔ tb x a = true := by
  rw [tb_sh h]
  cases tb x a <;> decide
theorem tb_sh0 {x : Int32} {a : Nat} (h : a < 16) : ((x >>> (nI a &&& 31)) &&& 1).toInt = 0 ↔ tb x a = false := by
  rw [tb_sh h]
  cases tb x a <;> decide
theorem tb_or {x : Int32} {a b : Nat} (h : a < 16) (hb : b < 16) : tb (x ||| bitI a) b = (tb x b || decide (b = a)) := by
  unfold tb
  rw [Int32.toBitVec_or, BitVec.getLsbD_or, bv_bit a h b (by omega)]
theorem tb_0 {a : Nat} : tb 0 a = false := by
  show (0#32).getLsbD a = false
  rw [BitVec.getLsbD_zero]
theorem tb_and {x : Int32} {a : Nat} (h : a < 16) : (x &&& bitI a).toInt = 0 ↔ tb x a = false := by
  have e : x &&& bitI a = if tb x a = true then bitI a else 0 := by
    apply Int32.toBitVec_inj.mp
    rw [Int32.toBitVec_and]
    apply BitVec.eq_of_getLsbD_eq
    intro i hi
    rw [BitVec.getLsbD_and, bv_bit a h i hi]
    unfold tb
    by_cases c : i = a
    · subst c
      cases hb : x.toBitVec.getLsbD i with
      | true =>
        show (true && decide (i = i)) = (bitI i).toBitVec.getLsbD i
        rw [bv_bit i h i hi, Bool.true_and]
      | false =>
        show (false && _) = (0#32).getLsbD i
        rw [BitVec.getLsbD_zero, Bool.false_and]
    · rw [decide_eq_false c, Bool.and_false]
      cases hb : x.toBitVec.getLsbD a with
      | true =>
        show false = (bitI a).toBitVec.getLsbD i
        rw [bv_bit a h i hi, decide_eq_false c]
      | false =>
        show false = (0#32).getLsbD i
        rw [BitVec.getLsbD_zero]
  have z : ∀ a, a < 16 → (bitI a).toInt ≠ 0 := by decide +kernel
  rw [e]
  cases hb : tb x a with
  | true => exact ⟨fun h2 => absurd h2 (z a h), fun h2 => nomatch h2⟩
  | false => exact ⟨fun _ => rfl, fun _ => rfl⟩
theorem tb_set {x : Int32} {a : Nat} (h : a < 16) (ht : tb x a = true) : x ||| bitI a = x := by
  apply Int32.toBitVec_inj.mp
  rw [Int32.toBitVec_or]
  apply BitVec.eq_of_getLsbD_eq
  intro i hi
  rw [BitVec.getLsbD_or, bv_bit a h i hi]
  by_cases c : i = a
  · subst c
    have : x.toBitVec.getLsbD i = true := ht
    rw [this]; rfl
  · rw [decide_eq_false c, Bool.or_false]
end BITS
theorem Ok.of {α : Type} {x : Option (α × HS)} {r : α} {s : HS} {Q : α → HS → Prop} (e : x = some (r, s)) (h : Q r s) : Ok x Q := ⟨r, s, e, h⟩
theorem cnt_del {p q : Nat → Bool} {a : Nat} : ∀ {n : Nat}, a < n → (∀ e, e < n → e ≠ a → p e = q e) → p a = true → q a = false → cntB q n + 1 = cntB p n := by
  intro n
  induction n with
  | zero => intro h; exact absurd h (by omega)
  | succ n ih =>
    intro h e1 e2 e3
    show (if q n = true then cntB q n + 1 else cntB q n) + 1 = (if p n = true then cntB p n + 1 else cntB p n)
    by_cases c : a = n
    · subst c
      rw [e2, e3, if_pos rfl, if_neg (by decide), cntB_cg (p := q) (q := p) (fun e he => (e1 e (by omega) (by omega)).symm)]
    · have i := ih (by omega) (fun e he => e1 e (by omega)) e2 e3
      rw [e1 n (by omega) (fun h => c h.symm)]
      split <;> omega

/-! rows of heights: which close, how many they keep -/
section HTS
variable {σ s : HS} {p1 L t sd p : Nat} {g g2 : Nat → Nat} {d : DAT} {x y : Int32}
def HC (p1 L : Nat) (g : Nat → Nat) (σ : HS) : Prop := (∀ i, i < L → σ.1 p1 i = nI (g i) ∧ g i ≤ 9) ∧ 1 ≤ L ∧ L ≤ 16 ∧ (L : Int) ≤ al p1
def HM (L : Nat) (g : Nat → Nat) (σ : HS) : Prop := (∀ i, i < L → σ.1 269 i = nI (g i) ∧ g i ≤ 9) ∧ 1 ≤ L ∧ L ≤ 16 ∧ σ.1 236 57 = nI L
def atS (g : Nat → Nat) (L i : Nat) : Nat := (i + g i) % L
def clL (g : Nat → Nat) (L : Nat) : Nat → Nat → Int32 → Bool
  | 0, _, _ => true
  | dd + 1, i, x => if tb x (atS g L i) = true then false else clL g L dd (i + 1) (x ||| bitI (atS g L i))
def clS (g : Nat → Nat) (L : Nat) : Bool := clL g L L 0 0
def sumN (g : Nat → Nat) : Nat → Nat
  | 0 => 0
  | n + 1 => sumN g n + g n
theorem sumN_le (h : ∀ i, i < L → g i ≤ 9) : ∀ {n : Nat}, n ≤ L → sumN g n ≤ 9 * n := by
  intro n
  induction n with
  | zero => intro _; exact Nat.le_refl _
  | succ n ih =>
    intro hn
    show sumN g n + g n ≤ 9 * (n + 1)
    have := ih (by omega)
    have := h n (by omega)
    omega
theorem at_rem {i : Nat} (hi : i ≤ 100) (hg : g i ≤ 9) (hL : 1 ≤ L ∧ L ≤ 16) : (nI i + nI (g i)) - (nI i + nI (g i)) / nI L * nI L = nI (atS g L i) := by
  rw [nI_add, pk_rem (by omega) (by omega) (by omega)]; rfl
theorem at_lt {i : Nat} (hL : 1 ≤ L ∧ L ≤ 16) : atS g L i < 16 ∧ atS g L i < L := by
  have : atS g L i < L := Nat.mod_lt _ (by omega)
  omega
theorem e_close (h : HC p1 L g σ) : f_X3_close p1 (nI L) σ = some (if clS g L = true then 1 else 0, σ) := by
  obtain ⟨h1, h2, h3, h4⟩ := h
  have loop : ∀ (dd k N : Nat) (x : Int32), k + dd = L → dd < N → f_X3_close_4 p1 N (nI L) x (nI k) σ = some (if clL g L dd k x = true then 1 else 0, σ) := by
    intro dd
    induction dd with
    | zero =>
      intro k N x hk hN
      obtain ⟨N, rfl⟩ : ∃ q, N = q + 1 := ⟨N - 1, by omega⟩
      show b_X3_close_4 p1 (f_X3_close_4 p1 N) (nI L) x (nI k) σ = _
      unfold b_X3_close_4
      rw [nIt (n := k) (by omega), nIt (n := L) (by omega), if_neg (show ¬ (k : Int) < L by omega)]; rfl
    | succ dd ih =>
      intro k N x hk hN
      obtain ⟨N, rfl⟩ : ∃ q, N = q + 1 := ⟨N - 1, by omega⟩
      have hg := h1 k (by omega)
      have ha := at_lt (g := g) (i := k) (L := L) ⟨h2, h3⟩
      show b_X3_close_4 p1 (f_X3_close_4 p1 N) (nI L) x (nI k) σ = _
      unfold b_X3_close_4
      rw [nIt (n := k) (by omega), nIt (n := L) (by omega), if_pos (show (k : Int) < L by omega), if_pos (show 0 ≤ (k : Int) ∧ (k : Int) < al p1 by omega), if_neg (show ¬ (L : Int) = 0 by omega), Int.toNat_natCast, hg.1, at_rem (by omega) hg.2 ⟨h2, h3⟩]
      simp only [Bd]
      rw [nI_1]
      show (if (x &&& bitI (atS g L k)).toInt = 0 then f_X3_close_4 p1 N (nI L) (x ||| bitI (atS g L k)) (nI (k + 1)) σ else some (0, σ)) = some (if (if tb x (atS g L k) = true then false else clL g L dd (k + 1) (x ||| bitI (atS g L k))) = true then 1 else 0, σ)
      by_cases c : tb x (atS g L k) = true
      · rw [if_neg (fun e => by rw [(tb_and ha.1).mp e] at c; exact nomatch c), if_pos c]; rfl
      · rw [if_pos ((tb_and ha.1).mpr (Bool.eq_false_iff.mpr c)), if_neg c]
        exact ih (k + 1) N _ (by omega) (by omega)
  unfold f_X3_close clS
  have := loop L 0 5000 0 (by omega) (by omega)
  rw [nI_0] at this
  exact this
theorem e_kept (h : HC p1 L g σ) : f_X3_kept p1 (nI L) σ = some (nI (sumN g L / L), σ) := by
  obtain ⟨h1, h2, h3, h4⟩ := h
  have hs := fun (n : Nat) (hn : n ≤ L) => sumN_le (L := L) (g := g) (fun i hi => (h1 i hi).2) hn
  have loop : ∀ (dd k N : Nat), k + dd = L → dd < N → f_X3_kept_4 p1 N (nI L) (nI (sumN g k)) (nI k) σ = some (nI (sumN g L / L), σ) := by
    intro dd
    induction dd with
    | zero =>
      intro k N hk hN
      obtain ⟨N, rfl⟩ : ∃ q, N = q + 1 := ⟨N - 1, by omega⟩
      obtain rfl : k = L := by omega
      have := hs k (Nat.le_refl _)
      show b_X3_kept_4 p1 (f_X3_kept_4 p1 N) (nI k) (nI (sumN g k)) (nI k) σ = _
      unfold b_X3_kept_4
      rw [nIt (n := k) (by omega), if_neg (show ¬ (k : Int) < k by omega), if_neg (show ¬ (k : Int) < 1 by omega), if_neg (show ¬ (k : Int) = 0 by omega), pk_div (by omega) (by omega) (by omega)]
    | succ dd ih =>
      intro k N hk hN
      obtain ⟨N, rfl⟩ : ∃ q, N = q + 1 := ⟨N - 1, by omega⟩
      have hg := h1 k (by omega)
      show b_X3_kept_4 p1 (f_X3_kept_4 p1 N) (nI L) (nI (sumN g k)) (nI k) σ = _
      unfold b_X3_kept_4
      rw [nIt (n := k) (by omega), nIt (n := L) (by omega), if_pos (show (k : Int) < L by omega), if_pos (show 0 ≤ (k : Int) ∧ (k : Int) < al p1 by omega), Int.toNat_natCast, hg.1]
      simp only [Bd]
      rw [nI_1, nI_add]
      exact ih (k + 1) N (by omega) (by omega)
  unfold f_X3_kept
  have := loop L 0 5000 (by omega) (by omega)
  rw [show nI (sumN g 0) = 0 from nI_0, nI_0] at this
  exact this
/-- CLOSES or JOINED: what 0 whether, else how many -/
def clzS (g : Nat → Nat) (L : Nat) (y : Int32) : Int32 := if y.toInt = 0 then (if clS g L = true then 1 else 0) else (if clS g L = true then nI (sumN g L / L) else -2)
theorem e_closingOf (h : HC p1 L g σ) : f_X11_closingOf p1 (nI L) y σ = some (clzS g L y, σ) := by
  unfold f_X11_closingOf clzS
  rw [e_close h]
  simp only [Cl]
  by_cases c0 : y.toInt = 0
  · rw [if_pos c0, if_pos c0]
    cases clS g L with
    | true => rfl
    | false => rfl
  · rw [if_neg c0, if_neg c0]
    cases clS g L with
    | true =>
      rw [if_pos rfl, if_pos rfl, if_neg i1_ne, e_kept h]
    | false => rfl
/-! the reference's -/
def wTp (a k : Nat) : Bool := a == 269 || (a == 236 && k == 57)
def gP (d : DAT) (p i : Nat) : Nat := (d.1.2.2.2 p i).toNat
def LnP (d : DAT) (p : Nat) : Nat := d.1.2.2.1 p
theorem gP_of (hD : DOK d) {i : Nat} (hp : p < d.1.2.1) (hi : i < LnP d p) : Int32.ofInt (d.1.2.2.2 p i) = nI (gP d p i) ∧ gP d p i ≤ 9 := by
  have := hD.2.1 p hp i hi
  unfold gP
  generalize d.1.2.2.2 p i = v at this
  have e : (Int32.ofInt v).toInt = v := by rw [Int32.toInt_ofInt]; exact i32_bm (by omega)
  refine ⟨?_, by omega⟩
  have := nI_tn (v := Int32.ofInt v) (by omega) (by omega)
  rw [e] at this
  exact this
theorem TM.lp (h : TM sd d σ) (hp : p < d.1.2.1) : 1 ≤ LnP d p ∧ LnP d p ≤ 8 := (h.2.2.2.1.2.2 p hp).2.1
theorem al_ht {n : Nat} (ht : txk t) (hn : n < 5) : (al (t + 5 + n) : Int) = 8 := by
  rcases ht with rfl | rfl <;> rcases (show n = 0 ∨ n = 1 ∨ n = 2 ∨ n = 3 ∨ n = 4 by omega) with rfl | rfl | rfl | rfl | rfl <;> rfl
theorem TC.hc (h : TC t d σ) (ht : txk t) (hD : DOK d) (hp : p < d.1.2.1) : HC (t + 5 + p) (LnP d p) (gP d p) σ := by
  have hP := h.2.1.2.1
  obtain ⟨q1, q2, q3⟩ := h.2.1.2.2 p hp
  refine ⟨fun i hi => ⟨?_, (gP_of hD hp hi).2⟩, q2.1, by unfold LnP; omega, by rw [al_ht ht (by omega)]; unfold LnP; omega⟩
  rw [ofI (q3 i hi)]; exact (gP_of hD hp hi).1
theorem w_takes {a0 : Nat} (hM : TM sd d σ) (hD : DOK d) (hp : p < d.1.2.1) (ha : a0 ≤ 8) : Okv (f_X12_takesPattern (nI p) (nI a0) σ) (fun s => s.1 236 57 = nI (a0 + LnP d p) ∧ (∀ i, i < LnP d p → s.1 269 (a0 + i) = nI (gP d p i)) ∧ (∀ j, j < a0 → s.1 269 j = σ.1 269 j) ∧ frm wTp wl0 σ s) := by
  have hl := hM.lp hp
  have hMf : ∀ {s : HS}, frm wTp wl0 σ s → TM sd d s := fun hf => hM.fr hf (by decide) (fun i k x y => by unfold wTp; simp; omega)
  have loop : ∀ (dd k N : Nat) (s : HS), k + dd = LnP d p → dd < N → (∀ i, i < k → s.1 269 (a0 + i) = nI (gP d p i)) → (∀ j, j < a0 → s.1 269 j = σ.1 269 j) → frm wTp wl0 σ s → Okv (f_X12_takesPattern_2 N (nI p) (nI a0) (nI k) s) (fun s => s.1 236 57 = nI (a0 + LnP d p) ∧ (∀ i, i < LnP d p → s.1 269 (a0 + i) = nI (gP d p i)) ∧ (∀ j, j < a0 → s.1 269 j = σ.1 269 j) ∧ frm wTp wl0 σ s) := by
    intro dd
    induction dd with
    | zero =>
      intro k N s hk hN h1 h2 hf
      obtain ⟨N, rfl⟩ : ∃ q, N = q + 1 := ⟨N - 1, by omega⟩
      show Okv (b_X12_takesPattern_2 (f_X12_takesPattern_2 N) (nI p) (nI a0) (nI k) s) _
      unfold b_X12_takesPattern_2
      refine Okv.cle (e_lengthOf (hMf hf) hp) ?_
      have el : d.1.2.2.1 p = LnP d p := rfl
      rw [el, nIt (n := k) (by omega), nIt (n := LnP d p) (by omega)]
      refine Okv.f (by omega) (Okv.cle (e_lengthOf (hMf hf) hp) (Okv.bd (Okv.ret ⟨?_, fun i hi => ?_, fun j hj => ?_, hf.I rfl⟩)))
      · rw [rI_s, nI_add]; rfl
      · rw [rI_i (by decide)]; exact h1 i (by omega)
      · rw [rI_i (by decide)]; exact h2 j hj
    | succ dd ih =>
      intro k N s hk hN h1 h2 hf
      obtain ⟨N, rfl⟩ : ∃ q, N = q + 1 := ⟨N - 1, by omega⟩
      show Okv (b_X12_takesPattern_2 (f_X12_takesPattern_2 N) (nI p) (nI a0) (nI k) s) _
      unfold b_X12_takesPattern_2
      refine Okv.cle (e_lengthOf (hMf hf) hp) ?_
      have el : d.1.2.2.1 p = LnP d p := rfl
      rw [el, nIt (n := k) (by omega), nIt (n := LnP d p) (by omega)]
      refine Okv.t (by omega) (Okv.cle (e_heightAt (hMf hf) hp (by omega)) ?_)
      rw [el, Nat.mod_eq_of_lt (show k < LnP d p by omega), (gP_of hD hp (show k < LnP d p by omega)).1, nI_add, nIt (n := a0 + k) (by omega), Int.toNat_natCast]
      refine Okv.t (by omega) (Okv.bd (Okv.bd ?_))
      rw [nI_1]
      refine ih (k + 1) N _ (by omega) (by omega) (fun i hi => ?_) (fun j hj => ?_) (hf.I rfl)
      · by_cases c : i = k
        · rw [c, rI_s]
        · rw [rI_k (by omega)]; exact h1 i (by omega)
      · rw [rI_k (by omega)]; exact h2 j hj
  unfold f_X12_takesPattern
  rw [nI0]
  exact loop (LnP d p) 0 5000 σ (by omega) (by omega) (fun i hi => absurd hi (by omega)) (fun _ _ => rfl) frm.rf
def kepS (g : Nat → Nat) (L : Nat) : Int32 := if clS g L = true then nI (sumN g L / L) else -2
theorem e_keeps (h : HM L g σ) : f_X12_keeps σ = some (kepS g L, σ) := by
  obtain ⟨h1, h2, h3, h4⟩ := h
  have hs := fun (n : Nat) (hn : n ≤ L) => sumN_le (L := L) (g := g) (fun i hi => (h1 i hi).2) hn
  have loop : ∀ (dd k N : Nat) (x : Int32), k + dd = L → dd < N → f_X12_keeps_6 N x (nI (sumN g k)) (nI k) σ = some (if clL g L dd k x = true then nI (sumN g L / L) else -2, σ) := by
    intro dd
    induction dd with
    | zero =>
      intro k N x hk hN
      obtain ⟨N, rfl⟩ : ∃ q, N = q + 1 := ⟨N - 1, by omega⟩
      have := hs k (by omega)
      show b_X12_keeps_6 (f_X12_keeps_6 N) x (nI (sumN g k)) (nI k) σ = _
      unfold b_X12_keeps_6
      rw [h4, nIt (n := k) (by omega), nIt (n := L) (by omega), if_neg (show ¬ (k : Int) < L by omega), if_neg (show ¬ (L : Int) = 0 by omega), pk_div (by omega) (by omega) (by omega)]
      obtain rfl : k = L := by omega
      rfl
    | succ dd ih =>
      intro k N x hk hN
      obtain ⟨N, rfl⟩ : ∃ q, N = q + 1 := ⟨N - 1, by omega⟩
      have hg := h1 k (by omega)
      have ha := at_lt (g := g) (i := k) (L := L) ⟨h2, h3⟩
      show b_X12_keeps_6 (f_X12_keeps_6 N) x (nI (sumN g k)) (nI k) σ = _
      unfold b_X12_keeps_6
      rw [h4, nIt (n := k) (by omega), nIt (n := L) (by omega), if_pos (show (k : Int) < L by omega), if_pos (show 0 ≤ (k : Int) ∧ (k : Int) < 16 by omega), if_neg (show ¬ (L : Int) = 0 by omega), Int.toNat_natCast, hg.1, at_rem (by omega) hg.2 ⟨h2, h3⟩]
      simp only [Bd]
      rw [nI_1, nI_add]
      show (if ((x >>> (nI (atS g L k) &&& 31)) &&& (1 : Int32)).toInt = 1 then some (-2, σ) else if 0 ≤ (k : Int) ∧ (k : Int) < 16 then f_X12_keeps_6 N (x ||| bitI (atS g L k)) (nI (sumN g (k + 1))) (nI (k + 1)) σ else none) = some (if (if tb x (atS g L k) = true then false else clL g L dd (k + 1) (x ||| bitI (atS g L k))) = true then _ else _, σ)
      by_cases c : tb x (atS g L k) = true
      · rw [if_pos ((tb_sh1 ha.1).mpr c), if_pos c]; rfl
      · rw [if_neg (fun e => c ((tb_sh1 ha.1).mp e)), if_pos (show 0 ≤ (k : Int) ∧ (k : Int) < 16 by omega), if_neg c]
        exact ih (k + 1) N _ (by omega) (by omega)
  unfold f_X12_keeps kepS clS
  have := loop L 0 5000 0 (by omega) (by omega)
  rw [show nI (sumN g 0) = 0 from nI_0, nI_0] at this
  exact this
theorem w_keepsOf (hM : TM sd d σ) (hD : DOK d) (hp : p < d.1.2.1) : Ok (f_X12_keepsOf (nI p) σ) (fun r s => r = kepS (gP d p) (LnP d p) ∧ HM (LnP d p) (gP d p) s ∧ frm wTp wl0 σ s) := by
  have hl := hM.lp hp
  unfold f_X12_keepsOf
  rw [nI0]
  refine Ok.cv (w_takes (a0 := 0) hM hD hp (by omega)) (fun s h => ?_)
  obtain ⟨a1, a2, a3, a4⟩ := h
  have hm : HM (LnP d p) (gP d p) s := ⟨fun i hi => ⟨by rw [← a2 i hi, Nat.zero_add], (gP_of hD hp hi).2⟩, hl.1, by omega, by rw [a1, Nat.zero_add]⟩
  exact Ok.cle (e_keeps hm) (Ok.ret ⟨rfl, hm, a4⟩)
theorem kep_rg (hg : ∀ i, i < L → g i ≤ 9) (hL : 1 ≤ L ∧ L ≤ 16) : kepS g L = -2 ∧ clS g L = false ∨ clS g L = true ∧ kepS g L = nI (sumN g L / L) ∧ sumN g L / L ≤ 9 := by
  unfold kepS
  cases c : clS g L with
  | false => exact Or.inl ⟨rfl, rfl⟩
  | true =>
    refine Or.inr ⟨rfl, rfl, ?_⟩
    have := sumN_le (g := g) hg (Nat.le_refl L)
    exact Nat.div_le_of_le_mul (by rw [Nat.mul_comm]; exact this)
theorem e_told (hy : y.toInt = 0 ∨ y.toInt = 1) (hg : ∀ i, i < L → g i ≤ 9) (hL : 1 ≤ L ∧ L ≤ 16) : f_X12_told (kepS g L) y σ = some (clzS g L y, σ) := by
  unfold f_X12_told clzS
  rcases hy with hy | hy
  · rw [if_neg (by omega), if_pos hy]
    rcases kep_rg hg hL with ⟨h1, h2⟩ | ⟨h1, h2, h3⟩
    · rw [h1, h2]; rfl
    · rw [h2, h1, nIt (by omega), if_neg (show ¬ ((sumN g L / L : Nat) : Int) < 0 from Int.not_lt.mpr (Int.natCast_nonneg _))]; rfl
  · rw [if_pos hy, if_neg (by omega)]; rfl
end HTS
/-! closes, joined, span -/
section CLO
variable {σ s : HS} {n t u sd k nx m p L : Nat} {ρ : Nat → Int32} {d : DAT} {b : Int} {H G : Nat → Nat → Int32} {tb9 : Nat → Nat} {x y z : Int32} {g g2 : Nat → Nat}
theorem tp_wQ (i k : Nat) (h : wTp i k = true) : wQ i k = true := by
  unfold wTp at h
  simp only [Bool.or_eq_true, Bool.and_eq_true, beq_iff_eq] at h
  rcases h with h | ⟨h, h2⟩
  · subst h; rfl
  · subst h; subst h2; rfl
theorem i1_e : (1 : Int32).toInt = 1 := rfl
/-- which pattern: as 0 .. P less 1 -/
theorem clo_no {P : Prop} {dP : Decidable P} {v : Int32} (h : ¬ P) : (if P then v else -1) = -1 := if_neg h
def cloS (d : DAT) (x y : Int32) : Int32 := if (0 ≤ x.toInt ∧ x.toInt < d.1.2.1) ∧ (0 ≤ y.toInt ∧ y.toInt ≤ 1) then clzS (gP d x.toInt.toNat) (LnP d x.toInt.toNat) y else -1
theorem cloS_in (hp : p < d.1.2.1) (hP : d.1.2.1 ≤ 5) (hy : 0 ≤ y.toInt ∧ y.toInt ≤ 1) : cloS d (nI p) y = clzS (gP d p) (LnP d p) y := by
  have e1 : (nI p).toInt = (p : Int) := nIt (by omega)
  unfold cloS
  rw [e1, if_pos ⟨⟨by omega, by omega⟩, hy⟩, Int.toNat_natCast]
theorem q_closes_c (h : RELx n d t u sd ρ k nx H m tb9 G σ) : Ok (f_X11_closes x y σ) (fun r s => r = cloS d x y ∧ frm wQ wl0 σ s) := by
  have hP := h.tc.2.1.2.1
  unfold f_X11_closes
  rw [h.t0]
  refine Ok.t h.tk (Ok.cle (e_hasPattern h.tc.2.1.1 hP) ?_)
  rw [h.t0]
  by_cases c : 0 ≤ x.toInt ∧ x.toInt < d.1.2.1
  · refine Ok.f (fun e => if10.mp e c) ?_
    by_cases c1 : y.toInt < 0
    · exact Ok.t c1 (Ok.ret ⟨(clo_no (fun e => by omega)).symm, frm.rf⟩)
    by_cases c2 : 1 < y.toInt
    · exact Ok.f c1 (Ok.t c2 (Ok.ret ⟨(clo_no (fun e => by omega)).symm, frm.rf⟩))
    obtain ⟨p, hp, rfl⟩ := in_T c (by omega)
    obtain ⟨q1, q2, q3⟩ := h.tc.2.1.2.2 p hp
    rw [cloS_in hp hP (by omega), nIt (n := p) (by omega), Int.toNat_natCast, q1]
    have c5 : 0 ≤ (p : Int) ∧ (p : Int) < 5 := by omega
    refine Ok.f c1 (Ok.f c2 (Ok.t h.tk (Ok.t c5 (Ok.t h.tk (Ok.t c5 ?_)))))
    exact Ok.cle (e_closingOf (h.tc.hc h.tk h.ok hp)) (Ok.ret ⟨rfl, frm.rf⟩)
  · exact Ok.t (if10.mpr c) (Ok.ret ⟨(clo_no (fun e => c e.1)).symm, frm.rf⟩)
theorem q_closes_m (h : RELx n d t u sd ρ k nx H m tb9 G σ) : Ok (f_X12_closes x y σ) (fun r s => r = cloS d x y ∧ frm wQ wl0 σ s) := by
  have hM := h.tm
  have hP := hM.2.2.2.1.2.1
  unfold f_X12_closes
  refine Ok.cle (e_isPattern hM.lv hM.2.2.2.1.1 hP) ?_
  by_cases c : 0 ≤ x.toInt ∧ x.toInt < d.1.2.1
  · refine Ok.f (fun e => if10.mp e c) (Ok.cle e_in ?_)
    rw [i0_eq, i1_e]
    by_cases cy : 0 ≤ y.toInt ∧ y.toInt ≤ 1
    · obtain ⟨p, hp, rfl⟩ := in_T c (by omega)
      have hl := hM.lp hp
      rw [cloS_in hp hP cy]
      refine Ok.f (fun e => if10.mp e cy) (Ok.cl (w_keepsOf hM h.ok hp) (fun r s5 h5 => ?_))
      obtain ⟨rfl, -, f5⟩ := h5
      exact Ok.cle (e_told (by omega) (fun i hi => (gP_of h.ok hp hi).2) (by omega)) (Ok.ret ⟨rfl, f5.sub tp_wQ⟩)
    · exact Ok.t (if10.mpr cy) (Ok.ret ⟨(clo_no (fun e => cy e.2)).symm, frm.rf⟩)
  · exact Ok.t (if10.mpr c) (Ok.ret ⟨(clo_no (fun e => c e.1)).symm, frm.rf⟩)
theorem sim_closes : SIM n (f_X11_closes x y) (f_X12_closes x y) := sim_q (fun d t u sd ρ k nx H m tb G σ h => ⟨_, q_closes_c h, fun s hs _ => q_closes_m hs⟩)
/-! two patterns as one -/
def joG (d : DAT) (p q i : Nat) : Nat := if i < LnP d p then gP d p i else gP d q (i - LnP d p)
def joiS (d : DAT) (x y z : Int32) : Int32 := if (0 ≤ x.toInt ∧ x.toInt < d.1.2.1) ∧ (0 ≤ y.toInt ∧ y.toInt < d.1.2.1) ∧ (0 ≤ z.toInt ∧ z.toInt ≤ 1) then clzS (joG d x.toInt.toNat y.toInt.toNat) (LnP d x.toInt.toNat + LnP d y.toInt.toNat) z else -1
theorem joiS_in {q : Nat} (hp : p < d.1.2.1) (hq : q < d.1.2.1) (hP : d.1.2.1 ≤ 5) (hz : 0 ≤ z.toInt ∧ z.toInt ≤ 1) : joiS d (nI p) (nI q) z = clzS (joG d p q) (LnP d p + LnP d q) z := by
  have e1 : (nI p).toInt = (p : Int) := nIt (by omega)
  have e2 : (nI q).toInt = (q : Int) := nIt (by omega)
  unfold joiS
  rw [e1, e2, if_pos ⟨⟨by omega, by omega⟩, ⟨by omega, by omega⟩, hz⟩, Int.toNat_natCast, Int.toNat_natCast]
theorem joG_le (hD : DOK d) {q : Nat} (hp : p < d.1.2.1) (hq : q < d.1.2.1) {i : Nat} (hi : i < LnP d p + LnP d q) : joG d p q i ≤ 9 := by
  unfold joG
  by_cases c : i < LnP d p
  · rw [if_pos c]; exact (gP_of hD hp c).2
  · rw [if_neg c]; exact (gP_of hD hq (by omega)).2
theorem q_joined_c (h : RELx n d t u sd ρ k nx H m tb9 G σ) : Ok (f_X11_joined x y z σ) (fun r s => r = joiS d x y z ∧ frm wQ wl0 σ s) := by
  have hP := h.tc.2.1.2.1
  unfold f_X11_joined
  rw [h.t0]
  refine Ok.t h.tk (Ok.cle (e_hasPattern h.tc.2.1.1 hP) ?_)
  rw [h.t0]
  by_cases c : 0 ≤ x.toInt ∧ x.toInt < d.1.2.1
  · refine Ok.f (fun e => if10.mp e c) (Ok.t h.tk (Ok.cle (e_hasPattern h.tc.2.1.1 hP) ?_))
    rw [h.t0]
    by_cases cq : 0 ≤ y.toInt ∧ y.toInt < d.1.2.1
    · refine Ok.f (fun e => if10.mp e cq) ?_
      by_cases c1 : z.toInt < 0
      · exact Ok.t c1 (Ok.ret ⟨(clo_no (fun e => by omega)).symm, frm.rf⟩)
      by_cases c2 : 1 < z.toInt
      · exact Ok.f c1 (Ok.t c2 (Ok.ret ⟨(clo_no (fun e => by omega)).symm, frm.rf⟩))
      obtain ⟨p, hp, rfl⟩ := in_T c (by omega)
      obtain ⟨q, hq, rfl⟩ := in_T cq (by omega)
      obtain ⟨a1, a2, a3⟩ := h.tc.2.1.2.2 p hp
      obtain ⟨b1, b2, b3⟩ := h.tc.2.1.2.2 q hq
      rw [joiS_in hp hq hP (by omega), nIt (n := p) (by omega), nIt (n := q) (by omega), Int.toNat_natCast, Int.toNat_natCast, a1]
      have c5 : 0 ≤ (p : Int) ∧ (p : Int) < 5 := by omega
      have d5 : 0 ≤ (q : Int) ∧ (q : Int) < 5 := by omega
      have eL : d.1.2.2.1 p = LnP d p := rfl
      have eM : d.1.2.2.1 q = LnP d q := rfl
      rw [eL] at a1 a2 ⊢
      rw [eM] at b1 b2
      refine Ok.f c1 (Ok.f c2 (Ok.t h.tk (Ok.t c5 (Ok.bd (Ok.t h.tk (Ok.t c5 ?_))))))
      rw [nIt (n := LnP d p) (by omega)]
      refine Ok.t (by omega) (Ok.bd ?_)
      have hc1 := h.tc.hc h.tk h.ok hp
      have hc2 := h.tc.hc h.tk h.ok hq
      generalize hs1 : hA σ 29 (va_cpy (σ.1 (t + 5 + p)) (σ.1 29) (0 : Int).toNat (0 : Int).toNat (LnP d p : Int).toNat) = s1
      have f1 : frm wQ wl0 σ s1 := by rw [← hs1]; exact frm.rf.A (fun _ => rfl)
      have h1 := h.fr f1
      have j1 : ∀ i, i < LnP d p → s1.1 29 i = nI (gP d p i) := fun i hi => by
        rw [← hs1, rA_s]
        show va_cpy _ _ 0 0 (LnP d p) i = _
        rw [pk_cpy_in (by omega) (by omega), Nat.sub_zero, Nat.zero_add]
        exact (hc1.1 i hi).1
      have hc3 := h1.tc.hc h.tk h.ok hq
      obtain ⟨b1', -, -⟩ := h1.tc.2.1.2.2 q hq
      rw [eM] at b1'
      rw [h1.t0, b1', nIt (n := LnP d q) (by omega)]
      refine Ok.t h.tk (Ok.t d5 (Ok.t h.tk (Ok.t d5 (Ok.t (by omega) (Ok.bd ?_)))))
      generalize hs2 : hA s1 29 (va_cpy (s1.1 (t + 5 + q)) (s1.1 29) (0 : Int).toNat (LnP d p : Int).toNat (LnP d q : Int).toNat) = s2
      have f2 : frm wQ wl0 s1 s2 := by rw [← hs2]; exact frm.rf.A (fun _ => rfl)
      have h2 := h1.fr f2
      have j2 : ∀ i, i < LnP d p + LnP d q → s2.1 29 i = nI (joG d p q i) := fun i hi => by
        rw [← hs2, rA_s]
        show va_cpy _ _ 0 (LnP d p) (LnP d q) i = _
        unfold joG
        by_cases cl : i < LnP d p
        · rw [if_pos cl, pk_cpy_out (Or.inl cl)]; exact j1 i cl
        · rw [if_neg cl, pk_cpy_in (by omega) (by omega), Nat.zero_add]
          exact (hc3.1 _ (by omega)).1
      obtain ⟨b1'', -, -⟩ := h2.tc.2.1.2.2 q hq
      rw [eM] at b1''
      rw [h2.t0, b1'', nI_add]
      have e16 : (al 29 : Int) = 16 := rfl
      refine Ok.t h.tk (Ok.t d5 (Ok.cle (e_closingOf (g := joG d p q) ⟨fun i hi => ⟨j2 i hi, joG_le h.ok hp hq hi⟩, by omega, by omega, by rw [e16]; omega⟩) (Ok.ret ⟨rfl, f1.tr f2⟩)))
    · exact Ok.t (if10.mpr cq) (Ok.ret ⟨(clo_no (fun e => cq e.2.1)).symm, frm.rf⟩)
  · exact Ok.t (if10.mpr c) (Ok.ret ⟨(clo_no (fun e => c e.1)).symm, frm.rf⟩)
theorem q_joined_m (h : RELx n d t u sd ρ k nx H m tb9 G σ) : Ok (f_X12_joined x y z σ) (fun r s => r = joiS d x y z ∧ frm wQ wl0 σ s) := by
  have hM := h.tm
  have hP := hM.2.2.2.1.2.1
  unfold f_X12_joined
  refine Ok.cle (e_isPattern hM.lv hM.2.2.2.1.1 hP) ?_
  by_cases c : 0 ≤ x.toInt ∧ x.toInt < d.1.2.1
  · refine Ok.f (fun e => if10.mp e c) (Ok.cle (e_isPattern hM.lv hM.2.2.2.1.1 hP) ?_)
    by_cases cq : 0 ≤ y.toInt ∧ y.toInt < d.1.2.1
    · refine Ok.f (fun e => if10.mp e cq) (Ok.cle e_in ?_)
      rw [i0_eq, i1_e]
      by_cases cz : 0 ≤ z.toInt ∧ z.toInt ≤ 1
      · obtain ⟨p, hp, rfl⟩ := in_T c (by omega)
        obtain ⟨q, hq, rfl⟩ := in_T cq (by omega)
        have hl := hM.lp hp
        have hl2 := hM.lp hq
        rw [joiS_in hp hq hP cz, nI0]
        refine Ok.f (fun e => if10.mp e cz) (Ok.cv (w_takes (a0 := 0) hM h.ok hp (by omega)) (fun s7 h7 => ?_))
        obtain ⟨-, b2, -, f7⟩ := h7
        have F7 := f7.sub tp_wQ
        have h7 := h.fr F7
        refine Ok.cle (e_lengthOf h7.tm hp) ?_
        have eL : d.1.2.2.1 p = LnP d p := rfl
        rw [eL]
        refine Ok.cv (w_takes (a0 := LnP d p) h7.tm h.ok hq (by omega)) (fun s11 h11 => ?_)
        obtain ⟨c1, c2, c3, f11⟩ := h11
        have hm : HM (LnP d p + LnP d q) (joG d p q) s11 := by
          refine ⟨fun i hi => ⟨?_, joG_le h.ok hp hq hi⟩, by omega, by omega, c1⟩
          unfold joG
          by_cases cl : i < LnP d p
          · rw [if_pos cl, c3 i cl, ← b2 i cl, Nat.zero_add]
          · rw [if_neg cl, ← c2 (i - LnP d p) (by omega)]
            exact congrArg (s11.1 269) (by omega)
        refine Ok.cle (e_keeps hm) (Ok.cle (e_told (by omega) (fun i hi => joG_le h.ok hp hq hi) (by omega)) (Ok.ret ⟨rfl, F7.tr (f11.sub tp_wQ)⟩))
      · exact Ok.t (if10.mpr cz) (Ok.ret ⟨(clo_no (fun e => cz e.2.2)).symm, frm.rf⟩)
    · exact Ok.t (if10.mpr cq) (Ok.ret ⟨(clo_no (fun e => cq e.2.1)).symm, frm.rf⟩)
  · exact Ok.t (if10.mpr c) (Ok.ret ⟨(clo_no (fun e => c e.1)).symm, frm.rf⟩)
theorem sim_joined : SIM n (f_X11_joined x y z) (f_X12_joined x y z) := sim_q (fun d t u sd ρ k nx H m tb G σ h => ⟨_, q_joined_c h, fun s hs _ => q_joined_m hs⟩)
/-! the highest -/
def mxN (g : Nat → Nat) : Nat → Nat
  | 0 => 0
  | n + 1 => if mxN g n < g n then g n else mxN g n
theorem mxN_le (h : ∀ i, i < L → g i ≤ 9) : ∀ {n : Nat}, n ≤ L → mxN g n ≤ 9 := by
  intro n
  induction n with
  | zero => intro _; exact Nat.zero_le _
  | succ n ih =>
    intro hn
    show (if mxN g n < g n then g n else mxN g n) ≤ 9
    have := h n (by omega)
    have := ih (by omega)
    split <;> omega
theorem e_highest {p1 : Nat} (h : HC p1 L g σ) : f_X3_highest p1 (nI L) σ = some (nI (mxN g L), σ) := by
  obtain ⟨h1, h2, h3, h4⟩ := h
  have hm := fun (n : Nat) (hn : n ≤ L) => mxN_le (L := L) (g := g) (fun i hi => (h1 i hi).2) hn
  have loop : ∀ (dd k N : Nat), k + dd = L → dd < N → f_X3_highest_4 p1 N (nI L) (nI (mxN g k)) (nI k) σ = some (nI (mxN g L), σ) := by
    intro dd
    induction dd with
    | zero =>
      intro k N hk hN
      obtain ⟨N, rfl⟩ : ∃ q, N = q + 1 := ⟨N - 1, by omega⟩
      obtain rfl : k = L := by omega
      show b_X3_highest_4 p1 (f_X3_highest_4 p1 N) (nI k) (nI (mxN g k)) (nI k) σ = _
      unfold b_X3_highest_4
      rw [if_neg (Int.lt_irrefl _)]
    | succ dd ih =>
      intro k N hk hN
      obtain ⟨N, rfl⟩ : ∃ q, N = q + 1 := ⟨N - 1, by omega⟩
      have hg := h1 k (by omega)
      have hk1 := hm k (by omega)
      show b_X3_highest_4 p1 (f_X3_highest_4 p1 N) (nI L) (nI (mxN g k)) (nI k) σ = _
      unfold b_X3_highest_4
      rw [nIt (n := k) (by omega), nIt (n := L) (by omega), if_pos (show (k : Int) < L by omega), if_pos (show 0 ≤ (k : Int) ∧ (k : Int) < al p1 by omega), Int.toNat_natCast, hg.1]
      simp only [Bd]
      have e : (if nI (mxN g k) < nI (g k) then nI (g k) else nI (mxN g k)) = nI (mxN g (k + 1)) := by
        show _ = nI (if mxN g k < g k then g k else mxN g k)
        by_cases c : mxN g k < g k
        · rw [if_pos c, if_pos (Int32.lt_iff_toInt_lt.mpr (by rw [nIt (by omega), nIt (by omega)]; omega))]
        · rw [if_neg c, if_neg (fun e => c (by
            have := Int32.lt_iff_toInt_lt.mp e
            rw [nIt (by omega), nIt (by omega)] at this
            omega))]
      rw [e, nI_1]
      exact ih (k + 1) N (by omega) (by omega)
  unfold f_X3_highest
  have := loop L 0 5000 (by omega) (by omega)
  rw [show nI (mxN g 0) = 0 from nI_0, nI_0] at this
  exact this
def spaS (d : DAT) (x : Int32) : Int32 := if 0 ≤ x.toInt ∧ x.toInt < d.1.2.1 then nI (mxN (gP d x.toInt.toNat) (LnP d x.toInt.toNat)) else -1
theorem spaS_in (hp : p < d.1.2.1) (hP : d.1.2.1 ≤ 5) : spaS d (nI p) = nI (mxN (gP d p) (LnP d p)) := by
  have e1 : (nI p).toInt = (p : Int) := nIt (by omega)
  unfold spaS
  rw [e1, if_pos ⟨by omega, by omega⟩, Int.toNat_natCast]
theorem q_span_c (h : RELx n d t u sd ρ k nx H m tb9 G σ) : Ok (f_X11_span x σ) (fun r s => r = spaS d x ∧ frm wQ wl0 σ s) := by
  have hP := h.tc.2.1.2.1
  unfold f_X11_span
  rw [h.t0]
  refine Ok.t h.tk (Ok.cle (e_hasPattern h.tc.2.1.1 hP) ?_)
  rw [h.t0]
  by_cases c : 0 ≤ x.toInt ∧ x.toInt < d.1.2.1
  · refine Ok.f (fun e => if10.mp e c) ?_
    obtain ⟨p, hp, rfl⟩ := in_T c (by omega)
    obtain ⟨q1, q2, q3⟩ := h.tc.2.1.2.2 p hp
    rw [spaS_in hp hP, nIt (n := p) (by omega), Int.toNat_natCast, q1]
    have c5 : 0 ≤ (p : Int) ∧ (p : Int) < 5 := by omega
    exact Ok.t h.tk (Ok.t c5 (Ok.t h.tk (Ok.t c5 (Ok.cle (e_highest (h.tc.hc h.tk h.ok hp)) (Ok.ret ⟨rfl, frm.rf⟩)))))
  · exact Ok.t (if10.mpr c) (Ok.ret ⟨(clo_no c).symm, frm.rf⟩)
theorem q_span_m (h : RELx n d t u sd ρ k nx H m tb9 G σ) : Ok (f_X12_span x σ) (fun r s => r = spaS d x ∧ frm wQ wl0 σ s) := by
  have hM := h.tm
  have hP := hM.2.2.2.1.2.1
  unfold f_X12_span
  refine Ok.cle (e_isPattern hM.lv hM.2.2.2.1.1 hP) ?_
  by_cases c : 0 ≤ x.toInt ∧ x.toInt < d.1.2.1
  · refine Ok.f (fun e => if10.mp e c) ?_
    obtain ⟨p, hp, rfl⟩ := in_T c (by omega)
    have hl := hM.lp hp
    rw [spaS_in hp hP]
    have eL : d.1.2.2.1 p = LnP d p := rfl
    have hm := fun (n : Nat) (hn : n ≤ LnP d p) => mxN_le (L := LnP d p) (g := gP d p) (fun i hi => (gP_of h.ok hp hi).2) hn
    have loop : ∀ (dd k N : Nat), k + dd = LnP d p → dd < N → f_X12_span_14 N (nI p) (nI (mxN (gP d p) k)) (nI k) σ = some (nI (mxN (gP d p) (LnP d p)), σ) := by
      intro dd
      induction dd with
      | zero =>
        intro k N hk hN
        obtain ⟨N, rfl⟩ : ∃ q, N = q + 1 := ⟨N - 1, by omega⟩
        show b_X12_span_14 (f_X12_span_14 N) (nI p) (nI (mxN (gP d p) k)) (nI k) σ = _
        unfold b_X12_span_14
        rw [e_lengthOf hM hp, eL]
        simp only [Cl]
        rw [nIt (n := k) (by omega), nIt (n := LnP d p) (by omega), if_neg (show ¬ (k : Int) < LnP d p by omega)]
        obtain rfl : k = LnP d p := by omega
        rfl
      | succ dd ih =>
        intro k N hk hN
        obtain ⟨N, rfl⟩ : ∃ q, N = q + 1 := ⟨N - 1, by omega⟩
        have hk1 := hm k (by omega)
        have hg := gP_of h.ok hp (show k < LnP d p by omega)
        have eH : f_X12_heightAt (nI p) (nI k) σ = some (nI (gP d p k), σ) := by
          rw [e_heightAt hM hp (by omega), eL, Nat.mod_eq_of_lt (show k < LnP d p by omega), hg.1]
        show b_X12_span_14 (f_X12_span_14 N) (nI p) (nI (mxN (gP d p) k)) (nI k) σ = _
        unfold b_X12_span_14 f_X12_span_40
        rw [e_lengthOf hM hp, eL]
        simp only [Cl]
        rw [nIt (n := k) (by omega), nIt (n := LnP d p) (by omega), if_pos (show (k : Int) < LnP d p by omega), eH]
        simp only [Bd]
        rw [nI_1, nIt (n := mxN (gP d p) k) (by omega), nIt (n := gP d p k) (by omega), eH]
        simp only
        refine Eq.trans ?_ (ih (k + 1) N (by omega) (by omega))
        show _ = f_X12_span_14 N (nI p) (nI (if mxN (gP d p) k < gP d p k then gP d p k else mxN (gP d p) k)) (nI (k + 1)) σ
        by_cases c : mxN (gP d p) k < gP d p k
        · rw [if_pos (show (mxN (gP d p) k : Int) < gP d p k by omega), if_pos c]
        · rw [if_neg (show ¬ (mxN (gP d p) k : Int) < gP d p k by omega), if_neg c]
    have := loop (LnP d p) 0 5000 (by omega) (by omega)
    rw [show nI (mxN (gP d p) 0) = 0 from nI_0, nI_0] at this
    refine Ok.of this ?_
    exact ⟨rfl, frm.rf⟩
  · exact Ok.t (if10.mpr c) (Ok.ret ⟨(clo_no c).symm, frm.rf⟩)
theorem sim_span : SIM n (f_X11_span x) (f_X12_span x) := sim_q (fun d t u sd ρ k nx H m tb G σ h => ⟨_, q_span_c h, fun s hs _ => q_span_m hs⟩)
end CLO
/-! turned, orbits, swaps -/
section TOS
variable {σ s : HS} {n t u sd k nx m p L : Nat} {ρ : Nat → Int32} {d : DAT} {b : Int} {H G : Nat → Nat → Int32} {tb9 : Nat → Nat} {x y z : Int32} {g g2 : Nat → Nat}
def alT (g g2 : Nat → Nat) (L tn : Nat) : Nat → Bool
  | 0 => true
  | n + 1 => alT g g2 L tn n && decide (g ((n + tn) % L) = g2 n)
theorem alT_mono {tn : Nat} : ∀ {n k : Nat}, alT g g2 L tn n = true → k ≤ n → alT g g2 L tn k = true := by
  intro n
  induction n with
  | zero => intro k h hk; rw [show k = 0 by omega]; exact h
  | succ n ih =>
    intro k h hk
    by_cases c : k = n + 1
    · rw [c]; exact h
    · have h1 : (alT g g2 L tn n && decide (g ((n + tn) % L) = g2 n)) = true := h
      rw [Bool.and_eq_true] at h1
      exact ih h1.1 (by omega)
def turS (g g2 : Nat → Nat) (L : Nat) : Int32 := firI (fun tn => alT g g2 L tn L) L (-2)
theorem nI_ieq {a c : Nat} (ha : a ≤ 100000) (hc : c ≤ 100000) : (nI a).toInt = (nI c).toInt ↔ a = c := by
  rw [nIt ha, nIt hc]; omega
theorem e_turns {p1 p2 : Nat} (h : HC p1 L g σ) (h2 : HC p2 L g2 σ) : f_X3_turns p1 p2 (nI L) σ = some (turS g g2 L, σ) := by
  obtain ⟨a1, a2, a3, a4⟩ := h
  obtain ⟨b1, b2, b3, b4⟩ := h2
  have inner : ∀ (k2 : Int32 → Int32 → HS → Option (Int32 × HS)) (tn : Nat), tn < L → ∀ (dd k N : Nat), k + dd = L → dd < N → f_X3_turns_13 p1 p2 k2 N (nI L) (nI tn) (if alT g g2 L tn k = true then 1 else 0) (nI k) σ = if alT g g2 L tn L = true then some (nI tn, σ) else k2 (nI L) (nI (tn + 1)) σ := by
    intro k2 tn htn dd
    induction dd with
    | zero =>
      intro k N hk hN
      obtain ⟨N, rfl⟩ : ∃ q, N = q + 1 := ⟨N - 1, by omega⟩
      obtain rfl : k = L := by omega
      show b_X3_turns_13 p1 p2 k2 (f_X3_turns_13 p1 p2 k2 N) (nI k) (nI tn) _ (nI k) σ = _
      unfold b_X3_turns_13
      rw [if_neg (Int.lt_irrefl _)]
      cases alT g g2 k tn k with
      | true => rfl
      | false =>
        show (if (0 : Int32).toInt = 0 then Bd (nI tn + 1) fun z1 => k2 (nI k) z1 σ else some (nI tn, σ)) = _
        rw [if_pos i0_eq]
        simp only [Bd]
        rw [nI_1]; rfl
    | succ dd ih =>
      intro k N hk hN
      obtain ⟨N, rfl⟩ : ∃ q, N = q + 1 := ⟨N - 1, by omega⟩
      have hr : (k + tn) % L < L := Nat.mod_lt _ (by omega)
      have ih1 := ih (k + 1) N (by omega) (by omega)
      have ea : alT g g2 L tn (k + 1) = (alT g g2 L tn k && decide (g ((k + tn) % L) = g2 k)) := rfl
      rw [ea] at ih1
      show b_X3_turns_13 p1 p2 k2 (f_X3_turns_13 p1 p2 k2 N) (nI L) (nI tn) _ (nI k) σ = _
      unfold b_X3_turns_13 f_X3_turns_43 f_X3_turns_44
      rw [nIt (n := k) (by omega), nIt (n := L) (by omega), if_pos (show (k : Int) < L by omega), nI_add, pk_rem (by omega) (by omega) (by omega), nIt (n := (k + tn) % L) (by omega), Int.toNat_natCast, Int.toNat_natCast, if_neg (show ¬ (L : Int) = 0 by omega)]
      simp only [Bd]
      rw [nI_1]
      cases hc : alT g g2 L tn k with
      | false =>
        rw [hc, Bool.false_and] at ih1
        exact ih1
      | true =>
        rw [hc, Bool.true_and] at ih1
        rw [if_pos rfl, if_neg i1_ne, if_pos (show 0 ≤ (((k + tn) % L : Nat) : Int) ∧ (((k + tn) % L : Nat) : Int) < al p1 by omega), if_pos (show 0 ≤ (k : Int) ∧ (k : Int) < al p2 by omega), (a1 _ hr).1, (b1 k (by omega)).1]
        have g9 := (a1 _ hr).2
        have g9' := (b1 k (by omega)).2
        by_cases c : g ((k + tn) % L) = g2 k
        · rw [decide_eq_true c] at ih1
          rw [if_pos ((nI_ieq (by omega) (by omega)).mpr c)]
          exact ih1
        · rw [decide_eq_false c] at ih1
          rw [if_neg (fun e => c ((nI_ieq (by omega) (by omega)).mp e))]
          exact ih1
  have loop : ∀ (dd k N : Nat), k + dd = L → dd < N → f_X3_turns_2 p1 p2 N (nI L) (nI k) σ = some (if ffB (fun tn => alT g g2 L tn L) dd k < L then nI (ffB (fun tn => alT g g2 L tn L) dd k) else -2, σ) := by
    intro dd
    induction dd with
    | zero =>
      intro k N hk hN
      obtain ⟨N, rfl⟩ : ∃ q, N = q + 1 := ⟨N - 1, by omega⟩
      show b_X3_turns_2 p1 p2 (f_X3_turns_2 p1 p2 N) (nI L) (nI k) σ = _
      unfold b_X3_turns_2
      rw [nIt (n := k) (by omega), nIt (n := L) (by omega), if_neg (show ¬ (k : Int) < L by omega), if_neg (show ¬ ffB (fun tn => alT g g2 L tn L) 0 k < L from (by show ¬ k < L; omega))]
    | succ dd ih =>
      intro k N hk hN
      obtain ⟨N, rfl⟩ : ∃ q, N = q + 1 := ⟨N - 1, by omega⟩
      have i := inner (f_X3_turns_2 p1 p2 N) k (by omega) L 0 5000 (by omega) (by omega)
      show b_X3_turns_2 p1 p2 (f_X3_turns_2 p1 p2 N) (nI L) (nI k) σ = _
      unfold b_X3_turns_2
      rw [nIt (n := k) (by omega), nIt (n := L) (by omega), if_pos (show (k : Int) < L by omega)]
      rw [nI_0] at i
      refine Eq.trans i ?_
      show _ = some (if (if alT g g2 L k L = true then k else ffB (fun tn => alT g g2 L tn L) dd (k + 1)) < L then nI (if alT g g2 L k L = true then k else ffB (fun tn => alT g g2 L tn L) dd (k + 1)) else -2, σ)
      by_cases c : alT g g2 L k L = true
      · rw [if_pos c, if_pos c, if_pos (show k < L by omega)]
      · rw [if_neg c, if_neg c, ih (k + 1) N (by omega) (by omega)]
  unfold f_X3_turns turS firI
  have := loop L 0 5000 (by omega) (by omega)
  rw [nI_0] at this
  exact this
def tudS (d : DAT) (x y : Int32) : Int32 := if (0 ≤ x.toInt ∧ x.toInt < d.1.2.1) ∧ (0 ≤ y.toInt ∧ y.toInt < d.1.2.1) then (if LnP d x.toInt.toNat = LnP d y.toInt.toNat then turS (gP d x.toInt.toNat) (gP d y.toInt.toNat) (LnP d x.toInt.toNat) else -2) else -1
theorem tudS_in {q : Nat} (hp : p < d.1.2.1) (hq : q < d.1.2.1) (hP : d.1.2.1 ≤ 5) : tudS d (nI p) (nI q) = if LnP d p = LnP d q then turS (gP d p) (gP d q) (LnP d p) else -2 := by
  have e1 : (nI p).toInt = (p : Int) := nIt (by omega)
  have e2 : (nI q).toInt = (q : Int) := nIt (by omega)
  unfold tudS
  rw [e1, e2, if_pos ⟨⟨by omega, by omega⟩, ⟨by omega, by omega⟩⟩, Int.toNat_natCast, Int.toNat_natCast]
theorem q_turned_c (h : RELx n d t u sd ρ k nx H m tb9 G σ) : Ok (f_X11_turned x y σ) (fun r s => r = tudS d x y ∧ frm wQ wl0 σ s) := by
  have hP := h.tc.2.1.2.1
  unfold f_X11_turned
  rw [h.t0]
  refine Ok.t h.tk (Ok.cle (e_hasPattern h.tc.2.1.1 hP) ?_)
  rw [h.t0]
  by_cases c : 0 ≤ x.toInt ∧ x.toInt < d.1.2.1
  · refine Ok.f (fun e => if10.mp e c) (Ok.t h.tk (Ok.cle (e_hasPattern h.tc.2.1.1 hP) ?_))
    rw [h.t0]
    by_cases cq : 0 ≤ y.toInt ∧ y.toInt < d.1.2.1
    · refine Ok.f (fun e => if10.mp e cq) ?_
      obtain ⟨p, hp, rfl⟩ := in_T c (by omega)
      obtain ⟨q, hq, rfl⟩ := in_T cq (by omega)
      obtain ⟨a1, a2, a3⟩ := h.tc.2.1.2.2 p hp
      obtain ⟨b1, b2, b3⟩ := h.tc.2.1.2.2 q hq
      have eL : d.1.2.2.1 p = LnP d p := rfl
      have eM : d.1.2.2.1 q = LnP d q := rfl
      rw [eL] at a1 a2
      rw [eM] at b1 b2
      rw [tudS_in hp hq hP, nIt (n := p) (by omega), nIt (n := q) (by omega), Int.toNat_natCast, Int.toNat_natCast, a1, b1]
      have c5 : 0 ≤ (p : Int) ∧ (p : Int) < 5 := by omega
      have d5 : 0 ≤ (q : Int) ∧ (q : Int) < 5 := by omega
      refine Ok.t h.tk (Ok.t c5 (Ok.bd (Ok.t h.tk (Ok.t d5 ?_))))
      by_cases cl : LnP d p = LnP d q
      · refine Ok.t ((nI_ieq (by omega) (by omega)).mpr cl) (Ok.t h.tk (Ok.t c5 (Ok.t h.tk (Ok.t d5 ?_))))
        rw [if_pos cl]
        have hc2 := h.tc.hc h.tk h.ok hq
        rw [← cl] at hc2
        exact Ok.cle (e_turns (h.tc.hc h.tk h.ok hp) hc2) (Ok.ret ⟨rfl, frm.rf⟩)
      · refine Ok.f (fun e => cl ((nI_ieq (by omega) (by omega)).mp e)) (Ok.ret ⟨?_, frm.rf⟩)
        rw [if_neg cl]
    · exact Ok.t (if10.mpr cq) (Ok.ret ⟨(clo_no (fun e => cq e.2)).symm, frm.rf⟩)
  · exact Ok.t (if10.mpr c) (Ok.ret ⟨(clo_no (fun e => c e.1)).symm, frm.rf⟩)
theorem e_hAt (hM : TM sd d σ) (hD : DOK d) (hp : p < d.1.2.1) {i : Nat} (hi : i ≤ 100000) : f_X12_heightAt (nI p) (nI i) σ = some (nI (gP d p (i % LnP d p)), σ) := by
  have hl := hM.lp hp
  have eL : d.1.2.2.1 p = LnP d p := rfl
  rw [e_heightAt hM hp hi, eL, (gP_of hD hp (Nat.mod_lt _ (by omega))).1]
theorem e_isTurned {q tn : Nat} (hM : TM sd d σ) (hD : DOK d) (hp : p < d.1.2.1) (hq : q < d.1.2.1) (hl : LnP d p = LnP d q) (ht : tn < 8) : f_X12_isTurned (nI p) (nI q) (nI tn) σ = some (if alT (gP d p) (gP d q) (LnP d p) tn (LnP d p) = true then 1 else 0, σ) := by
  have h8 := hM.lp hp
  have eL : d.1.2.2.1 p = LnP d p := rfl
  have loop : ∀ (dd k N : Nat), k + dd = LnP d p → dd < N → alT (gP d p) (gP d q) (LnP d p) tn k = true → f_X12_isTurned_3 N (nI p) (nI q) (nI tn) (nI k) σ = some (if alT (gP d p) (gP d q) (LnP d p) tn (LnP d p) = true then 1 else 0, σ) := by
    intro dd
    induction dd with
    | zero =>
      intro k N hk hN ha
      obtain ⟨N, rfl⟩ : ∃ q, N = q + 1 := ⟨N - 1, by omega⟩
      show b_X12_isTurned_3 (f_X12_isTurned_3 N) (nI p) (nI q) (nI tn) (nI k) σ = _
      unfold b_X12_isTurned_3
      rw [e_lengthOf hM hp, eL]
      simp only [Cl]
      rw [nIt (n := k) (by omega), nIt (n := LnP d p) (by omega), if_neg (show ¬ (k : Int) < LnP d p by omega)]
      rw [show k = LnP d p by omega] at ha
      rw [if_pos ha]
    | succ dd ih =>
      intro k N hk hN ha
      obtain ⟨N, rfl⟩ : ∃ q, N = q + 1 := ⟨N - 1, by omega⟩
      have hr : (k + tn) % LnP d p < LnP d p := Nat.mod_lt _ (by omega)
      have g1 := (gP_of hD hp hr).2
      have g2 := (gP_of hD hq (show k < LnP d q by omega)).2
      have ea : alT (gP d p) (gP d q) (LnP d p) tn (k + 1) = (alT (gP d p) (gP d q) (LnP d p) tn k && decide (gP d p ((k + tn) % LnP d p) = gP d q k)) := rfl
      show b_X12_isTurned_3 (f_X12_isTurned_3 N) (nI p) (nI q) (nI tn) (nI k) σ = _
      unfold b_X12_isTurned_3
      rw [e_lengthOf hM hp, eL]
      simp only [Cl]
      rw [nIt (n := k) (by omega), nIt (n := LnP d p) (by omega), if_pos (show (k : Int) < LnP d p by omega), nI_add, e_hAt hM hD hp (by omega)]
      simp only
      rw [e_hAt hM hD hq (by omega), ← hl, Nat.mod_eq_of_lt (show k < LnP d p by omega)]
      simp only [Bd]
      rw [nI_1]
      by_cases c : gP d p ((k + tn) % LnP d p) = gP d q k
      · rw [if_pos ((nI_ieq (by omega) (by omega)).mpr c)]
        exact ih (k + 1) N (by omega) (by omega) (by rw [ea, ha, decide_eq_true c]; rfl)
      · rw [if_neg (fun e => c ((nI_ieq (by omega) (by omega)).mp e))]
        have : ¬ alT (gP d p) (gP d q) (LnP d p) tn (LnP d p) = true := fun e => by
          have := alT_mono e (show k + 1 ≤ LnP d p by omega)
          rw [ea, decide_eq_false c, Bool.and_false] at this
          exact nomatch this
        rw [if_neg this]
  unfold f_X12_isTurned
  rw [nI0]
  exact loop (LnP d p) 0 5000 (by omega) (by omega) rfl
theorem q_turned_m (h : RELx n d t u sd ρ k nx H m tb9 G σ) : Ok (f_X12_turned x y σ) (fun r s => r = tudS d x y ∧ frm wQ wl0 σ s) := by
  have hM := h.tm
  have hP := hM.2.2.2.1.2.1
  unfold f_X12_turned
  refine Ok.cle (e_isPattern hM.lv hM.2.2.2.1.1 hP) ?_
  by_cases c : 0 ≤ x.toInt ∧ x.toInt < d.1.2.1
  · refine Ok.f (fun e => if10.mp e c) (Ok.cle (e_isPattern hM.lv hM.2.2.2.1.1 hP) ?_)
    by_cases cq : 0 ≤ y.toInt ∧ y.toInt < d.1.2.1
    · refine Ok.f (fun e => if10.mp e cq) ?_
      obtain ⟨p, hp, rfl⟩ := in_T c (by omega)
      obtain ⟨q, hq, rfl⟩ := in_T cq (by omega)
      have hl1 := hM.lp hp
      have hl2 := hM.lp hq
      have eL : d.1.2.2.1 p = LnP d p := rfl
      have eM : d.1.2.2.1 q = LnP d q := rfl
      refine Ok.cle (e_lengthOf hM hp) (Ok.cle (e_lengthOf hM hq) ?_)
      rw [tudS_in hp hq hP, eL, eM]
      by_cases cl : LnP d p = LnP d q
      · refine Ok.t ((nI_ieq (by omega) (by omega)).mpr cl) ?_
        rw [if_pos cl]
        have loop : ∀ (dd k N : Nat), k + dd = LnP d p → dd < N → f_X12_turned_36 N (nI p) (nI q) (nI k) σ = some (if ffB (fun tn => alT (gP d p) (gP d q) (LnP d p) tn (LnP d p)) dd k < LnP d p then nI (ffB (fun tn => alT (gP d p) (gP d q) (LnP d p) tn (LnP d p)) dd k) else -2, σ) := by
          intro dd
          induction dd with
          | zero =>
            intro k N hk hN
            obtain ⟨N, rfl⟩ : ∃ q, N = q + 1 := ⟨N - 1, by omega⟩
            show b_X12_turned_36 (f_X12_turned_36 N) (nI p) (nI q) (nI k) σ = _
            unfold b_X12_turned_36
            rw [e_lengthOf hM hp, eL]
            simp only [Cl]
            rw [nIt (n := k) (by omega), nIt (n := LnP d p) (by omega), if_neg (show ¬ (k : Int) < LnP d p by omega), if_neg (show ¬ ffB (fun tn => alT (gP d p) (gP d q) (LnP d p) tn (LnP d p)) 0 k < LnP d p from (by show ¬ k < LnP d p; omega))]
          | succ dd ih =>
            intro k N hk hN
            obtain ⟨N, rfl⟩ : ∃ q, N = q + 1 := ⟨N - 1, by omega⟩
            show b_X12_turned_36 (f_X12_turned_36 N) (nI p) (nI q) (nI k) σ = _
            unfold b_X12_turned_36
            rw [e_lengthOf hM hp, eL]
            simp only [Cl]
            rw [nIt (n := k) (by omega), nIt (n := LnP d p) (by omega), if_pos (show (k : Int) < LnP d p by omega), e_isTurned hM h.ok hp hq cl (by omega)]
            simp only [Bd]
            rw [nI_1]
            show _ = some (if (if alT (gP d p) (gP d q) (LnP d p) k (LnP d p) = true then k else ffB (fun tn => alT (gP d p) (gP d q) (LnP d p) tn (LnP d p)) dd (k + 1)) < LnP d p then nI (if alT (gP d p) (gP d q) (LnP d p) k (LnP d p) = true then k else ffB (fun tn => alT (gP d p) (gP d q) (LnP d p) tn (LnP d p)) dd (k + 1)) else -2, σ)
            cases c : alT (gP d p) (gP d q) (LnP d p) k (LnP d p) with
            | true =>
              rw [if_pos rfl, if_pos rfl, if_neg i1_ne, if_pos (show k < LnP d p by omega)]
            | false =>
              show (if (0 : Int32).toInt = 0 then f_X12_turned_36 N (nI p) (nI q) (nI (k + 1)) σ else some (nI k, σ)) = some (if ffB (fun tn => alT (gP d p) (gP d q) (LnP d p) tn (LnP d p)) dd (k + 1) < LnP d p then nI (ffB (fun tn => alT (gP d p) (gP d q) (LnP d p) tn (LnP d p)) dd (k + 1)) else -2, σ)
              rw [if_pos i0_eq]
              exact ih (k + 1) N (by omega) (by omega)
        have := loop (LnP d p) 0 5000 (by omega) (by omega)
        rw [nI_0] at this
        refine Ok.of this ?_
        exact ⟨rfl, frm.rf⟩
      · refine Ok.f (fun e => cl ((nI_ieq (by omega) (by omega)).mp e)) (Ok.ret ⟨?_, frm.rf⟩)
        rw [if_neg cl]
    · exact Ok.t (if10.mpr cq) (Ok.ret ⟨(clo_no (fun e => cq e.2)).symm, frm.rf⟩)
  · exact Ok.t (if10.mpr c) (Ok.ret ⟨(clo_no (fun e => c e.1)).symm, frm.rf⟩)
theorem sim_turned : SIM n (f_X11_turned x y) (f_X12_turned x y) := sim_q (fun d t u sd ρ k nx H m tb G σ h => ⟨_, q_turned_c h, fun s hs _ => q_turned_m hs⟩)
end TOS
/-! orbits, swaps -/
section ORS
variable {σ s : HS} {n t u sd k nx m p L : Nat} {ρ : Nat → Int32} {d : DAT} {b : Int} {H G : Nat → Nat → Int32} {tb9 : Nat → Nat} {x y z : Int32} {g g2 : Nat → Nat}
def mkC (g : Nat → Nat) (L : Nat) : Nat → Nat → Int32 → Int32
  | 0, _, x => x
  | dd + 1, a, x => mkC g L dd (atS g L a) (x ||| bitI a)
/-- how many rows, from i on, some beats seen -/
def rnC (g : Nat → Nat) (L : Nat) : Nat → Nat → Int32 → Nat → Nat
  | 0, _, _, c => c
  | dd + 1, i, x, c => if tb x i = true then rnC g L dd (i + 1) x c else rnC g L dd (i + 1) (mkC g L L i x) (c + 1)
theorem e_rounds {p1 : Nat} (h : HC p1 L g σ) : f_X3_rounds p1 (nI L) σ = some (nI (rnC g L L 0 0 0), σ) := by
  obtain ⟨a1, a2, a3, a4⟩ := h
  have inner : ∀ (k7 : Int32 → Int32 → Int32 → Int32 → HS → Option (Int32 × HS)) (c i : Nat), ∀ (dd k N a : Nat) (x : Int32), k + dd = L → dd < N → a < L → f_X3_rounds_32 p1 k7 N (nI L) x (nI c) (nI i) (nI a) (nI k) σ = k7 (nI L) (mkC g L dd a x) (nI c) (nI (i + 1)) σ := by
    intro k7 c i dd
    induction dd with
    | zero =>
      intro k N a x hk hN ha
      obtain ⟨N, rfl⟩ : ∃ q, N = q + 1 := ⟨N - 1, by omega⟩
      obtain rfl : k = L := by omega
      show b_X3_rounds_32 p1 k7 (f_X3_rounds_32 p1 k7 N) (nI k) x (nI c) (nI i) (nI a) (nI k) σ = _
      unfold b_X3_rounds_32 f_X3_rounds_62
      rw [if_neg (Int.lt_irrefl _)]
      simp only [Bd]
      rw [nI_1]; rfl
    | succ dd ih =>
      intro k N a x hk hN ha
      obtain ⟨N, rfl⟩ : ∃ q, N = q + 1 := ⟨N - 1, by omega⟩
      have hg := a1 a ha
      show b_X3_rounds_32 p1 k7 (f_X3_rounds_32 p1 k7 N) (nI L) x (nI c) (nI i) (nI a) (nI k) σ = _
      unfold b_X3_rounds_32
      rw [nIt (n := k) (by omega), nIt (n := L) (by omega), nIt (n := a) (by omega), if_pos (show (k : Int) < L by omega)]
      simp only [Bd]
      rw [if_pos (show 0 ≤ (a : Int) ∧ (a : Int) < al p1 by omega), if_neg (show ¬ (L : Int) = 0 by omega), Int.toNat_natCast, hg.1, at_rem (by omega) hg.2 ⟨a2, a3⟩, nI_1]
      exact ih (k + 1) N (atS g L a) _ (by omega) (by omega) (at_lt ⟨a2, a3⟩).2
  have loop : ∀ (dd k N c : Nat) (x : Int32), k + dd = L → dd < N → f_X3_rounds_7 p1 N (nI L) x (nI c) (nI k) σ = some (nI (rnC g L dd k x c), σ) := by
    intro dd
    induction dd with
    | zero =>
      intro k N c x hk hN
      obtain ⟨N, rfl⟩ : ∃ q, N = q + 1 := ⟨N - 1, by omega⟩
      obtain rfl : k = L := by omega
      show b_X3_rounds_7 p1 (f_X3_rounds_7 p1 N) (nI k) x (nI c) (nI k) σ = _
      unfold b_X3_rounds_7
      rw [if_neg (Int.lt_irrefl _)]; rfl
    | succ dd ih =>
      intro k N c x hk hN
      obtain ⟨N, rfl⟩ : ∃ q, N = q + 1 := ⟨N - 1, by omega⟩
      show b_X3_rounds_7 p1 (f_X3_rounds_7 p1 N) (nI L) x (nI c) (nI k) σ = _
      unfold b_X3_rounds_7 f_X3_rounds_62
      rw [nIt (n := k) (by omega), nIt (n := L) (by omega), if_pos (show (k : Int) < L by omega)]
      simp only [Bd]
      rw [nI_1, nI_1]
      have er : rnC g L (dd + 1) k x c = if tb x k = true then rnC g L dd (k + 1) x c else rnC g L dd (k + 1) (mkC g L L k x) (c + 1) := rfl
      by_cases ct : tb x k = true
      · rw [if_neg (fun e => by rw [(tb_sh0 (by omega)).mp e] at ct; exact nomatch ct), er, if_pos ct]
        exact ih (k + 1) N c x (by omega) (by omega)
      · rw [if_pos ((tb_sh0 (by omega)).mpr (Bool.eq_false_iff.mpr ct)), er, if_neg ct, ← ih (k + 1) N (c + 1) _ (by omega) (by omega)]
        have := inner (f_X3_rounds_7 p1 N) (c + 1) k L 0 5000 k x (by omega) (by omega) (by omega)
        rw [nI_0] at this
        exact this
  unfold f_X3_rounds
  have := loop L 0 5000 0 0 (by omega) (by omega)
  rw [nI_0] at this
  exact this
/-! the reference marks until it comes to what was seen -/
def unSn (L : Nat) (x : Int32) : Nat := cntB (fun a => !tb x a) L
def CEs (g : Nat → Nat) (L : Nat) (x : Int32) (a : Nat) : Prop := ∀ y, y < L → tb x y = true → tb x (atS g L y) = true ∨ atS g L y = a
def CLs (g : Nat → Nat) (L : Nat) (x : Int32) : Prop := ∀ y, y < L → tb x y = true → tb x (atS g L y) = true
theorem un_mark {a : Nat} (hL : L ≤ 16) (ha : a < L) (h : tb x a = false) : unSn L (x ||| bitI a) + 1 = unSn L x := by
  unfold unSn
  refine cnt_del (a := a) ha (fun e he hn => ?_) (by rw [h]; rfl) ?_
  · rw [tb_or (by omega) (by omega), decide_eq_false hn, Bool.or_false]
  · rw [tb_or (by omega) (by omega), decide_eq_true rfl, Bool.or_true]; rfl
theorem un_pos {a : Nat} (hL : L ≤ 16) (ha : a < L) (h : tb x a = false) : 1 ≤ unSn L x := by
  have := un_mark hL ha h
  omega
theorem mkC_closed (hL : 1 ≤ L ∧ L ≤ 16) (hc : CLs g L x) : ∀ {dd a : Nat}, a < L → tb x a = true → mkC g L dd a x = x := by
  intro dd
  induction dd with
  | zero => intro a _ _; rfl
  | succ dd ih =>
    intro a ha ht
    show mkC g L dd (atS g L a) (x ||| bitI a) = x
    rw [tb_set (by omega) ht]
    exact ih (at_lt hL).2 (hc a ha ht)
theorem orb_57 {k28 : Int32 → Int32 → Int32 → HS → Option (Int32 × HS)} (h : HM L g σ) {c i : Nat} : ∀ (un N a : Nat) (x : Int32), unSn L x = un → un < N → a < L → CEs g L x a → ∃ x', f_X12_orbits_57 k28 N x (nI c) (nI i) (nI a) σ = f_X12_orbits_93 k28 x' (nI c) (nI i) σ ∧ CLs g L x' ∧ ∀ dd, un ≤ dd → mkC g L dd a x = x' := by
  obtain ⟨a1, a2, a3, a4⟩ := h
  intro un
  induction un with
  | zero =>
    intro N a x hu hN ha hce
    obtain ⟨N, rfl⟩ : ∃ q, N = q + 1 := ⟨N - 1, by omega⟩
    have ht : tb x a = true := by
      cases e : tb x a with
      | true => rfl
      | false => have := un_pos a3 ha e; omega
    have hcl : CLs g L x := fun y hy hty => (hce y hy hty).elim id (fun e => by rw [e]; exact ht)
    refine ⟨x, ?_, hcl, fun dd _ => mkC_closed ⟨a2, a3⟩ hcl ha ht⟩
    show b_X12_orbits_57 k28 (f_X12_orbits_57 k28 N) x (nI c) (nI i) (nI a) σ = _
    unfold b_X12_orbits_57
    rw [if_neg (fun e => by rw [(tb_sh0 (by omega)).mp e] at ht; exact nomatch ht)]
  | succ un ih =>
    intro N a x hu hN ha hce
    obtain ⟨N, rfl⟩ : ∃ q, N = q + 1 := ⟨N - 1, by omega⟩
    have eb : f_X12_orbits_57 k28 (N + 1) x (nI c) (nI i) (nI a) σ = b_X12_orbits_57 k28 (f_X12_orbits_57 k28 N) x (nI c) (nI i) (nI a) σ := rfl
    cases ht : tb x a with
    | true =>
      have hcl : CLs g L x := fun y hy hty => (hce y hy hty).elim id (fun e => by rw [e]; exact ht)
      refine ⟨x, ?_, hcl, fun dd _ => mkC_closed ⟨a2, a3⟩ hcl ha ht⟩
      rw [eb]
      unfold b_X12_orbits_57
      rw [if_neg (fun e => by rw [(tb_sh0 (by omega)).mp e] at ht; exact nomatch ht)]
    | false =>
      have um := un_mark a3 ha ht
      have hg := a1 a ha
      have hat := at_lt (g := g) (i := a) (L := L) ⟨a2, a3⟩
      obtain ⟨x', e1, e2, e3⟩ := ih N (atS g L a) (x ||| bitI a) (by omega) (by omega) hat.2 (fun y hy hty => by
        rw [tb_or (by omega) (by omega)] at hty
        rw [tb_or (by omega) (at_lt ⟨a2, a3⟩).1]
        by_cases ey : y = a
        · subst ey; exact Or.inr rfl
        · rw [decide_eq_false ey, Bool.or_false] at hty
          rcases hce y hy hty with e | e
          · exact Or.inl (by rw [e]; rfl)
          · exact Or.inl (by rw [e, decide_eq_true rfl, Bool.or_true]))
      refine ⟨x', ?_, e2, fun dd hdd => ?_⟩
      · rw [eb, ← e1]
        unfold b_X12_orbits_57
        rw [if_pos ((tb_sh0 (by omega)).mpr ht)]
        simp only [Bd]
        rw [a4, nIt (n := a) (by omega), nIt (n := L) (by omega), if_pos (show 0 ≤ (a : Int) ∧ (a : Int) < 16 by omega), if_neg (show ¬ (L : Int) = 0 by omega), Int.toNat_natCast, hg.1, at_rem (by omega) hg.2 ⟨a2, a3⟩]; rfl
      · obtain ⟨dd, rfl⟩ : ∃ q, dd = q + 1 := ⟨dd - 1, by omega⟩
        exact e3 dd (by omega)
theorem un_le : unSn L x ≤ L := cntB_le
theorem e_orbits28 (h : HM L g σ) : ∀ (dd i N c : Nat) (x : Int32), i + dd = L → dd < N → CLs g L x → f_X12_orbits_28 N x (nI c) (nI i) σ = some (nI (rnC g L dd i x c), σ) := by
  have h' := h
  obtain ⟨a1, a2, a3, a4⟩ := h
  intro dd
  induction dd with
  | zero =>
    intro i N c x hi hN _
    obtain ⟨N, rfl⟩ : ∃ q, N = q + 1 := ⟨N - 1, by omega⟩
    show b_X12_orbits_28 (f_X12_orbits_28 N) x (nI c) (nI i) σ = _
    unfold b_X12_orbits_28
    rw [a4, nIt (n := i) (by omega), nIt (n := L) (by omega), if_neg (show ¬ (i : Int) < L by omega)]; rfl
  | succ dd ih =>
    intro i N c x hi hN hcl
    obtain ⟨N, rfl⟩ : ∃ q, N = q + 1 := ⟨N - 1, by omega⟩
    have er : rnC g L (dd + 1) i x c = if tb x i = true then rnC g L dd (i + 1) x c else rnC g L dd (i + 1) (mkC g L L i x) (c + 1) := rfl
    show b_X12_orbits_28 (f_X12_orbits_28 N) x (nI c) (nI i) σ = _
    unfold b_X12_orbits_28
    rw [a4, nIt (n := i) (by omega), nIt (n := L) (by omega), if_pos (show (i : Int) < L by omega), er]
    by_cases ct : tb x i = true
    · rw [if_pos ((tb_sh1 (by omega)).mpr ct), if_pos ct]
      unfold f_X12_orbits_93
      simp only [Bd]
      rw [nI_1]
      exact ih (i + 1) N c x (by omega) (by omega) hcl
    · rw [if_neg (fun e => ct ((tb_sh1 (by omega)).mp e)), if_neg ct]
      simp only [Bd]
      rw [nI_1]
      have ul := un_le (L := L) (x := x)
      obtain ⟨x', e1, e2, e3⟩ := orb_57 (k28 := f_X12_orbits_28 N) h' (c := c + 1) (i := i) (unSn L x) 5000 i x rfl (by omega) (by omega) (fun y hy hty => Or.inl (hcl y hy hty))
      rw [e1, e3 L ul]
      unfold f_X12_orbits_93
      simp only [Bd]
      rw [nI_1]
      exact ih (i + 1) N (c + 1) x' (by omega) (by omega) e2
def orbS (d : DAT) (x : Int32) : Int32 := if 0 ≤ x.toInt ∧ x.toInt < d.1.2.1 then (if clS (gP d x.toInt.toNat) (LnP d x.toInt.toNat) = true then nI (rnC (gP d x.toInt.toNat) (LnP d x.toInt.toNat) (LnP d x.toInt.toNat) 0 0 0) else -2) else -1
theorem orbS_in (hp : p < d.1.2.1) (hP : d.1.2.1 ≤ 5) : orbS d (nI p) = if clS (gP d p) (LnP d p) = true then nI (rnC (gP d p) (LnP d p) (LnP d p) 0 0 0) else -2 := by
  have e1 : (nI p).toInt = (p : Int) := nIt (by omega)
  unfold orbS
  rw [e1, if_pos ⟨by omega, by omega⟩, Int.toNat_natCast]
theorem q_orbits_c (h : RELx n d t u sd ρ k nx H m tb9 G σ) : Ok (f_X11_orbits x σ) (fun r s => r = orbS d x ∧ frm wQ wl0 σ s) := by
  have hP := h.tc.2.1.2.1
  unfold f_X11_orbits
  rw [h.t0]
  refine Ok.t h.tk (Ok.cle (e_hasPattern h.tc.2.1.1 hP) ?_)
  rw [h.t0]
  by_cases c : 0 ≤ x.toInt ∧ x.toInt < d.1.2.1
  · refine Ok.f (fun e => if10.mp e c) ?_
    obtain ⟨p, hp, rfl⟩ := in_T c (by omega)
    obtain ⟨q1, q2, q3⟩ := h.tc.2.1.2.2 p hp
    have eL : d.1.2.2.1 p = LnP d p := rfl
    have hc := h.tc.hc h.tk h.ok hp
    rw [orbS_in hp hP, nIt (n := p) (by omega), Int.toNat_natCast, q1, eL]
    have c5 : 0 ≤ (p : Int) ∧ (p : Int) < 5 := by omega
    refine Ok.t h.tk (Ok.t c5 (Ok.t h.tk (Ok.t c5 (Ok.bd (Ok.cle (e_close hc) ?_)))))
    cases cc : clS (gP d p) (LnP d p) with
    | true => exact Ok.f i1_ne (Ok.cle (e_rounds hc) (Ok.ret ⟨rfl, frm.rf⟩))
    | false => exact Ok.t i0_eq (Ok.ret ⟨rfl, frm.rf⟩)
  · exact Ok.t (if10.mpr c) (Ok.ret ⟨(clo_no c).symm, frm.rf⟩)
theorem q_orbits_m (h : RELx n d t u sd ρ k nx H m tb9 G σ) : Ok (f_X12_orbits x σ) (fun r s => r = orbS d x ∧ frm wQ wl0 σ s) := by
  have hM := h.tm
  have hP := hM.2.2.2.1.2.1
  unfold f_X12_orbits
  refine Ok.cle (e_isPattern hM.lv hM.2.2.2.1.1 hP) ?_
  by_cases c : 0 ≤ x.toInt ∧ x.toInt < d.1.2.1
  · refine Ok.f (fun e => if10.mp e c) ?_
    obtain ⟨p, hp, rfl⟩ := in_T c (by omega)
    have hl := hM.lp hp
    rw [orbS_in hp hP]
    refine Ok.cl (w_keepsOf hM h.ok hp) (fun r s3 h3 => ?_)
    obtain ⟨rfl, hm, f3⟩ := h3
    rcases kep_rg (g := gP d p) (L := LnP d p) (fun i hi => (gP_of h.ok hp hi).2) (by omega) with ⟨e1, e2⟩ | ⟨e1, e2, e3⟩
    · rw [e1]
      refine Ok.t (by decide) (Ok.ret ⟨?_, f3.sub tp_wQ⟩)
      rw [e2]; rfl
    · rw [e2]
      refine Ok.f (by rw [nIt (by omega)]; exact Int.not_lt.mpr (Int.natCast_nonneg _)) ?_
      have := e_orbits28 hm (LnP d p) 0 5000 0 0 (by omega) (by omega) (fun y hy hty => by rw [tb_0] at hty; exact nomatch hty)
      rw [nI_0] at this
      refine Ok.of this ⟨?_, f3.sub tp_wQ⟩
      rw [e1]; rfl
  · exact Ok.t (if10.mpr c) (Ok.ret ⟨(clo_no c).symm, frm.rf⟩)
theorem sim_orbits : SIM n (f_X11_orbits x) (f_X12_orbits x) := sim_q (fun d t u sd ρ k nx H m tb G σ h => ⟨_, q_orbits_c h, fun s hs _ => q_orbits_m hs⟩)
/-! pairs -/
def swC (g : Nat → Nat) (i j : Nat) : Bool := decide (g j + j - i ≤ 9) && decide (j - i ≤ g i)
def sw1 (c : Nat → Nat → Bool) : Nat → Nat
  | 0 => 0
  | L + 1 => sw1 c L + cntB (fun i => c i L) L
def cntR (p : Nat → Bool) : Nat → Nat → Nat
  | 0, _ => 0
  | dd + 1, e => (if p e = true then 1 else 0) + cntR p dd (e + 1)
def sw2 (c : Nat → Nat → Bool) (L : Nat) : Nat → Nat
  | 0 => 0
  | n + 1 => sw2 c L n + cntR (c n) (L - (n + 1)) (n + 1)
theorem cntR_succ {p : Nat → Bool} : ∀ {dd e : Nat}, cntR p (dd + 1) e = cntR p dd e + if p (e + dd) = true then 1 else 0 := by
  intro dd
  induction dd with
  | zero => intro e; show (if p e = true then 1 else 0) + 0 = 0 + _; rw [Nat.add_zero, Nat.zero_add]; rfl
  | succ dd ih =>
    intro e
    show (if p e = true then 1 else 0) + cntR p (dd + 1) (e + 1) = (if p e = true then 1 else 0) + cntR p dd (e + 1) + _
    rw [ih, show e + 1 + dd = e + (dd + 1) by omega, Nat.add_assoc]
theorem sw2_succ {c : Nat → Nat → Bool} {L : Nat} : ∀ {n : Nat}, n ≤ L → sw2 c (L + 1) n = sw2 c L n + cntB (fun i => c i L) n := by
  intro n
  induction n with
  | zero => intro _; rfl
  | succ n ih =>
    intro hn
    show sw2 c (L + 1) n + cntR (c n) (L + 1 - (n + 1)) (n + 1) = sw2 c L n + cntR (c n) (L - (n + 1)) (n + 1) + (if c n L = true then cntB (fun i => c i L) n + 1 else cntB (fun i => c i L) n)
    rw [ih (by omega), show L + 1 - (n + 1) = L - (n + 1) + 1 by omega, cntR_succ, show n + 1 + (L - (n + 1)) = L by omega]
    split <;> omega
theorem sw_eq {c : Nat → Nat → Bool} : ∀ {L : Nat}, sw2 c L L = sw1 c L := by
  intro L
  induction L with
  | zero => rfl
  | succ L ih =>
    show sw2 c (L + 1) L + cntR (c L) (L + 1 - (L + 1)) (L + 1) = sw1 c L + cntB (fun i => c i L) L
    rw [sw2_succ (Nat.le_refl _), ih, Nat.sub_self]; rfl
theorem sw_c1 {i j : Nat} (hij : i ≤ j) (hj : j < 16) (hg : g j ≤ 9) : ((nI (g j) + nI j) - nI i) = nI (g j + j - i) := by rw [nI_add, nI_sub (by omega) (by omega)]
theorem e_pairs {p1 : Nat} (h : HC p1 L g σ) : f_X3_pairsToSwap p1 (nI L) σ = some (nI (sw1 (swC g) L), σ) := by
  obtain ⟨a1, a2, a3, a4⟩ := h
  have inner : ∀ (k4 : Int32 → Int32 → Int32 → HS → Option (Int32 × HS)) (j : Nat), j < L → ∀ (dd k N c : Nat), k + dd = j → dd < N → f_X3_pairsToSwap_12 p1 k4 N (nI L) (nI (c + cntB (fun i => swC g i j) k)) (nI j) (nI k) σ = k4 (nI L) (nI (c + cntB (fun i => swC g i j) j)) (nI (j + 1)) σ := by
    intro k4 j hj dd
    induction dd with
    | zero =>
      intro k N c hk hN
      obtain ⟨N, rfl⟩ : ∃ q, N = q + 1 := ⟨N - 1, by omega⟩
      obtain rfl : k = j := by omega
      show b_X3_pairsToSwap_12 p1 k4 (f_X3_pairsToSwap_12 p1 k4 N) (nI L) _ (nI k) (nI k) σ = _
      unfold b_X3_pairsToSwap_12
      rw [if_neg (Int.lt_irrefl _)]
      simp only [Bd]
      rw [nI_1]
    | succ dd ih =>
      intro k N c hk hN
      obtain ⟨N, rfl⟩ : ∃ q, N = q + 1 := ⟨N - 1, by omega⟩
      have hg := a1 j hj
      have hgk := a1 k (by omega)
      have ih1 := ih (k + 1) N c (by omega) (by omega)
      have ec : cntB (fun i => swC g i j) (k + 1) = if swC g k j = true then cntB (fun i => swC g i j) k + 1 else cntB (fun i => swC g i j) k := rfl
      rw [ec] at ih1
      show b_X3_pairsToSwap_12 p1 k4 (f_X3_pairsToSwap_12 p1 k4 N) (nI L) _ (nI j) (nI k) σ = _
      unfold b_X3_pairsToSwap_12 f_X3_pairsToSwap_50
      rw [nIt (n := k) (by omega), nIt (n := j) (by omega), if_pos (show (k : Int) < j by omega), if_pos (show 0 ≤ (j : Int) ∧ (j : Int) < al p1 by omega), Int.toNat_natCast, Int.toNat_natCast, hg.1, sw_c1 (by omega) (by omega) hg.2, e_isHeight]
      simp only [Cl, Bd]
      rw [nI_1, nI_1, nIt (n := g j + j - k) (by omega)]
      by_cases c1 : g j + j - k ≤ 9
      · rw [if_neg (fun e => if10.mp e (show 0 ≤ ((g j + j - k : Nat) : Int) ∧ ((g j + j - k : Nat) : Int) ≤ 9 by omega)), if_pos (show 0 ≤ (k : Int) ∧ (k : Int) < al p1 by omega), hgk.1, nI_sub (by omega) (by omega), e_isHeight]
        simp only
        have ev : (nI (g k) - nI (j - k)).toInt = (g k : Int) - ((j - k : Nat) : Int) := by rw [i32_sub (by rw [nIt (by omega), nIt (by omega)]; omega), nIt (by omega), nIt (by omega)]
        rw [ev]
        clear ev
        by_cases c2 : j - k ≤ g k
        · rw [if_neg (fun e => if10.mp e (show 0 ≤ (g k : Int) - ((j - k : Nat) : Int) ∧ (g k : Int) - ((j - k : Nat) : Int) ≤ 9 by omega))]
          have es : swC g k j = true := by unfold swC; rw [decide_eq_true c1, decide_eq_true c2]; rfl
          rw [if_pos es] at ih1
          exact ih1
        · rw [if_pos (if10.mpr (show ¬ (0 ≤ (g k : Int) - ((j - k : Nat) : Int) ∧ (g k : Int) - ((j - k : Nat) : Int) ≤ 9) by omega))]
          have es : ¬ swC g k j = true := by unfold swC; rw [decide_eq_false c2, Bool.and_false]; decide
          rw [if_neg es] at ih1
          exact ih1
      · rw [if_pos (if10.mpr (show ¬ (0 ≤ ((g j + j - k : Nat) : Int) ∧ ((g j + j - k : Nat) : Int) ≤ 9) by omega))]
        have es : ¬ swC g k j = true := by unfold swC; rw [decide_eq_false c1, Bool.false_and]; decide
        rw [if_neg es] at ih1
        exact ih1
  have loop : ∀ (dd k N : Nat), k + dd = L → dd < N → f_X3_pairsToSwap_4 p1 N (nI L) (nI (sw1 (swC g) k)) (nI k) σ = some (nI (sw1 (swC g) L), σ) := by
    intro dd
    induction dd with
    | zero =>
      intro k N hk hN
      obtain ⟨N, rfl⟩ : ∃ q, N = q + 1 := ⟨N - 1, by omega⟩
      obtain rfl : k = L := by omega
      show b_X3_pairsToSwap_4 p1 (f_X3_pairsToSwap_4 p1 N) (nI k) _ (nI k) σ = _
      unfold b_X3_pairsToSwap_4
      rw [if_neg (Int.lt_irrefl _)]
    | succ dd ih =>
      intro k N hk hN
      obtain ⟨N, rfl⟩ : ∃ q, N = q + 1 := ⟨N - 1, by omega⟩
      show b_X3_pairsToSwap_4 p1 (f_X3_pairsToSwap_4 p1 N) (nI L) _ (nI k) σ = _
      unfold b_X3_pairsToSwap_4
      rw [nIt (n := k) (by omega), nIt (n := L) (by omega), if_pos (show (k : Int) < L by omega), ← ih (k + 1) N (by omega) (by omega)]
      have := inner (f_X3_pairsToSwap_4 p1 N) k (by omega) k 0 5000 (sw1 (swC g) k) (by omega) (by omega)
      rw [nI_0] at this
      exact this
  unfold f_X3_pairsToSwap
  exact loop (L - 1) 1 5000 (by omega) (by omega)
def swaS (d : DAT) (x : Int32) : Int32 := if 0 ≤ x.toInt ∧ x.toInt < d.1.2.1 then nI (sw1 (swC (gP d x.toInt.toNat)) (LnP d x.toInt.toNat)) else -1
theorem swaS_in (hp : p < d.1.2.1) (hP : d.1.2.1 ≤ 5) : swaS d (nI p) = nI (sw1 (swC (gP d p)) (LnP d p)) := by
  have e1 : (nI p).toInt = (p : Int) := nIt (by omega)
  unfold swaS
  rw [e1, if_pos ⟨by omega, by omega⟩, Int.toNat_natCast]
theorem q_swaps_c (h : RELx n d t u sd ρ k nx H m tb9 G σ) : Ok (f_X11_swaps x σ) (fun r s => r = swaS d x ∧ frm wQ wl0 σ s) := by
  have hP := h.tc.2.1.2.1
  unfold f_X11_swaps
  rw [h.t0]
  refine Ok.t h.tk (Ok.cle (e_hasPattern h.tc.2.1.1 hP) ?_)
  rw [h.t0]
  by_cases c : 0 ≤ x.toInt ∧ x.toInt < d.1.2.1
  · refine Ok.f (fun e => if10.mp e c) ?_
    obtain ⟨p, hp, rfl⟩ := in_T c (by omega)
    obtain ⟨q1, q2, q3⟩ := h.tc.2.1.2.2 p hp
    rw [swaS_in hp hP, nIt (n := p) (by omega), Int.toNat_natCast, q1]
    have c5 : 0 ≤ (p : Int) ∧ (p : Int) < 5 := by omega
    exact Ok.t h.tk (Ok.t c5 (Ok.t h.tk (Ok.t c5 (Ok.cle (e_pairs (h.tc.hc h.tk h.ok hp)) (Ok.ret ⟨rfl, frm.rf⟩)))))
  · exact Ok.t (if10.mpr c) (Ok.ret ⟨(clo_no c).symm, frm.rf⟩)
theorem q_swaps_m (h : RELx n d t u sd ρ k nx H m tb9 G σ) : Ok (f_X12_swaps x σ) (fun r s => r = swaS d x ∧ frm wQ wl0 σ s) := by
  have hM := h.tm
  have hP := hM.2.2.2.1.2.1
  unfold f_X12_swaps
  refine Ok.cle (e_isPattern hM.lv hM.2.2.2.1.1 hP) ?_
  by_cases c : 0 ≤ x.toInt ∧ x.toInt < d.1.2.1
  · refine Ok.f (fun e => if10.mp e c) ?_
    obtain ⟨p, hp, rfl⟩ := in_T c (by omega)
    have hl := hM.lp hp
    have eL : d.1.2.2.1 p = LnP d p := rfl
    have e9 : (9 : Int32).toInt = 9 := rfl
    have hgs := fun i (hi : i < LnP d p) => (gP_of h.ok hp hi).2
    rw [swaS_in hp hP, ← sw_eq]
    generalize hL : LnP d p = L at hl eL hgs
    have eA : ∀ i, i < L → f_X12_heightAt (nI p) (nI i) σ = some (nI (gP d p i), σ) := fun i hi => by
      rw [e_hAt hM h.ok hp (by omega), hL, Nat.mod_eq_of_lt hi]
    have inner : ∀ (k14 : Int32 → Int32 → Int32 → HS → Option (Int32 × HS)) (i : Nat), i < L → ∀ (dd k N c : Nat), k + dd = L → i < k → dd < N → f_X12_swaps_28 k14 N (nI p) (nI c) (nI i) (nI k) σ = k14 (nI p) (nI (c + cntR (swC (gP d p) i) dd k)) (nI (i + 1)) σ := by
      intro k14 i hi dd
      induction dd with
      | zero =>
        intro k N c hk hik hN
        obtain ⟨N, rfl⟩ : ∃ q, N = q + 1 := ⟨N - 1, by omega⟩
        show b_X12_swaps_28 k14 (f_X12_swaps_28 k14 N) (nI p) (nI c) (nI i) (nI k) σ = _
        unfold b_X12_swaps_28
        rw [e_lengthOf hM hp, eL]
        simp only [Cl]
        rw [nIt (n := k) (by omega), nIt (n := L) (by omega), if_neg (show ¬ (k : Int) < L by omega)]
        simp only [Bd]
        rw [nI_1]; rfl
      | succ dd ih =>
        intro k N c hk hik hN
        obtain ⟨N, rfl⟩ : ∃ q, N = q + 1 := ⟨N - 1, by omega⟩
        have hgi := hgs i hi
        have hgk := hgs k (by omega)
        have er : cntR (swC (gP d p) i) (dd + 1) k = (if swC (gP d p) i k = true then 1 else 0) + cntR (swC (gP d p) i) dd (k + 1) := rfl
        show b_X12_swaps_28 k14 (f_X12_swaps_28 k14 N) (nI p) (nI c) (nI i) (nI k) σ = _
        unfold b_X12_swaps_28 f_X12_swaps_82
        rw [e_lengthOf hM hp, eL]
        simp only [Cl]
        rw [nIt (n := k) (by omega), nIt (n := L) (by omega), if_pos (show (k : Int) < L by omega), eA k (by omega)]
        simp only [Bd]
        rw [nI_1, nI_1, sw_c1 (by omega) (by omega) hgk, e_in, i0_eq, e9, nIt (n := gP d p k + k - i) (by omega), er]
        simp only
        by_cases c1 : gP d p k + k - i ≤ 9
        · rw [if_neg (fun e => if10.mp e (show 0 ≤ ((gP d p k + k - i : Nat) : Int) ∧ ((gP d p k + k - i : Nat) : Int) ≤ 9 by omega)), eA i hi]
          simp only
          rw [e_in, i0_eq, e9]
          have e1 : (nI (gP d p i) - nI k).toInt = (gP d p i : Int) - (k : Int) := by rw [i32_sub (by rw [nIt (by omega), nIt (by omega)]; omega), nIt (by omega), nIt (by omega)]
          have ev : ((nI (gP d p i) - nI k) + nI i).toInt = (gP d p i : Int) - (k : Int) + (i : Int) := by rw [i32_add (by rw [e1, nIt (by omega)]; omega), e1, nIt (by omega)]
          rw [ev]
          clear ev e1
          simp only
          by_cases c2 : k - i ≤ gP d p i
          · rw [if_neg (fun e => if10.mp e (show 0 ≤ (gP d p i : Int) - (k : Int) + (i : Int) ∧ (gP d p i : Int) - (k : Int) + (i : Int) ≤ 9 by omega))]
            have es : swC (gP d p) i k = true := by unfold swC; rw [decide_eq_true c1, decide_eq_true c2]; rfl
            rw [if_pos es, ← Nat.add_assoc]
            exact ih (k + 1) N (c + 1) (by omega) (by omega) (by omega)
          · rw [if_pos (if10.mpr (show ¬ (0 ≤ (gP d p i : Int) - (k : Int) + (i : Int) ∧ (gP d p i : Int) - (k : Int) + (i : Int) ≤ 9) by omega))]
            have es : ¬ swC (gP d p) i k = true := by unfold swC; rw [decide_eq_false c2, Bool.and_false]; decide
            rw [if_neg es, Nat.zero_add]
            exact ih (k + 1) N c (by omega) (by omega) (by omega)
        · rw [if_pos (if10.mpr (show ¬ (0 ≤ ((gP d p k + k - i : Nat) : Int) ∧ ((gP d p k + k - i : Nat) : Int) ≤ 9) by omega))]
          have es : ¬ swC (gP d p) i k = true := by unfold swC; rw [decide_eq_false c1, Bool.false_and]; decide
          rw [if_neg es, Nat.zero_add]
          exact ih (k + 1) N c (by omega) (by omega) (by omega)
    have loop : ∀ (dd i N : Nat), i + dd = L → dd < N → f_X12_swaps_14 N (nI p) (nI (sw2 (swC (gP d p)) L i)) (nI i) σ = some (nI (sw2 (swC (gP d p)) L L), σ) := by
      intro dd
      induction dd with
      | zero =>
        intro i N hk hN
        obtain ⟨N, rfl⟩ : ∃ q, N = q + 1 := ⟨N - 1, by omega⟩
        show b_X12_swaps_14 (f_X12_swaps_14 N) (nI p) _ (nI i) σ = _
        unfold b_X12_swaps_14
        rw [e_lengthOf hM hp, eL]
        simp only [Cl]
        rw [nIt (n := i) (by omega), nIt (n := L) (by omega), if_neg (show ¬ (i : Int) < L by omega)]
        obtain rfl : i = L := by omega
        rfl
      | succ dd ih =>
        intro i N hk hN
        obtain ⟨N, rfl⟩ : ∃ q, N = q + 1 := ⟨N - 1, by omega⟩
        show b_X12_swaps_14 (f_X12_swaps_14 N) (nI p) _ (nI i) σ = _
        unfold b_X12_swaps_14
        rw [e_lengthOf hM hp, eL]
        simp only [Cl]
        rw [nIt (n := i) (by omega), nIt (n := L) (by omega), if_pos (show (i : Int) < L by omega)]
        simp only [Bd]
        rw [nI_1, inner (f_X12_swaps_14 N) i (by omega) (L - (i + 1)) (i + 1) 5000 _ (by omega) (by omega) (by omega)]
        exact ih (i + 1) N (by omega) (by omega)
    have := loop L 0 5000 (by omega) (by omega)
    rw [show nI (sw2 (swC (gP d p)) L 0) = 0 from nI_0, nI_0] at this
    refine Ok.of this ?_
    exact ⟨rfl, frm.rf⟩
  · exact Ok.t (if10.mpr c) (Ok.ret ⟨(clo_no c).symm, frm.rf⟩)
theorem sim_swaps : SIM n (f_X11_swaps x) (f_X12_swaps x) := sim_q (fun d t u sd ρ k nx H m tb G σ h => ⟨_, q_swaps_c h, fun s hs _ => q_swaps_m hs⟩)
end ORS
/-! what would be: gap, clash, inHand, lands -/
section WOULD
variable {σ s : HS} {n t u sd k nx m p L T : Nat} {ρ : Nat → Int32} {d : DAT} {b : Int} {H G : Nat → Nat → Int32} {tb9 : Nat → Nat} {x y z : Int32}
theorem a60 : aAi 60 := ⟨by decide, by decide⟩
theorem cp_wQ (i k : Nat) (h : wCp i k = true) : wQ i k = true := go_wQ i k (by unfold wGoM; rw [h]; rfl)
theorem bm_wQ (i k : Nat) (h : wBm i k = true) : wQ i k = true := go_wQ i k (by unfold wGoM; rw [h, Bool.or_true])
theorem ai_wQ (i k : Nat) (h : wAi 60 i k = true) : wQ i k = true := bt_wQ i k (by unfold wBt; rw [h]; rfl)
theorem RELx.n0 (h : RELx n d t u sd ρ k nx H m tb9 G σ) (hn : n ≤ 512) : RW d 30720 ρ := h.rw.mono (by omega)
/-- a trial of the class, k beats on -/
def TRc (d : DAT) (ρ : Nat → Int32) (σ : HS) (k : Nat) (s : HS) : Prop := AR 60 d.1.1.1 (itS d none k ρ) s ∧ frm wQ wl0 σ s
theorem c_trial (h : RELx n d t u sd ρ k nx H m tb9 G σ) : Okv (f_X0_copy 60 56 σ) (TRc d ρ σ 0) := (w_copy h.ar h.tc.T7 (by decide)).mono (fun s hs => ⟨hs.1, hs.2.sub ai_wQ⟩)
theorem c_safe {q : Nat} (h : RELx n d t u sd ρ k nx H m tb9 G σ) (hn : n ≤ 512) (hq : q ≤ 1000) (hs : TRc d ρ σ q s) : Okv (f_X4_goOnSafely t 60 s) (TRc d ρ σ (q + 1)) := by
  have h2 := h.fr hs.2
  have hW : RW d (30720 + q) (itS d none q ρ) := RW.it h.ok h.tc.ln (by omega) (h.n0 hn)
  refine (w_goOnSafely h2.tc h.ok h.tk a60 hs.1 hW (by omega)).mono (fun s1 h1 => ⟨?_, hs.2.tr (h1.2.sub bt_wQ)⟩)
  rw [it_succ]; exact h1.1
/-- a trial of the reference, k beats on -/
def TRm (d : DAT) (ρ : Nat → Int32) (σ : HS) (k : Nat) (s : HS) : Prop := RRm (itS d none k ρ) s ∧ SDm none s ∧ frm wQ wl0 σ s
theorem m_trial (h : RELx n d t u sd ρ k nx H m tb9 G σ) : Okv (f_X12_copiesStill σ) (TRm d ρ σ 0) := (w_copiesStill h.tm h.nw).mono (fun s hs => ⟨hs.1, hs.2.1, hs.2.2.sub cp_wQ⟩)
theorem m_beat {q : Nat} (h : RELx n d t u sd ρ k nx H m tb9 G σ) (hn : n ≤ 512) (hq : q ≤ 1000) (hs : TRm d ρ σ q s) : Okv (f_X12_beatGoes s) (fun s1 => TRm d ρ σ (q + 1) s1 ∧ s1.1 236 51 = cauS d.1.1.1 (itS d none q ρ) ∧ s1.1 236 52 = twoS d.1.1.1 (itS d none q ρ) ∧ s1.1 236 53 = forS d (itS d none q ρ) ∧ frm wBm wl0 s s1) := by
  have h2 := h.fr hs.2.2
  have hW : RW d (30720 + q) (itS d none q ρ) := RW.it h.ok h.tc.ln (by omega) (h.n0 hn)
  refine (w_beatGoes h2.tm h.ok hs.1 hW (by omega) hs.2.1).mono (fun s1 h1 => ⟨⟨?_, hs.2.1.bm h1.2.2.2.2, hs.2.2.tr (h1.2.2.2.2.sub bm_wQ)⟩, h1.2⟩)
  rw [it_succ]; exact h1.1
theorem TRc.t0 {q : Nat} (h : RELx n d t u sd ρ k nx H m tb9 G σ) (hs : TRc d ρ σ q s) : s.2.2 0 = t := (h.fr hs.2).t0
theorem cnt_fir {p : Nat → Bool} : cntB p T = 0 ↔ ¬ ffB p T 0 < T := by
  constructor
  · intro h hf
    have ht := ffB_at (p := p) (d := T) (e := 0) (by omega)
    generalize ffB p T 0 = f at hf ht
    have := cnt_del (p := p) (q := fun e => decide (e ≠ f) && p e) (a := f) hf (fun e _ hn => by rw [decide_eq_true hn, Bool.true_and]) ht (by simp)
    omega
  · intro h
    exact cnt_zero (fun e he => ffB_no (p := p) (d := T) (e := 0) (Nat.zero_le _) (by omega))
theorem oth_cnt {ρ : Nat → Int32} (hf : firS T ρ < T) : othS T (firS T ρ) ρ + 1 = cntB (lnR ρ 0) T := by
  have ht := ffB_at (p := lnR ρ 0) (d := T) (e := 0) (by
    have : ffB (lnR ρ 0) T 0 = firS T ρ := rfl
    omega)
  exact cnt_del hf (fun e _ hn => by rw [decide_eq_true hn, Bool.true_and]) ht (by simp)
theorem two_iff {ρ : Nat → Int32} : (twoS T ρ).toInt = 0 ↔ ¬ 1 < cntB (lnR ρ 0) T := by
  unfold twoS
  by_cases c : firS T ρ < T
  · have := oth_cnt c
    rw [if_pos c]
    by_cases c2 : othS T (firS T ρ) ρ = 0
    · rw [if_pos c2]; exact ⟨fun _ => by omega, fun _ => rfl⟩
    · rw [if_neg c2]; exact ⟨fun h => absurd h (by decide), fun h => absurd h (by omega)⟩
  · have : cntB (lnR ρ 0) T = 0 := cnt_fir.mpr c
    rw [if_neg c]; exact ⟨fun _ => by omega, fun _ => rfl⟩
theorem cau_neg {ρ : Nat → Int32} (hT : T ≤ 7) : (cauS T ρ).toInt < 0 ↔ ¬ firS T ρ < T := by
  unfold cauS
  by_cases c : firS T ρ < T
  · rw [if_pos c, nIt (by omega)]; exact ⟨fun h => by omega, fun h => absurd c h⟩
  · rw [if_neg c]; exact ⟨fun _ => c, fun _ => by decide⟩
/-! gap -/
def gapP (d : DAT) (ρ : Nat → Int32) (k : Nat) : Bool := decide (¬ firS d.1.1.1 (itS d none k ρ) < d.1.1.1)
def gapS (d : DAT) (ρ : Nat → Int32) : Int32 := firI (gapP d ρ) 61 (-2)
theorem q_gap_c (h : RELx n d t u sd ρ k nx H m tb9 G σ) (hn : n ≤ 512) : Ok (f_X11_gap σ) (fun r s => r = gapS d ρ ∧ frm wQ wl0 σ s) := by
  have hT := h.tc.T7
  unfold f_X11_gap
  refine Ok.cv (c_trial h) (fun s1 h1 => ?_)
  have loop : ∀ (dd q N : Nat) (s : HS), q + dd = 61 → dd < N → TRc d ρ σ q s → Ok (f_X11_gap_13 N (nI q) s) (fun r s => r = (if ffB (gapP d ρ) dd q < 61 then nI (ffB (gapP d ρ) dd q) else -2) ∧ frm wQ wl0 σ s) := by
    intro dd
    induction dd with
    | zero =>
      intro q N s hq hN hs
      obtain ⟨N, rfl⟩ : ∃ q, N = q + 1 := ⟨N - 1, by omega⟩
      show Ok (b_X11_gap_13 (f_X11_gap_13 N) (nI q) s) _
      unfold b_X11_gap_13
      rw [nIt (by omega), if_neg (show ¬ ffB (gapP d ρ) 0 q < 61 from (by show ¬ q < 61; omega))]
      exact Ok.t (by omega) (Ok.ret ⟨rfl, hs.2⟩)
    | succ dd ih =>
      intro q N s hq hN hs
      obtain ⟨N, rfl⟩ : ∃ q, N = q + 1 := ⟨N - 1, by omega⟩
      have ef : ffB (gapP d ρ) (dd + 1) q = if gapP d ρ q = true then q else ffB (gapP d ρ) dd (q + 1) := rfl
      show Ok (b_X11_gap_13 (f_X11_gap_13 N) (nI q) s) _
      unfold b_X11_gap_13
      rw [nIt (n := q) (by omega)]
      refine Ok.f (by omega) (Ok.cle (e_howManyLand hs.1.1 hT) ?_)
      rw [hs.1.cntLn, ef]
      by_cases c : firS d.1.1.1 (itS d none q ρ) < d.1.1.1
      · have c0 : cntB (lnR (itS d none q ρ) 0) d.1.1.1 ≠ 0 := fun e => cnt_fir.mp e c
        have cl := cntB_le (p := lnR (itS d none q ρ) 0) (n := d.1.1.1)
        have eg : ¬ gapP d ρ q = true := by unfold gapP; rw [decide_eq_false (not_not_intro c)]; decide
        rw [if_neg eg]
        refine Ok.f (by rw [nIt (by omega)]; omega) ?_
        rw [TRc.t0 h hs]
        refine Ok.t h.tk (Ok.cv (c_safe h hn (by omega) hs) (fun s4 h4 => Ok.bd ?_))
        rw [nI_1]
        exact ih (q + 1) N s4 (by omega) (by omega) h4
      · have c0 : cntB (lnR (itS d none q ρ) 0) d.1.1.1 = 0 := cnt_fir.mpr c
        have eg : gapP d ρ q = true := by unfold gapP; rw [decide_eq_true c]
        rw [if_pos eg, c0, if_pos (show q < 61 by omega)]
        exact Ok.t (by decide) (Ok.ret ⟨rfl, hs.2⟩)
  rw [nI0]
  exact loop 61 0 5000 s1 (by omega) (by omega) h1
theorem q_gap_m (h : RELx n d t u sd ρ k nx H m tb9 G σ) (hn : n ≤ 512) : Ok (f_X12_gap σ) (fun r s => r = gapS d ρ ∧ frm wQ wl0 σ s) := by
  have hT := h.tc.T7
  unfold f_X12_gap
  refine Ok.cv (m_trial h) (fun s1 h1 => ?_)
  have loop : ∀ (dd q N : Nat) (s : HS), q + dd = 61 → dd < N → TRm d ρ σ q s → Ok (f_X12_gap_6 N (nI q) s) (fun r s => r = (if ffB (gapP d ρ) dd q < 61 then nI (ffB (gapP d ρ) dd q) else -2) ∧ frm wQ wl0 σ s) := by
    intro dd
    induction dd with
    | zero =>
      intro q N s hq hN hs
      obtain ⟨N, rfl⟩ : ∃ q, N = q + 1 := ⟨N - 1, by omega⟩
      show Ok (b_X12_gap_6 (f_X12_gap_6 N) (nI q) s) _
      unfold b_X12_gap_6
      rw [nIt (by omega), if_neg (show ¬ ffB (gapP d ρ) 0 q < 61 from (by show ¬ q < 61; omega))]
      exact Ok.t (by omega) (Ok.ret ⟨rfl, hs.2.2⟩)
    | succ dd ih =>
      intro q N s hq hN hs
      obtain ⟨N, rfl⟩ : ∃ q, N = q + 1 := ⟨N - 1, by omega⟩
      have ef : ffB (gapP d ρ) (dd + 1) q = if gapP d ρ q = true then q else ffB (gapP d ρ) dd (q + 1) := rfl
      show Ok (b_X12_gap_6 (f_X12_gap_6 N) (nI q) s) _
      unfold b_X12_gap_6
      rw [nIt (n := q) (by omega), ef]
      refine Ok.f (by omega) (Ok.cv (m_beat h hn (by omega) hs) (fun s1 h1 => ?_))
      obtain ⟨h1, e51, -⟩ := h1
      rw [e51]
      by_cases c : firS d.1.1.1 (itS d none q ρ) < d.1.1.1
      · have eg : ¬ gapP d ρ q = true := by unfold gapP; rw [decide_eq_false (not_not_intro c)]; decide
        rw [if_neg eg]
        refine Ok.f (fun e => (cau_neg hT).mp e c) (Ok.bd ?_)
        rw [nI_1]
        exact ih (q + 1) N s1 (by omega) (by omega) h1
      · have eg : gapP d ρ q = true := by unfold gapP; rw [decide_eq_true c]
        rw [if_pos eg, if_pos (show q < 61 by omega)]
        exact Ok.t ((cau_neg hT).mpr c) (Ok.ret ⟨rfl, h1.2.2⟩)
  rw [nI0]
  exact loop 61 0 5000 s1 (by omega) (by omega) h1
theorem sim_gap (hn : n ≤ 512) : SIM n f_X11_gap f_X12_gap := sim_q (fun d t u sd ρ k nx H m tb G σ h => ⟨_, q_gap_c h hn, fun s hs _ => q_gap_m hs hn⟩)
/-! clash, of any row -/
def claP (d : DAT) (ρ : Nat → Int32) (k : Nat) : Bool := decide (1 < cntB (lnR (itS d none k ρ) 0) d.1.1.1)
def claS (d : DAT) (ρ : Nat → Int32) (Z : Nat) : Int32 := firI (claP d ρ) Z (-2)
theorem c_clash {s0 : HS} {r : Nat → Int32} (h : RELx n d t u sd ρ k nx H m tb9 G σ) (hr : RW d 30720 r) {Z : Nat} (hZ : 1 ≤ Z ∧ Z ≤ 61) : ∀ (dd q N : Nat) (s : HS), q + dd = Z → dd < N → AR 60 d.1.1.1 (itS d none q r) s → frm wQ wl0 σ s → Ok (f_X11_firstClash_2 N (nI (Z - 1)) (nI q) s) (fun v s => v = (if ffB (claP d r) dd q < Z then nI (ffB (claP d r) dd q) else -2) ∧ frm wQ wl0 σ s) := by
  have hT := h.tc.T7
  intro dd
  induction dd with
  | zero =>
    intro q N s hq hN hs hf
    obtain ⟨N, rfl⟩ : ∃ q, N = q + 1 := ⟨N - 1, by omega⟩
    show Ok (b_X11_firstClash_2 (f_X11_firstClash_2 N) (nI (Z - 1)) (nI q) s) _
    unfold b_X11_firstClash_2
    rw [nIt (n := Z - 1) (by omega), nIt (n := q) (by omega), if_neg (show ¬ ffB (claP d r) 0 q < Z from (by show ¬ q < Z; omega))]
    exact Ok.t (by omega) (Ok.ret ⟨rfl, hf⟩)
  | succ dd ih =>
    intro q N s hq hN hs hf
    obtain ⟨N, rfl⟩ : ∃ q, N = q + 1 := ⟨N - 1, by omega⟩
    have ef : ffB (claP d r) (dd + 1) q = if claP d r q = true then q else ffB (claP d r) dd (q + 1) := rfl
    have h2 := h.fr hf
    have hW : RW d (30720 + q) (itS d none q r) := RW.it h.ok h.tc.ln (by omega) hr
    have cl := cntB_le (p := lnR (itS d none q r) 0) (n := d.1.1.1)
    show Ok (b_X11_firstClash_2 (f_X11_firstClash_2 N) (nI (Z - 1)) (nI q) s) _
    unfold b_X11_firstClash_2
    rw [nIt (n := Z - 1) (by omega), nIt (n := q) (by omega)]
    refine Ok.f (by omega) (Ok.cle (e_howManyLand hs.1 hT) ?_)
    rw [hs.cntLn, ef, nIt (n := cntB (lnR (itS d none q r) 0) d.1.1.1) (by omega)]
    by_cases c : 1 < cntB (lnR (itS d none q r) 0) d.1.1.1
    · have eg : claP d r q = true := by unfold claP; rw [decide_eq_true c]
      rw [if_pos eg, if_pos (show q < Z by omega)]
      exact Ok.t (by omega) (Ok.ret ⟨rfl, hf⟩)
    · have eg : ¬ claP d r q = true := by unfold claP; rw [decide_eq_false c]; decide
      rw [if_neg eg]
      refine Ok.f (by omega) ?_
      rw [h2.t0]
      refine Ok.t h.tk (Ok.cv (w_goOnSafely h2.tc h.ok h.tk a60 hs hW (by omega)) (fun s4 h4 => Ok.bd ?_))
      rw [nI_1]
      refine ih (q + 1) N s4 (by omega) (by omega) ?_ (hf.tr (h4.2.sub bt_wQ))
      rw [it_succ]; exact h4.1
theorem q_clash_c (h : RELx n d t u sd ρ k nx H m tb9 G σ) (hn : n ≤ 512) : Ok (f_X11_clash σ) (fun r s => r = claS d ρ 61 ∧ frm wQ wl0 σ s) := by
  unfold f_X11_clash f_X11_firstClash
  refine Ok.cv (c_trial h) (fun s1 h1 => ?_)
  have := c_clash (s0 := s1) h (h.n0 hn) (Z := 61) (by omega) 61 0 5000 s1 (by omega) (by omega) h1.1 h1.2
  rw [nI_0] at this
  exact Ok.cl this (fun r s h => Ok.ret h)
theorem m_step {s0 : HS} {r : Nat → Int32} {q : Nat} (h : RELx n d t u sd ρ k nx H m tb9 G σ) (hr : RW d 30720 r) (hq : q ≤ 1000) (hR : RRm (itS d none q r) s) (hx : SDm none s) (hf : frm wQ wl0 σ s) : Okv (f_X12_beatGoes s) (fun s1 => RRm (itS d none (q + 1) r) s1 ∧ SDm none s1 ∧ frm wQ wl0 σ s1 ∧ s1.1 236 51 = cauS d.1.1.1 (itS d none q r) ∧ s1.1 236 52 = twoS d.1.1.1 (itS d none q r)) := by
  have h2 := h.fr hf
  have hW : RW d (30720 + q) (itS d none q r) := RW.it h.ok h.tc.ln (by omega) hr
  refine (w_beatGoes h2.tm h.ok hR hW (by omega) hx).mono (fun s1 h1 => ⟨?_, hx.bm h1.2.2.2.2, hf.tr (h1.2.2.2.2.sub bm_wQ), h1.2.1, h1.2.2.1⟩)
  rw [it_succ]; exact h1.1
theorem q_clash_m (h : RELx n d t u sd ρ k nx H m tb9 G σ) (hn : n ≤ 512) : Ok (f_X12_clash σ) (fun r s => r = claS d ρ 61 ∧ frm wQ wl0 σ s) := by
  unfold f_X12_clash
  refine Ok.cv (m_trial h) (fun s1 h1 => ?_)
  have loop : ∀ (dd q N : Nat) (s : HS), q + dd = 61 → dd < N → TRm d ρ σ q s → Ok (f_X12_clash_6 N (nI q) s) (fun r s => r = (if ffB (claP d ρ) dd q < 61 then nI (ffB (claP d ρ) dd q) else -2) ∧ frm wQ wl0 σ s) := by
    intro dd
    induction dd with
    | zero =>
      intro q N s hq hN hs
      obtain ⟨N, rfl⟩ : ∃ q, N = q + 1 := ⟨N - 1, by omega⟩
      show Ok (b_X12_clash_6 (f_X12_clash_6 N) (nI q) s) _
      unfold b_X12_clash_6
      rw [nIt (by omega), if_neg (show ¬ ffB (claP d ρ) 0 q < 61 from (by show ¬ q < 61; omega))]
      exact Ok.t (by omega) (Ok.ret ⟨rfl, hs.2.2⟩)
    | succ dd ih =>
      intro q N s hq hN hs
      obtain ⟨N, rfl⟩ : ∃ q, N = q + 1 := ⟨N - 1, by omega⟩
      have ef : ffB (claP d ρ) (dd + 1) q = if claP d ρ q = true then q else ffB (claP d ρ) dd (q + 1) := rfl
      show Ok (b_X12_clash_6 (f_X12_clash_6 N) (nI q) s) _
      unfold b_X12_clash_6
      rw [nIt (n := q) (by omega), ef]
      refine Ok.f (by omega) (Ok.cv (m_beat h hn (by omega) hs) (fun s1 h1 => ?_))
      obtain ⟨h1, -, e52, -⟩ := h1
      rw [e52]
      by_cases c : 1 < cntB (lnR (itS d none q ρ) 0) d.1.1.1
      · have eg : claP d ρ q = true := by unfold claP; rw [decide_eq_true c]
        rw [if_pos eg, if_pos (show q < 61 by omega)]
        exact Ok.f (fun e => two_iff.mp e c) (Ok.ret ⟨rfl, h1.2.2⟩)
      · have eg : ¬ claP d ρ q = true := by unfold claP; rw [decide_eq_false c]; decide
        rw [if_neg eg]
        refine Ok.t (two_iff.mpr c) (Ok.bd ?_)
        rw [nI_1]
        exact ih (q + 1) N s1 (by omega) (by omega) h1
  rw [nI0]
  exact loop 61 0 5000 s1 (by omega) (by omega) h1
theorem sim_clash (hn : n ≤ 512) : SIM n f_X11_clash f_X12_clash := sim_q (fun d t u sd ρ k nx H m tb G σ h => ⟨_, q_clash_c h hn, fun s hs _ => q_clash_m hs hn⟩)
/-! room -/
def putR (ρ : Nat → Int32) (e q : Nat) : Nat → Int32 := upF (upF ρ e 0) (7 + e) (nI q)
theorem RW.put {e q : Nat} (h : RW d b ρ) (hT : d.1.1.1 ≤ 7) (he : e < d.1.1.1) (hq : q ≤ 9) : RW d b (putR ρ e q) := by
  obtain ⟨w1, w2, w3, w4, w5, w6⟩ := h
  have n7 : ∀ i, 21 ≤ i → putR ρ e q i = ρ i := fun i hi => by unfold putR; rw [upF_n (by omega), upF_n (by omega)]
  refine ⟨fun j hj => ?_, by rw [n7 21 (by omega)]; exact w2, by rw [n7 27 (by omega), n7 21 (by omega)]; exact w3, by rw [n7 26 (by omega)]; exact w4, by rw [n7 28 (by omega)]; exact w5, by rw [n7 22 (by omega)]; exact w6⟩
  unfold putR
  rw [upF_n (show j ≠ 7 + e by omega)]
  by_cases c : j = e
  · subst c
    rw [upF_s, upF_s, nIt (by omega)]
    exact ⟨⟨by decide, by decide⟩, fun _ => by omega⟩
  · rw [upF_n c, upF_n (show 7 + j ≠ 7 + e by omega), upF_n (show 7 + j ≠ e by omega)]
    exact w1 j hj
def rooP (d : DAT) (ρ : Nat → Int32) (e q : Nat) : Bool := decide (¬ ffB (claP d (putR ρ e q)) 60 0 < 60)
def rooS (d : DAT) (ρ : Nat → Int32) (x : Int32) : Int32 := if (0 ≤ x.toInt ∧ x.toInt < d.1.1.1) ∧ (ρ x.toInt.toNat).toInt ≠ 0 then firI (rooP d ρ x.toInt.toNat) 10 (-2) else -1
theorem rooS_in {e : Nat} (he : e < d.1.1.1) (hT : d.1.1.1 ≤ 7) (h0 : (ρ e).toInt ≠ 0) : rooS d ρ (nI e) = firI (rooP d ρ e) 10 (-2) := by
  have e1 : (nI e).toInt = (e : Int) := nIt (by omega)
  unfold rooS
  rw [e1, Int.toNat_natCast, if_pos ⟨⟨by omega, by omega⟩, h0⟩]
theorem q_room_c (h : RELx n d t u sd ρ k nx H m tb9 G σ) (hn : n ≤ 512) : Ok (f_X11_room x σ) (fun r s => r = rooS d ρ x ∧ frm wQ wl0 σ s) := by
  have hT := h.tc.T7
  have hA := h.ar
  unfold f_X11_room
  rw [h.t0]
  refine Ok.t h.tk (Ok.cle (e_hasThing h.tc.1.1 hT) ?_)
  by_cases c : 0 ≤ x.toInt ∧ x.toInt < d.1.1.1
  · refine Ok.f (fun e => if10.mp e c) ?_
    obtain ⟨e, he, rfl⟩ := in_T c (by omega)
    have ee : (nI e).toInt.toNat = e := nItn (by omega)
    refine Ok.cle (e_isUp (by omega)) ?_
    rw [hA.up he]
    unfold upR
    by_cases cu : (ρ e).toInt = 0
    · rw [if_pos (decide_eq_true cu)]
      exact Ok.f i1_ne (Ok.ret ⟨(clo_no (fun h => h.2 (by rw [ee]; exact cu))).symm, frm.rf⟩)
    · have cn : ¬ decide ((ρ e).toInt = 0) = true := by rw [decide_eq_false cu]; decide
      rw [if_neg cn, rooS_in he hT cu]
      refine Ok.t i0_eq ?_
      have loop : ∀ (dd q N : Nat) (s : HS), q + dd = 10 → dd < N → frm wQ wl0 σ s → Ok (f_X11_room_26 N (nI e) (nI q) s) (fun r s => r = (if ffB (rooP d ρ e) dd q < 10 then nI (ffB (rooP d ρ e) dd q) else -2) ∧ frm wQ wl0 σ s) := by
        intro dd
        induction dd with
        | zero =>
          intro q N s hq hN hf
          obtain ⟨N, rfl⟩ : ∃ q, N = q + 1 := ⟨N - 1, by omega⟩
          show Ok (b_X11_room_26 (f_X11_room_26 N) (nI e) (nI q) s) _
          unfold b_X11_room_26
          rw [nIt (n := q) (by omega), if_neg (show ¬ ffB (rooP d ρ e) 0 q < 10 from (by show ¬ q < 10; omega))]
          exact Ok.t (by omega) (Ok.ret ⟨rfl, hf⟩)
        | succ dd ih =>
          intro q N s hq hN hf
          obtain ⟨N, rfl⟩ : ∃ q, N = q + 1 := ⟨N - 1, by omega⟩
          have ef : ffB (rooP d ρ e) (dd + 1) q = if rooP d ρ e q = true then q else ffB (rooP d ρ e) dd (q + 1) := rfl
          have h2 := h.fr hf
          show Ok (b_X11_room_26 (f_X11_room_26 N) (nI e) (nI q) s) _
          unfold b_X11_room_26 f_X11_firstClash
          rw [nIt (n := q) (by omega), ef]
          refine Ok.f (by omega) (Ok.cv (c_trial h2) (fun s1 h1 => Ok.cve (e_putUp (by omega)) ?_))
          have A3 := (h1.1.w (k := e) (v := 0) hT he).l (k := e) (v := nI q) hT he
          have f3 : frm wQ wl0 s (hI (hI s1 (60 + 1) e 0) (60 + 2) e (nI q)) := (h1.2.I rfl).I rfl
          have hr : RW d 30720 (putR ρ e q) := (h.n0 hn).put hT he (by omega)
          have := c_clash (s0 := s1) h hr (Z := 60) (by omega) 60 0 5000 _ (by omega) (by omega) A3 (hf.tr f3)
          rw [nI_0] at this
          refine Ok.cl this (fun v s5 h5 => ?_)
          obtain ⟨rfl, f5⟩ := h5
          have rg := ffB_rg (p := claP d (putR ρ e q)) (d := 60) (e := 0)
          by_cases cc : ffB (claP d (putR ρ e q)) 60 0 < 60
          · have eg : ¬ rooP d ρ e q = true := by unfold rooP; rw [decide_eq_false (not_not_intro cc)]; decide
            rw [if_neg eg, if_pos cc]
            refine Ok.f (by rw [nIt (by omega)]; omega) (Ok.bd ?_)
            rw [nI_1]
            exact ih (q + 1) N s5 (by omega) (by omega) f5
          · have eg : rooP d ρ e q = true := by unfold rooP; rw [decide_eq_true cc]
            rw [if_pos eg, if_neg cc, if_pos (show q < 10 by omega)]
            exact Ok.t (by decide) (Ok.ret ⟨rfl, f5⟩)
      have := loop 10 0 5000 σ (by omega) (by omega) frm.rf
      rw [nI_0] at this
      exact this
  · exact Ok.t (if10.mpr c) (Ok.ret ⟨(clo_no (fun h => c h.1)).symm, frm.rf⟩)
theorem q_room_m (h : RELx n d t u sd ρ k nx H m tb9 G σ) (hn : n ≤ 512) : Ok (f_X12_room x σ) (fun r s => r = rooS d ρ x ∧ frm wQ wl0 σ s) := by
  have hT := h.tc.T7
  have hM := h.tm
  unfold f_X12_room
  refine Ok.cle (e_isThing hM.lv) ?_
  by_cases c : 0 ≤ x.toInt ∧ x.toInt < d.1.1.1
  · refine Ok.f (fun e => if10.mp e c) ?_
    obtain ⟨e, he, rfl⟩ := in_T c (by omega)
    have ee : (nI e).toInt.toNat = e := nItn (by omega)
    rw [nIt (n := e) (by omega), Int.toNat_natCast, h.nw e (by omega)]
    refine Ok.t (by omega) ?_
    by_cases cu : (ρ e).toInt = 0
    · exact Ok.t cu (Ok.ret ⟨(clo_no (fun h => h.2 (by rw [ee]; exact cu))).symm, frm.rf⟩)
    · refine Ok.f cu ?_
      rw [rooS_in he hT cu]
      have hasR : ∀ (q : Nat) (s : HS), q ≤ 9 → frm wQ wl0 σ s → Ok (f_X12_hasRoom (nI e) (nI q) s) (fun r s => r = (if rooP d ρ e q = true then 1 else 0) ∧ frm wQ wl0 σ s) := by
        intro q s hq hf
        have h2 := h.fr hf
        have hr : RW d 30720 (putR ρ e q) := (h.n0 hn).put hT he (by omega)
        unfold f_X12_hasRoom
        refine Ok.cv (m_trial h2) (fun s1 h1 => ?_)
        rw [n7_add, nIt (n := e) (by omega), nIt (n := 7 + e) (by omega), Int.toNat_natCast, Int.toNat_natCast]
        refine Ok.t (by omega) (Ok.bd (Ok.t (by omega) (Ok.bd ?_)))
        have R4 := (h1.1.w (k := e) (v := 0)).w (k := 7 + e) (v := nI q)
        generalize hs4 : hI (hI s1 267 e 0) 267 (7 + e) (nI q) = s4 at R4
        have f4 : frm (fun a _ => a == 267) wl0 s1 s4 := by rw [← hs4]; exact (frm.rf.I rfl).I rfl
        have F4 : frm wQ wl0 s1 s4 := by rw [← hs4]; exact (frm.rf.I rfl).I rfl
        have x4 : SDm none s4 := by
          unfold SDm
          rw [f4.1 236 49 rfl, f4.1 236 50 rfl]; exact h1.2.1
        have loop : ∀ (dd j N : Nat) (s : HS), j + dd = 60 → dd < N → RRm (itS d none j (putR ρ e q)) s → SDm none s → frm wQ wl0 σ s → Ok (f_X12_hasRoom_23 N (nI j) s) (fun r s => r = (if ¬ ffB (claP d (putR ρ e q)) dd j < 60 then 1 else 0) ∧ frm wQ wl0 σ s) := by
          intro dd
          induction dd with
          | zero =>
            intro j N s hj hN hR hx hf
            obtain ⟨N, rfl⟩ : ∃ q, N = q + 1 := ⟨N - 1, by omega⟩
            show Ok (b_X12_hasRoom_23 (f_X12_hasRoom_23 N) (nI j) s) _
            unfold b_X12_hasRoom_23
            rw [nIt (n := j) (by omega), if_pos (show ¬ ffB (claP d (putR ρ e q)) 0 j < 60 from (by show ¬ j < 60; omega))]
            exact Ok.f (by omega) (Ok.ret ⟨rfl, hf⟩)
          | succ dd ih =>
            intro j N s hj hN hR hx hf
            obtain ⟨N, rfl⟩ : ∃ q, N = q + 1 := ⟨N - 1, by omega⟩
            have ef : ffB (claP d (putR ρ e q)) (dd + 1) j = if claP d (putR ρ e q) j = true then j else ffB (claP d (putR ρ e q)) dd (j + 1) := rfl
            show Ok (b_X12_hasRoom_23 (f_X12_hasRoom_23 N) (nI j) s) _
            unfold b_X12_hasRoom_23
            rw [nIt (n := j) (by omega), ef]
            refine Ok.t (by omega) (Ok.cv (m_step (s0 := s) h hr (by omega) hR hx hf) (fun s1 h1 => ?_))
            obtain ⟨R1, x1, g1, -, e52⟩ := h1
            rw [e52]
            by_cases c : 1 < cntB (lnR (itS d none j (putR ρ e q)) 0) d.1.1.1
            · have eg : claP d (putR ρ e q) j = true := by unfold claP; rw [decide_eq_true c]
              rw [if_pos eg, if_neg (not_not_intro (show j < 60 by omega))]
              exact Ok.f (fun e => two_iff.mp e c) (Ok.ret ⟨rfl, g1⟩)
            · have eg : ¬ claP d (putR ρ e q) j = true := by unfold claP; rw [decide_eq_false c]; decide
              rw [if_neg eg]
              refine Ok.t (two_iff.mpr c) (Ok.bd ?_)
              rw [nI_1]
              exact ih (j + 1) N s1 (by omega) (by omega) R1 x1 g1
        rw [nI0]
        refine (loop 60 0 5000 s4 (by omega) (by omega) R4 x4 ((hf.tr h1.2.2).tr F4)).mono (fun r s h => ⟨?_, h.2⟩)
        rw [h.1]
        unfold rooP
        by_cases cc : ffB (claP d (putR ρ e q)) 60 0 < 60
        · rw [if_neg (not_not_intro cc), decide_eq_false (not_not_intro cc)]; rfl
        · rw [if_pos cc, decide_eq_true cc]; rfl
      have loop : ∀ (dd q N : Nat) (s : HS), q + dd = 10 → dd < N → frm wQ wl0 σ s → Ok (f_X12_room_21 N (nI e) (nI q) s) (fun r s => r = (if ffB (rooP d ρ e) dd q < 10 then nI (ffB (rooP d ρ e) dd q) else -2) ∧ frm wQ wl0 σ s) := by
        intro dd
        induction dd with
        | zero =>
          intro q N s hq hN hf
          obtain ⟨N, rfl⟩ : ∃ q, N = q + 1 := ⟨N - 1, by omega⟩
          show Ok (b_X12_room_21 (f_X12_room_21 N) (nI e) (nI q) s) _
          unfold b_X12_room_21
          rw [nIt (n := q) (by omega), if_neg (show ¬ ffB (rooP d ρ e) 0 q < 10 from (by show ¬ q < 10; omega))]
          exact Ok.f (by omega) (Ok.ret ⟨rfl, hf⟩)
        | succ dd ih =>
          intro q N s hq hN hf
          obtain ⟨N, rfl⟩ : ∃ q, N = q + 1 := ⟨N - 1, by omega⟩
          have ef : ffB (rooP d ρ e) (dd + 1) q = if rooP d ρ e q = true then q else ffB (rooP d ρ e) dd (q + 1) := rfl
          show Ok (b_X12_room_21 (f_X12_room_21 N) (nI e) (nI q) s) _
          unfold b_X12_room_21
          rw [nIt (n := q) (by omega), ef]
          refine Ok.t (by omega) (Ok.cl (hasR q s (by omega) hf) (fun v s1 h1 => ?_))
          obtain ⟨rfl, f1⟩ := h1
          cases hp : rooP d ρ e q with
          | true =>
            rw [if_pos rfl, if_pos rfl, if_pos (show q < 10 by omega)]
            exact Ok.f i1_ne (Ok.ret ⟨rfl, f1⟩)
          | false =>
            refine Ok.t i0_eq (Ok.bd ?_)
            rw [nI_1]
            exact ih (q + 1) N s1 (by omega) (by omega) f1
      have := loop 10 0 5000 σ (by omega) (by omega) frm.rf
      rw [nI_0] at this
      exact this
  · exact Ok.t (if10.mpr c) (Ok.ret ⟨(clo_no (fun h => c h.1)).symm, frm.rf⟩)
theorem sim_room (hn : n ≤ 512) : SIM n (f_X11_room x) (f_X12_room x) := sim_q (fun d t u sd ρ k nx H m tb G σ h => ⟨_, q_room_c h hn, fun s hs _ => q_room_m hs hn⟩)
end WOULD
/-! what would be: inHand, busiest, load, rule, lands -/
section WOULB
variable {σ s : HS} {n t u sd k nx m p L T : Nat} {ρ : Nat → Int32} {d : DAT} {b : Int} {H G : Nat → Nat → Int32} {tb9 : Nat → Nat} {x y z : Int32}
theorem e_isLong : f_X12_isLong x σ = some (if 0 ≤ x.toInt ∧ x.toInt ≤ 60 then 1 else 0, σ) := by
  unfold f_X12_isLong
  rw [e_in]
  simp only [Cl]
  have e6 : (60 : Int32).toInt = 60 := rfl
  rw [i0_eq, e6]
  by_cases c : 0 ≤ x.toInt ∧ x.toInt ≤ 60
  · rw [if_pos c]; rfl
  · rw [if_neg c]; rfl
theorem e_isSome : f_X12_isSome x σ = some (if 1 ≤ x.toInt ∧ x.toInt ≤ 60 then 1 else 0, σ) := by
  unfold f_X12_isSome
  rw [e_in]
  simp only [Cl]
  have e6 : (60 : Int32).toInt = 60 := rfl
  rw [i1_e, e6]
  by_cases c : 1 ≤ x.toInt ∧ x.toInt ≤ 60
  · rw [if_pos c]; rfl
  · rw [if_neg c]; rfl
theorem e_isSpan : f_X11_isSpan x σ = some (if 1 ≤ x.toInt ∧ x.toInt ≤ 60 then 1 else 0, σ) := by
  unfold f_X11_isSpan
  by_cases c : x.toInt < 1
  · rw [if_pos c, if_neg (show ¬ (1 ≤ x.toInt ∧ x.toInt ≤ 60) by omega)]
  · rw [if_neg c]
    by_cases c2 : 60 < x.toInt
    · rw [if_pos c2, if_neg (show ¬ (1 ≤ x.toInt ∧ x.toInt ≤ 60) by omega)]
    · rw [if_neg c2, if_pos (show 1 ≤ x.toInt ∧ x.toInt ≤ 60 by omega)]
theorem c_safe2 {q : Nat} (h : RELx n d t u sd ρ k nx H m tb9 G σ) (hn : n ≤ 512) (hq : q ≤ 1000) (hs : TRc d ρ σ q s) : Okv (f_X4_goOnSafely t 60 s) (fun s1 => TRc d ρ σ (q + 1) s1 ∧ frm (wBt 60) wl0 s s1) := by
  have h2 := h.fr hs.2
  have hW : RW d (30720 + q) (itS d none q ρ) := RW.it h.ok h.tc.ln (by omega) (h.n0 hn)
  refine (w_goOnSafely h2.tc h.ok h.tk a60 hs.1 hW (by omega)).mono (fun s1 h1 => ⟨⟨?_, hs.2.tr (h1.2.sub bt_wQ)⟩, h1.2⟩)
  rw [it_succ]; exact h1.1
def hanS (d : DAT) (ρ : Nat → Int32) (i : Nat) : Int32 := firI (lnR (itS d none i ρ) 0) d.1.1.1 (-1)
theorem w_findHands {Z : Nat} (h : RELx n d t u sd ρ k nx H m tb9 G σ) (hn : n ≤ 512) (hZ : Z ≤ 61) : Okv (f_X11_findHands (nI Z) σ) (fun s => (∀ i, i < Z → s.1 27 i = hanS d ρ i) ∧ frm wQ wl0 σ s) := by
  have hT := h.tc.T7
  unfold f_X11_findHands
  refine Okv.cv (c_trial h) (fun s1 h1 => ?_)
  have loop : ∀ (dd q N : Nat) (s : HS), q + dd = Z → dd < N → (∀ i, i < q → s.1 27 i = hanS d ρ i) → TRc d ρ σ q s → Okv (f_X11_findHands_13 N (nI Z) (nI q) s) (fun s => (∀ i, i < Z → s.1 27 i = hanS d ρ i) ∧ frm wQ wl0 σ s) := by
    intro dd
    induction dd with
    | zero =>
      intro q N s hq hN hh hs
      obtain ⟨N, rfl⟩ : ∃ q, N = q + 1 := ⟨N - 1, by omega⟩
      show Okv (b_X11_findHands_13 (f_X11_findHands_13 N) (nI Z) (nI q) s) _
      unfold b_X11_findHands_13
      rw [nIt (n := q) (by omega), nIt (n := Z) (by omega)]
      exact Okv.f (by omega) (Okv.ret ⟨fun i hi => hh i (by omega), hs.2⟩)
    | succ dd ih =>
      intro q N s hq hN hh hs
      obtain ⟨N, rfl⟩ : ∃ q, N = q + 1 := ⟨N - 1, by omega⟩
      show Okv (b_X11_findHands_13 (f_X11_findHands_13 N) (nI Z) (nI q) s) _
      unfold b_X11_findHands_13
      rw [nIt (n := q) (by omega), nIt (n := Z) (by omega), Int.toNat_natCast]
      refine Okv.t (by omega) (Okv.t (by omega) (Okv.cle (e_firstLanding hs.1.1 hT) (Okv.t (by omega) (Okv.bd ?_))))
      have ev : firI (lnA s 60) d.1.1.1 (-1) = hanS d ρ q := by
        unfold hanS firI
        rw [hs.1.ff]; rfl
      rw [ev]
      generalize hs3 : hI s 27 q (hanS d ρ q) = s3
      have f3 : frm (fun a _ => a == 27) wl0 s s3 := by rw [← hs3]; exact frm.rf.I rfl
      have F3 : frm wQ wl0 σ s3 := by rw [← hs3]; exact hs.2.I rfl
      have T3 : TRc d ρ σ q s3 := ⟨hs.1.fr f3 (fun i k x y => by simp; omega), F3⟩
      rw [TRc.t0 h T3]
      refine Okv.t h.tk (Okv.cv (c_safe2 h hn (by omega) T3) (fun s5 h5 => Okv.bd ?_))
      rw [nI_1]
      refine ih (q + 1) N s5 (by omega) (by omega) (fun i hi => ?_) h5.1
      rw [h5.2.1 27 i rfl, ← hs3]
      by_cases c : i = q
      · rw [c, rI_s]
      · rw [rI_k c]; exact hh i (by omega)
  rw [nI0]
  exact loop Z 0 5000 s1 (by omega) (by omega) (fun i hi => absurd hi (by omega)) h1
theorem han_cau {i : Nat} (hT : d.1.1.1 ≤ 7) : ((hanS d ρ i).toInt = -1 ↔ ¬ firS d.1.1.1 (itS d none i ρ) < d.1.1.1) ∧ (firS d.1.1.1 (itS d none i ρ) < d.1.1.1 → hanS d ρ i = nI (firS d.1.1.1 (itS d none i ρ))) := by
  have e : hanS d ρ i = if firS d.1.1.1 (itS d none i ρ) < d.1.1.1 then nI (firS d.1.1.1 (itS d none i ρ)) else -1 := rfl
  rw [e]
  by_cases c : firS d.1.1.1 (itS d none i ρ) < d.1.1.1
  · rw [if_pos c]
    refine ⟨?_, fun _ => rfl⟩
    rw [nIt (by omega)]
    exact ⟨fun h => by omega, fun h => absurd c h⟩
  · rw [if_neg c]
    exact ⟨⟨fun _ => c, fun _ => by decide⟩, fun h => absurd h c⟩
/-! inHand -/
def inhS (d : DAT) (ρ : Nat → Int32) (x : Int32) : Int32 := if 0 ≤ x.toInt ∧ x.toInt ≤ 60 then cauS d.1.1.1 (itS d none x.toInt.toNat ρ) else -1
theorem inhS_in {q : Nat} (hq : q ≤ 60) : inhS d ρ (nI q) = cauS d.1.1.1 (itS d none q ρ) := by
  unfold inhS
  rw [nIt (by omega), Int.toNat_natCast]
  exact if_pos ⟨by omega, by omega⟩
theorem q_inHand_c (h : RELx n d t u sd ρ k nx H m tb9 G σ) (hn : n ≤ 512) : Ok (f_X11_inHand x σ) (fun r s => r = inhS d ρ x ∧ frm wQ wl0 σ s) := by
  have hT := h.tc.T7
  unfold f_X11_inHand
  by_cases c1 : x.toInt < 0
  · exact Ok.t c1 (Ok.ret ⟨(clo_no (fun h => by omega)).symm, frm.rf⟩)
  by_cases c2 : 60 < x.toInt
  · exact Ok.f c1 (Ok.t c2 (Ok.ret ⟨(clo_no (fun h => by omega)).symm, frm.rf⟩))
  refine Ok.f c1 (Ok.f c2 ?_)
  obtain ⟨q, hq, rfl⟩ : ∃ q, q < 61 ∧ x = nI q := in_T (T := 61) (by omega) (by decide)
  rw [inhS_in (by omega), nI_1, nIt (n := q) (by omega), Int.toNat_natCast]
  refine Ok.cv (w_findHands (Z := q + 1) h hn (by omega)) (fun s1 h1 => ?_)
  rw [h1.1 q (by omega)]
  have hc := han_cau (ρ := ρ) (d := d) (i := q) hT
  refine Ok.t (by omega) ?_
  by_cases c : firS d.1.1.1 (itS d none q ρ) < d.1.1.1
  · refine Ok.f (fun e => hc.1.mp e c) (Ok.t (by omega) (Ok.ret ⟨?_, h1.2⟩))
    rw [hc.2 c]
    unfold cauS
    rw [if_pos c]
  · refine Ok.t (hc.1.mpr c) (Ok.ret ⟨?_, h1.2⟩)
    unfold cauS
    rw [if_neg c]
theorem q_inHand_m (h : RELx n d t u sd ρ k nx H m tb9 G σ) (hn : n ≤ 512) : Ok (f_X12_inHand x σ) (fun r s => r = inhS d ρ x ∧ frm wQ wl0 σ s) := by
  have hT := h.tc.T7
  unfold f_X12_inHand
  refine Ok.cle e_isLong ?_
  by_cases c : 0 ≤ x.toInt ∧ x.toInt ≤ 60
  · refine Ok.f (fun e => if10.mp e c) (Ok.cv (m_trial h) (fun s3 h3 => ?_))
    obtain ⟨q, hq, rfl⟩ : ∃ q, q < 61 ∧ x = nI q := in_T (T := 61) (by omega) (by decide)
    rw [inhS_in (by omega)]
    have h2 := h.fr h3.2.2
    refine Ok.cv (w_goes (b := 30720) h2.tm h.ok h.tc.ln (by omega) h3.1 (h.n0 hn) (by omega) h3.2.1) (fun s5 h5 => ?_)
    have h5r := h2.fr (h5.2.sub bm_wQ)
    refine Ok.cle (e_catchesNow h5r.tm.lv) (Ok.ret ⟨?_, h3.2.2.tr (h5.2.sub bm_wQ)⟩)
    unfold firI
    rw [h5.1.ff hT]; rfl
  · exact Ok.t (if10.mpr c) (Ok.ret ⟨(clo_no c).symm, frm.rf⟩)
theorem sim_inHand (hn : n ≤ 512) : SIM n (f_X11_inHand x) (f_X12_inHand x) := sim_q (fun d t u sd ρ k nx H m tb G σ h => ⟨_, q_inHand_c h hn, fun s hs _ => q_inHand_m hs hn⟩)
/-! load -/
def loaN (d : DAT) (ρ : Nat → Int32) : Nat → Int32
  | 0 => 0
  | k + 1 => if firS d.1.1.1 (itS d none k ρ) < d.1.1.1 then loaN d ρ k + Int32.ofInt (d.1.1.2.1 (firS d.1.1.1 (itS d none k ρ))) else loaN d ρ k
def loaS (d : DAT) (ρ : Nat → Int32) (x : Int32) : Int32 := if 1 ≤ x.toInt ∧ x.toInt ≤ 60 then loaN d ρ x.toInt.toNat else -1
theorem loaS_in {q : Nat} (h1 : 1 ≤ q) (hq : q ≤ 60) : loaS d ρ (nI q) = loaN d ρ q := by
  unfold loaS
  rw [nIt (by omega), Int.toNat_natCast]
  exact if_pos ⟨by omega, by omega⟩
theorem in_60 (c : 1 ≤ x.toInt ∧ x.toInt ≤ 60) : ∃ q, (1 ≤ q ∧ q ≤ 60) ∧ x = nI q := ⟨x.toInt.toNat, by omega, nI_tn (by omega) (by omega)⟩
theorem q_load_c (h : RELx n d t u sd ρ k nx H m tb9 G σ) (hn : n ≤ 512) : Ok (f_X11_load x σ) (fun r s => r = loaS d ρ x ∧ frm wQ wl0 σ s) := by
  have hT := h.tc.T7
  unfold f_X11_load
  refine Ok.cle e_isSpan ?_
  by_cases c : 1 ≤ x.toInt ∧ x.toInt ≤ 60
  · refine Ok.f (fun e => if10.mp e c) ?_
    obtain ⟨Z, hZ, rfl⟩ := in_60 c
    rw [loaS_in hZ.1 hZ.2]
    have ht : t = 30 ∨ t = 43 := h.tk
    refine Ok.cv (w_findHands (Z := Z) h hn (by omega)) (fun s1 h1 => ?_)
    have h2 := h.fr h1.2
    have loop : ∀ (dd q N : Nat), q + dd = Z → dd < N → f_X11_load_18 N (nI Z) (loaN d ρ q) (nI q) s1 = some (loaN d ρ Z, s1) := by
      intro dd
      induction dd with
      | zero =>
        intro q N hq hN
        obtain ⟨N, rfl⟩ : ∃ q, N = q + 1 := ⟨N - 1, by omega⟩
        obtain rfl : q = Z := by omega
        show b_X11_load_18 (f_X11_load_18 N) (nI q) _ (nI q) s1 = _
        unfold b_X11_load_18
        rw [if_neg (Int.lt_irrefl _)]
      | succ dd ih =>
        intro q N hq hN
        obtain ⟨N, rfl⟩ : ∃ q, N = q + 1 := ⟨N - 1, by omega⟩
        have hc := han_cau (ρ := ρ) (d := d) (i := q) hT
        have ih1 := ih (q + 1) N (by omega) (by omega)
        have el : loaN d ρ (q + 1) = if firS d.1.1.1 (itS d none q ρ) < d.1.1.1 then loaN d ρ q + Int32.ofInt (d.1.1.2.1 (firS d.1.1.1 (itS d none q ρ))) else loaN d ρ q := rfl
        rw [el] at ih1
        show b_X11_load_18 (f_X11_load_18 N) (nI Z) _ (nI q) s1 = _
        unfold b_X11_load_18 f_X11_load_56
        rw [nIt (n := q) (by omega), nIt (n := Z) (by omega), if_pos (show (q : Int) < Z by omega), h2.t0, if_pos ht, if_pos (show 0 ≤ (q : Int) ∧ (q : Int) < 61 by omega), Int.toNat_natCast, h1.1 q (by omega), e_hasThing h2.tc.1.1 hT]
        simp only [Cl, Bd]
        rw [nI_1]
        by_cases cf : firS d.1.1.1 (itS d none q ρ) < d.1.1.1
        · have ev := hc.2 cf
          have ew := h2.tc.1.2.2 _ cf
          generalize firS d.1.1.1 (itS d none q ρ) = f at cf ev ew ih1
          have ef : (nI f).toInt = (f : Int) := nIt (by omega)
          rw [if_pos cf] at ih1
          rw [ev, ef, if_neg (fun e => if10.mp e (show 0 ≤ (f : Int) ∧ (f : Int) < d.1.1.1 by omega)), h2.t0, if_pos ht, if_pos (show 0 ≤ (q : Int) ∧ (q : Int) < 61 by omega), h1.1 q (by omega), ev, ef, if_pos (show 0 ≤ (f : Int) ∧ (f : Int) < 7 by omega), Int.toNat_natCast, ofI ew.1]
          exact ih1
        · rw [if_neg cf] at ih1
          rw [if_pos (if10.mpr (show ¬ (0 ≤ (hanS d ρ q).toInt ∧ (hanS d ρ q).toInt < d.1.1.1) by rw [hc.1.mpr cf]; omega))]
          exact ih1
    have := loop Z 0 5000 (by omega) (by omega)
    rw [nI_0] at this
    exact Ok.of this ⟨rfl, h1.2⟩
  · exact Ok.t (if10.mpr c) (Ok.ret ⟨(clo_no c).symm, frm.rf⟩)
theorem q_load_m (h : RELx n d t u sd ρ k nx H m tb9 G σ) (hn : n ≤ 512) : Ok (f_X12_load x σ) (fun r s => r = loaS d ρ x ∧ frm wQ wl0 σ s) := by
  have hT := h.tc.T7
  unfold f_X12_load
  refine Ok.cle e_isSome ?_
  by_cases c : 1 ≤ x.toInt ∧ x.toInt ≤ 60
  · refine Ok.f (fun e => if10.mp e c) (Ok.cv (m_trial h) (fun s3 h3 => ?_))
    obtain ⟨Z, hZ, rfl⟩ := in_60 c
    rw [loaS_in hZ.1 hZ.2]
    have loop : ∀ (dd q N : Nat) (s : HS), q + dd = Z → dd < N → TRm d ρ σ q s → Ok (f_X12_load_17 N (nI Z) (loaN d ρ q) (nI q) s) (fun r s => r = loaN d ρ Z ∧ frm wQ wl0 σ s) := by
      intro dd
      induction dd with
      | zero =>
        intro q N s hq hN hs
        obtain ⟨N, rfl⟩ : ∃ q, N = q + 1 := ⟨N - 1, by omega⟩
        obtain rfl : q = Z := by omega
        show Ok (b_X12_load_17 (f_X12_load_17 N) (nI q) _ (nI q) s) _
        unfold b_X12_load_17
        exact Ok.f (Int.lt_irrefl _) (Ok.ret ⟨rfl, hs.2.2⟩)
      | succ dd ih =>
        intro q N s hq hN hs
        obtain ⟨N, rfl⟩ : ∃ q, N = q + 1 := ⟨N - 1, by omega⟩
        have el : loaN d ρ (q + 1) = if firS d.1.1.1 (itS d none q ρ) < d.1.1.1 then loaN d ρ q + Int32.ofInt (d.1.1.2.1 (firS d.1.1.1 (itS d none q ρ))) else loaN d ρ q := rfl
        show Ok (b_X12_load_17 (f_X12_load_17 N) (nI Z) _ (nI q) s) _
        unfold b_X12_load_17 f_X12_load_53
        rw [nIt (n := q) (by omega), nIt (n := Z) (by omega)]
        refine Ok.t (by omega) (Ok.cv (m_beat h hn (by omega) hs) (fun s1 h1 => ?_))
        obtain ⟨h1, e51, -⟩ := h1
        have hM := (h.fr h1.2.2).tm
        have ih1 := ih (q + 1) N s1 (by omega) (by omega) h1
        rw [e51]
        by_cases cf : firS d.1.1.1 (itS d none q ρ) < d.1.1.1
        · rw [el, if_pos cf] at ih1
          refine Ok.f (fun e => (cau_neg hT).mp e cf) ?_
          unfold cauS
          have ew := hM.2.2.1.2.2 _ cf
          rw [if_pos cf, hM.1]
          generalize firS d.1.1.1 (itS d none q ρ) = f at cf ew ih1
          have hs1 := hM.2.1
          rw [e7s hs1, nIt (n := 7 * sd + f) (by omega), Int.toNat_natCast]
          refine Ok.t (by omega) (Ok.bd (Ok.bd ?_))
          rw [nI_1, ofI ew.1]
          exact ih1
        · rw [el, if_neg cf] at ih1
          refine Ok.t ((cau_neg hT).mpr cf) (Ok.bd ?_)
          rw [nI_1]
          exact ih1
    rw [show f_X12_load_17 5000 (nI Z) 0 0 s3 = f_X12_load_17 5000 (nI Z) (loaN d ρ 0) (nI 0) s3 by rw [nI_0]; rfl]
    exact loop Z 0 5000 s3 (by omega) (by omega) h3
  · exact Ok.t (if10.mpr c) (Ok.ret ⟨(clo_no c).symm, frm.rf⟩)
theorem sim_load (hn : n ≤ 512) : SIM n (f_X11_load x) (f_X12_load x) := sim_q (fun d t u sd ρ k nx H m tb G σ h => ⟨_, q_load_c h hn, fun s hs _ => q_load_m hs hn⟩)
/-! rule -/
theorem cnt_sub {p q : Nat → Bool} : ∀ {n : Nat}, (∀ e, e < n → q e = true → p e = true) → cntB (fun e => p e && !q e) n + cntB q n = cntB p n := by
  intro n
  induction n with
  | zero => intro _; rfl
  | succ n ih =>
    intro h
    have i := ih (fun e he => h e (by omega))
    have hn := h n (by omega)
    show (if (p n && !q n) = true then cntB (fun e => p e && !q e) n + 1 else cntB (fun e => p e && !q e) n) + (if q n = true then cntB q n + 1 else cntB q n) = (if p n = true then cntB p n + 1 else cntB p n)
    cases hq : q n with
    | true =>
      have hp := hn hq
      rw [hp]
      show cntB (fun e => p e && !q e) n + (cntB q n + 1) = cntB p n + 1
      omega
    | false =>
      cases hp : p n with
      | true =>
        show cntB (fun e => p e && !q e) n + 1 + cntB q n = cntB p n + 1
        omega
      | false =>
        show cntB (fun e => p e && !q e) n + cntB q n = cntB p n
        omega
theorem up_drop {f : Nat} (hT : T ≤ 7) : cntB (upR (dropS T f ρ)) T + othS T f ρ = cntB (upR ρ) T := by
  have e : cntB (upR (dropS T f ρ)) T = cntB (fun e => upR ρ e && !(decide (e ≠ f) && lnR ρ 0 e)) T := cntB_cg (fun e he => by
    unfold upR dropS
    by_cases c : e ≠ f ∧ lnR ρ 0 e = true
    · rw [if_pos ⟨he, c⟩, decide_eq_true c.1, c.2]; simp
    · rw [if_neg (fun h => c h.2), if_neg (by omega)]
      have : (decide (e ≠ f) && lnR ρ 0 e) = false := by
        cases h1 : lnR ρ 0 e with
        | false => rw [Bool.and_false]
        | true => rw [decide_eq_false (fun h => c ⟨h, h1⟩)]; rfl
      rw [this]; simp)
  rw [e]
  exact cnt_sub (fun e _ h => by
    rw [Bool.and_eq_true] at h
    unfold upR
    exact decide_eq_true (ln_iff.mp h.2).1)
theorem var_drop {f e : Nat} {up h : Int32} (hT : T ≤ 7) : varS d (dropS T f ρ) e up h = varS d ρ e up h := by
  have n : ∀ i, 7 ≤ i → i ≠ 23 → dropS T f ρ i = ρ i := fun i h1 h2 => by
    unfold dropS
    rw [if_neg (by omega), if_neg h2]
  unfold varS
  rw [n 21 (by decide) (by decide), n 22 (by decide) (by decide), n 24 (by decide) (by decide)]
theorem for_eq (hT : d.1.1.1 ≤ 7) (c : firS d.1.1.1 ρ < d.1.1.1) : forS d ρ = lawV d 2 (varS d ρ (firS d.1.1.1 ρ) (nI (cntB (upR ρ) d.1.1.1 - othS d.1.1.1 (firS d.1.1.1 ρ) ρ)) 0) := by
  unfold forS
  have := up_drop (ρ := ρ) (f := firS d.1.1.1 ρ) hT
  rw [if_pos c, var_drop hT]
  unfold upsS
  rw [show cntB (upR ρ) d.1.1.1 - othS d.1.1.1 (firS d.1.1.1 ρ) ρ = cntB (upR (dropS d.1.1.1 (firS d.1.1.1 ρ) ρ)) d.1.1.1 by omega]
theorem w_inForce {q : Nat} (h : RELx n d t u sd ρ k nx H m tb9 G σ) (hs : TRc d ρ σ q s) : Ok (f_X4_inForce t 60 s) (fun v s1 => v = forS d (itS d none q ρ) ∧ TRc d ρ σ q s1) := by
  have hT := h.tc.T7
  have h2 := h.fr hs.2
  unfold f_X4_inForce
  refine Ok.cle (e_firstLanding hs.1.1 hT) ?_
  unfold firI
  rw [hs.1.ff]
  by_cases c : firS d.1.1.1 (itS d none q ρ) < d.1.1.1
  · have oc := oth_cnt c
    have cl := cntB_le (p := lnR (itS d none q ρ) 0) (n := d.1.1.1)
    have ud := up_drop (ρ := itS d none q ρ) (f := firS d.1.1.1 (itS d none q ρ)) hT
    rw [if_pos c, for_eq hT c]
    generalize firS d.1.1.1 (itS d none q ρ) = f at c oc ud
    refine Ok.f (by rw [nIt (by omega)]; omega) (Ok.cle (e_howManyUp hs.1.1 hT) (Ok.cle (e_howManyLand hs.1.1 hT) ?_))
    rw [hs.1.cntUp, hs.1.cntLn, ← oc, nI_mm (by omega), nI_sub (by omega) (by have := cntB_le (p := upR (itS d none q ρ)) (n := d.1.1.1); omega)]
    refine Ok.cv (e_lookAt hs.1 h2.tc h.tk a60 c hT c) (fun s7 h7 => ?_)
    obtain ⟨v7, f7⟩ := h7
    have F7 := hs.2.tr (f7.sub lk_wQ)
    have h7 := h.fr F7
    rw [show (2 : Int32) = nI 2 from rfl]
    refine Ok.cl (w_asksV (k := 2) v7 h7.tc h.ok h.tk (by decide)) (fun r s9 h9 => Ok.ret ⟨h9.1, ?_, F7.tr (h9.2.1.mono (fun _ _ => wQ_an) (fun _ e => e))⟩)
    exact (hs.1.fr f7 (fun i k x y => by simp; omega)).fr h9.2.1 (fun i k x y => wAns_a a60 x)
  · rw [if_neg c]
    refine Ok.t (by decide) (Ok.ret ⟨?_, hs⟩)
    unfold forS
    rw [if_neg c]
def rulN (d : DAT) (ρ : Nat → Int32) : Nat → Int32
  | 0 => 0
  | k + 1 => rulN d ρ k + forS d (itS d none k ρ)
def rulS (d : DAT) (ρ : Nat → Int32) (x : Int32) : Int32 := if 1 ≤ x.toInt ∧ x.toInt ≤ 60 then rulN d ρ x.toInt.toNat else -100000
theorem rulS_in {q : Nat} (h1 : 1 ≤ q) (hq : q ≤ 60) : rulS d ρ (nI q) = rulN d ρ q := by
  unfold rulS
  rw [nIt (by omega), Int.toNat_natCast]
  exact if_pos ⟨by omega, by omega⟩
theorem q_rule_c (h : RELx n d t u sd ρ k nx H m tb9 G σ) (hn : n ≤ 512) : Ok (f_X11_rule x σ) (fun r s => r = rulS d ρ x ∧ frm wQ wl0 σ s) := by
  have hT := h.tc.T7
  unfold f_X11_rule
  refine Ok.cle e_isSpan ?_
  by_cases c : 1 ≤ x.toInt ∧ x.toInt ≤ 60
  · refine Ok.f (fun e => if10.mp e c) (Ok.cv (c_trial h) (fun s3 h3 => ?_))
    obtain ⟨Z, hZ, rfl⟩ := in_60 c
    rw [rulS_in hZ.1 hZ.2]
    have loop : ∀ (dd q N : Nat) (s : HS), q + dd = Z → dd < N → TRc d ρ σ q s → Ok (f_X11_rule_26 N (nI Z) (rulN d ρ q) (nI q) s) (fun r s => r = rulN d ρ Z ∧ frm wQ wl0 σ s) := by
      intro dd
      induction dd with
      | zero =>
        intro q N s hq hN hs
        obtain ⟨N, rfl⟩ : ∃ q, N = q + 1 := ⟨N - 1, by omega⟩
        obtain rfl : q = Z := by omega
        show Ok (b_X11_rule_26 (f_X11_rule_26 N) (nI q) _ (nI q) s) _
        unfold b_X11_rule_26
        exact Ok.f (Int.lt_irrefl _) (Ok.ret ⟨rfl, hs.2⟩)
      | succ dd ih =>
        intro q N s hq hN hs
        obtain ⟨N, rfl⟩ : ∃ q, N = q + 1 := ⟨N - 1, by omega⟩
        show Ok (b_X11_rule_26 (f_X11_rule_26 N) (nI Z) _ (nI q) s) _
        unfold b_X11_rule_26
        rw [nIt (n := q) (by omega), nIt (n := Z) (by omega), TRc.t0 h hs]
        refine Ok.t (by omega) (Ok.t h.tk (Ok.cl (w_inForce h hs) (fun v s2 h2 => ?_)))
        obtain ⟨rfl, T2⟩ := h2
        refine Ok.bd ?_
        rw [TRc.t0 h T2]
        refine Ok.t h.tk (Ok.cv (c_safe h hn (by omega) T2) (fun s6 h6 => Ok.bd ?_))
        rw [nI_1]
        exact ih (q + 1) N s6 (by omega) (by omega) h6
    rw [show f_X11_rule_26 5000 (nI Z) 0 0 s3 = f_X11_rule_26 5000 (nI Z) (rulN d ρ 0) (nI 0) s3 by rw [nI_0]; rfl]
    exact loop Z 0 5000 s3 (by omega) (by omega) h3
  · exact Ok.t (if10.mpr c) (Ok.ret ⟨(if_neg c).symm, frm.rf⟩)
theorem q_rule_m (h : RELx n d t u sd ρ k nx H m tb9 G σ) (hn : n ≤ 512) : Ok (f_X12_rule x σ) (fun r s => r = rulS d ρ x ∧ frm wQ wl0 σ s) := by
  have hT := h.tc.T7
  unfold f_X12_rule
  refine Ok.cle e_isSome ?_
  by_cases c : 1 ≤ x.toInt ∧ x.toInt ≤ 60
  · refine Ok.f (fun e => if10.mp e c) (Ok.cv (m_trial h) (fun s3 h3 => ?_))
    obtain ⟨Z, hZ, rfl⟩ := in_60 c
    rw [rulS_in hZ.1 hZ.2]
    have loop : ∀ (dd q N : Nat) (s : HS), q + dd = Z → dd < N → TRm d ρ σ q s → Ok (f_X12_rule_19 N (nI Z) (rulN d ρ q) (nI q) s) (fun r s => r = rulN d ρ Z ∧ frm wQ wl0 σ s) := by
      intro dd
      induction dd with
      | zero =>
        intro q N s hq hN hs
        obtain ⟨N, rfl⟩ : ∃ q, N = q + 1 := ⟨N - 1, by omega⟩
        obtain rfl : q = Z := by omega
        show Ok (b_X12_rule_19 (f_X12_rule_19 N) (nI q) _ (nI q) s) _
        unfold b_X12_rule_19
        exact Ok.f (Int.lt_irrefl _) (Ok.ret ⟨rfl, hs.2.2⟩)
      | succ dd ih =>
        intro q N s hq hN hs
        obtain ⟨N, rfl⟩ : ∃ q, N = q + 1 := ⟨N - 1, by omega⟩
        show Ok (b_X12_rule_19 (f_X12_rule_19 N) (nI Z) _ (nI q) s) _
        unfold b_X12_rule_19
        rw [nIt (n := q) (by omega), nIt (n := Z) (by omega)]
        refine Ok.t (by omega) (Ok.cv (m_beat h hn (by omega) hs) (fun s1 h1 => Ok.bd (Ok.bd ?_)))
        rw [nI_1, h1.2.2.2.1]
        exact ih (q + 1) N s1 (by omega) (by omega) h1.1
    rw [show f_X12_rule_19 5000 (nI Z) 0 0 s3 = f_X12_rule_19 5000 (nI Z) (rulN d ρ 0) (nI 0) s3 by rw [nI_0]; rfl]
    exact loop Z 0 5000 s3 (by omega) (by omega) h3
  · exact Ok.t (if10.mpr c) (Ok.ret ⟨(if_neg c).symm, frm.rf⟩)
theorem sim_rule (hn : n ≤ 512) : SIM n (f_X11_rule x) (f_X12_rule x) := sim_q (fun d t u sd ρ k nx H m tb G σ h => ⟨_, q_rule_c h hn, fun s hs _ => q_rule_m hs hn⟩)
/-! lands -/
theorem bset_ins {q : Nat → Bool} {a : Nat} : ∀ {n : Nat}, a < n → bset q n ||| bitI a = bset (fun e => q e || decide (e = a)) n := by
  intro n
  induction n with
  | zero => intro h; omega
  | succ n ih =>
    intro h
    show (if q n = true then bset q n ||| bitI n else bset q n) ||| bitI a = (if (q n || decide (n = a)) = true then bset (fun e => q e || decide (e = a)) n ||| bitI n else bset (fun e => q e || decide (e = a)) n)
    by_cases c : n = a
    · subst c
      have e : bset (fun e => q e || decide (e = n)) n = bset q n := bset_cg (fun e he => by rw [decide_eq_false (by omega), Bool.or_false])
      rw [e, decide_eq_true rfl, Bool.or_true, if_pos rfl]
      by_cases cq : q n = true
      · rw [if_pos cq, Int32.or_assoc, Int32.or_self]
      · rw [if_neg cq]
    · rw [decide_eq_false c, Bool.or_false, ← ih (by omega)]
      by_cases cq : q n = true
      · rw [if_pos cq, if_pos cq, Int32.or_assoc, Int32.or_comm (bitI n), ← Int32.or_assoc]
      · rw [if_neg cq, if_neg cq]
def lanP (ρ : Nat → Int32) (T n : Nat) : Bool := decide (0 < cntB (lnR ρ n) T)
def lanS (d : DAT) (ρ : Nat → Int32) : Int32 := bset (lanP ρ d.1.1.1) 10
theorem lb_eq {f : Nat → Int32} {q : Nat → Bool} (hq : ∀ e, e < T → q e = upR ρ e) (hf : ∀ e, e < T → f e = ρ (7 + e)) (hr : ∀ e, e < T → (ρ e).toInt = 0 → 0 ≤ (ρ (7 + e)).toInt ∧ (ρ (7 + e)).toInt ≤ 9) : ∀ {n : Nat}, n ≤ T → lbA f q n = bset (lanP ρ n) 10 := by
  intro n
  induction n with
  | zero =>
    intro _
    show (0 : Int32) = bset (fun _ => decide (0 < 0)) 10
    decide
  | succ n ih =>
    intro hn
    show (if q n = true then lbA f q n ||| ((1 : Int32) <<< (f n &&& 31)) else lbA f q n) = _
    rw [hq n (by omega), hf n (by omega), ih (by omega)]
    by_cases c : (ρ n).toInt = 0
    · have r := hr n (by omega) c
      have eu : upR ρ n = true := decide_eq_true c
      obtain ⟨a, ha, ea⟩ : ∃ a, a < 10 ∧ ρ (7 + n) = nI a := ⟨(ρ (7 + n)).toInt.toNat, by omega, nI_tn r.1 (by omega)⟩
      rw [if_pos eu, ea]
      show bset (lanP ρ n) 10 ||| bitI a = _
      rw [bset_ins ha]
      refine bset_cg (fun e he => ?_)
      unfold lanP
      show (decide (0 < cntB (lnR ρ e) n) || decide (e = a)) = decide (0 < (if lnR ρ e n = true then cntB (lnR ρ e) n + 1 else cntB (lnR ρ e) n))
      by_cases ce : e = a
      · have el : lnR ρ e n = true := ln_iff.mpr ⟨c, by rw [ea, nIt (by omega), ce]⟩
        rw [if_pos el, decide_eq_true ce, Bool.or_true, decide_eq_true (by omega)]
      · have el : ¬ lnR ρ e n = true := fun h => ce (by
          have := (ln_iff.mp h).2
          rw [ea, nIt (by omega)] at this
          omega)
        rw [if_neg el, decide_eq_false ce, Bool.or_false]
    · have eu : ¬ upR ρ n = true := by unfold upR; rw [decide_eq_false c]; decide
      rw [if_neg eu]
      refine bset_cg (fun e he => ?_)
      unfold lanP
      show decide (0 < cntB (lnR ρ e) n) = decide (0 < (if lnR ρ e n = true then cntB (lnR ρ e) n + 1 else cntB (lnR ρ e) n))
      rw [if_neg (fun h => c (ln_iff.mp h).1)]
theorem e_landBits (h : RELx n d t u sd ρ k nx H m tb9 G σ) : f_X0_landingBits 56 σ = some (lanS d ρ, σ) := by
  rw [e_landingBits h.ar.1 h.tc.T7, lb_eq (T := d.1.1.1) (ρ := ρ) (fun e he => h.ar.up he) (fun e he => (h.ar.2.1 e he).2.1) (fun e he h0 => (h.rw.1 e he).2 h0) (Nat.le_refl _)]; rfl
theorem q_lands_c (h : RELx n d t u sd ρ k nx H m tb9 G σ) : Ok (f_X11_lands σ) (fun r s => r = lanS d ρ ∧ frm wQ wl0 σ s) := by
  unfold f_X11_lands
  exact Ok.cle (e_landBits h) (Ok.ret ⟨rfl, frm.rf⟩)
theorem w_landsM (h : RELx n d t u sd ρ k nx H m tb9 G σ) : Ok (f_X12_lands σ) (fun r s => r = lanS d ρ ∧ RRm ρ s ∧ frm wCp wl0 σ s) := by
  have hT := h.tc.T7
  unfold f_X12_lands
  refine Ok.cv (w_copies h.tm h.nw) (fun s1 h1 => ?_)
  obtain ⟨R1, -, -, f1⟩ := h1
  have h2 := h.fr (f1.sub cp_wQ)
  have loop : ∀ (dd q N : Nat), q + dd = 10 → dd < N → f_X12_lands_8 N (bset (lanP ρ d.1.1.1) q) (nI q) s1 = some (lanS d ρ, s1) := by
    intro dd
    induction dd with
    | zero =>
      intro q N hq hN
      obtain ⟨N, rfl⟩ : ∃ q, N = q + 1 := ⟨N - 1, by omega⟩
      obtain rfl : q = 10 := by omega
      show b_X12_lands_8 (f_X12_lands_8 N) _ (nI 10) s1 = _
      unfold b_X12_lands_8
      rw [if_neg (by decide)]; rfl
    | succ dd ih =>
      intro q N hq hN
      obtain ⟨N, rfl⟩ : ∃ q, N = q + 1 := ⟨N - 1, by omega⟩
      have ih1 := ih (q + 1) N (by omega) (by omega)
      have eb : bset (lanP ρ d.1.1.1) (q + 1) = if lanP ρ d.1.1.1 q = true then bset (lanP ρ d.1.1.1) q ||| bitI q else bset (lanP ρ d.1.1.1) q := rfl
      rw [eb] at ih1
      have cl := cntB_le (p := lnR ρ q) (n := d.1.1.1)
      show b_X12_lands_8 (f_X12_lands_8 N) _ (nI q) s1 = _
      unfold b_X12_lands_8 f_X12_lands_28
      rw [e_landsAt h2.tm.lv, nIt (n := q) (by omega), if_pos (show (q : Int) < 10 by omega), R1.cntLn hT]
      simp only [Cl, Bd]
      rw [nI_1, nIt (n := cntB (lnR ρ q) d.1.1.1) (by omega)]
      unfold lanP at ih1 ⊢
      by_cases c : 0 < cntB (lnR ρ q) d.1.1.1
      · rw [if_pos (decide_eq_true c)] at ih1
        rw [if_pos (show (0 : Int) < cntB (lnR ρ q) d.1.1.1 by omega)]
        exact ih1
      · have cn : ¬ decide (0 < cntB (lnR ρ q) d.1.1.1) = true := by rw [decide_eq_false c]; decide
        rw [if_neg cn] at ih1
        rw [if_neg (show ¬ (0 : Int) < cntB (lnR ρ q) d.1.1.1 by omega)]
        exact ih1
  have := loop 10 0 5000 (by omega) (by omega)
  rw [nI_0] at this
  exact Ok.of this ⟨rfl, R1, f1⟩
theorem q_lands_m (h : RELx n d t u sd ρ k nx H m tb9 G σ) : Ok (f_X12_lands σ) (fun r s => r = lanS d ρ ∧ frm wQ wl0 σ s) := (w_landsM h).mono (fun r s h => ⟨h.1, h.2.2.sub cp_wQ⟩)
theorem sim_lands : SIM n f_X11_lands f_X12_lands := sim_q (fun d t u sd ρ k nx H m tb G σ h => ⟨_, q_lands_c h, fun s hs _ => q_lands_m hs⟩)
end WOULB
/-! what would be, with drops: then, year; handover, limit, down, light (that they answer) -/
section WOULC
variable {σ s : HS} {n t u sd k nx m p L T : Nat} {ρ : Nat → Int32} {d : DAT} {b : Int} {H G : Nat → Nat → Int32} {tb9 : Nat → Nat} {x y z : Int32}
def seeI (d : DAT) : Int32 := Int32.ofInt d.2.1.2
theorem see_v (hD : DOK d) : (seeI d).toInt = d.2.1.2 := by
  have := hD.2.2.1.2
  unfold seeI
  rw [Int32.toInt_ofInt]; exact i32_bm (by omega)
theorem see_c (h : RELx n d t u sd ρ k nx H m tb9 G σ) : σ.1 t 11 = seeI d := ofI h.tc.2.2.1.2
theorem see_k (hD : DOK d) {q : Nat} (hq : q ≤ 100) : (seeI d + nI q).toInt = d.2.1.2 + q := by
  have := hD.2.2.1.2
  rw [i32_add (by rw [see_v hD, nIt (by omega)]; omega), see_v hD, nIt (by omega)]
theorem SDr.see (hD : DOK d) {q : Nat} (hq : q ≤ 100) : SDr (seeI d + nI q) (some (seeI d + nI q)) := Or.inr ⟨rfl, by
  have := hD.2.2.1.2
  rw [see_k hD hq]; omega⟩
theorem SDr.see0 (hD : DOK d) : SDr (seeI d) (some (seeI d)) := Or.inr ⟨rfl, by
  have := hD.2.2.1.2
  rw [see_v hD]; omega⟩
/-- a trial of the class with drops -/
def TRd (d : DAT) (v : Int32) (ρ : Nat → Int32) (σ : HS) (k : Nat) (s : HS) : Prop := AR 60 d.1.1.1 (itS d (some v) k ρ) s ∧ frm wQ wl0 σ s
theorem c_go {v : Int32} {r : Nat → Int32} {q : Nat} (h : RELx n d t u sd ρ k nx H m tb9 G σ) (hr : RW d 30720 r) (hA : AR 60 d.1.1.1 r s) (hf : frm wQ wl0 σ s) (hq : q ≤ 60) (hv : SDr v (some v)) : Okv (f_X4_goOn t 60 (nI q) v s) (TRd d v r σ q) := by
  have h2 := h.fr hf
  exact (w_goOn h2.tc h.ok h.tk a60 hv (by omega) hA hr (by omega)).mono (fun s1 h1 => ⟨h1.1, hf.tr (h1.2.sub bt_wQ)⟩)
def thnI (d : DAT) (ρ : Nat → Int32) (q : Nat) (y : Int32) : Int32 := if y.toInt = 0 then itS d (some (seeI d)) q ρ 22 else if y.toInt = 1 then upsS d.1.1.1 (itS d (some (seeI d)) q ρ) else if y.toInt = 2 then itS d (some (seeI d)) q ρ 23 - ρ 23 else itS d (some (seeI d)) q ρ 25 - ρ 25
def thnS (d : DAT) (ρ : Nat → Int32) (x y : Int32) : Int32 := if (0 ≤ x.toInt ∧ x.toInt ≤ 60) ∧ (0 ≤ y.toInt ∧ y.toInt ≤ 3) then thnI d ρ x.toInt.toNat y else -1
theorem thnS_in {q : Nat} (hq : q ≤ 60) (hy : 0 ≤ y.toInt ∧ y.toInt ≤ 3) : thnS d ρ (nI q) y = thnI d ρ q y := by
  unfold thnS
  rw [nIt (by omega), Int.toNat_natCast]
  exact if_pos ⟨⟨by omega, by omega⟩, hy⟩
theorem q_then_c (h : RELx n d t u sd ρ k nx H m tb9 G σ) (hn : n ≤ 512) : Ok (f_X11_then x y σ) (fun r s => r = thnS d ρ x y ∧ frm wQ wl0 σ s) := by
  have hT := h.tc.T7
  unfold f_X11_then
  by_cases c1 : x.toInt < 0
  · exact Ok.t c1 (Ok.ret ⟨(clo_no (fun h => by omega)).symm, frm.rf⟩)
  by_cases c2 : 60 < x.toInt
  · exact Ok.f c1 (Ok.t c2 (Ok.ret ⟨(clo_no (fun h => by omega)).symm, frm.rf⟩))
  by_cases c3 : y.toInt < 0
  · exact Ok.f c1 (Ok.f c2 (Ok.t c3 (Ok.ret ⟨(clo_no (fun h => by omega)).symm, frm.rf⟩)))
  by_cases c4 : 3 < y.toInt
  · exact Ok.f c1 (Ok.f c2 (Ok.f c3 (Ok.t c4 (Ok.ret ⟨(clo_no (fun h => by omega)).symm, frm.rf⟩))))
  refine Ok.f c1 (Ok.f c2 (Ok.f c3 (Ok.f c4 (Ok.cv (c_trial h) (fun s1 h1 => ?_)))))
  obtain ⟨q, hq, rfl⟩ : ∃ q, q < 61 ∧ x = nI q := in_T (T := 61) (by omega) (by decide)
  have h2 := h.fr h1.2
  rw [thnS_in (by omega) (by omega), h2.t0, see_c h2]
  refine Ok.t h.tk (Ok.t h.tk (Ok.cv (c_go h (h.n0 hn) h1.1 h1.2 (by omega) (SDr.see0 h.ok)) (fun s5 h5 => ?_)))
  have h5r := h.fr h5.2
  have A5 := h5.1
  have A0 := h5r.ar
  by_cases d0 : y.toInt = 0
  · refine Ok.t d0 (Ok.ret ⟨?_, h5.2⟩)
    unfold thnI; rw [if_pos d0]; exact A5.2.2.1 5 (by decide) (by decide)
  refine Ok.f d0 ?_
  by_cases d1 : y.toInt = 1
  · refine Ok.t d1 (Ok.cle (e_howManyUp A5.1 hT) (Ok.ret ⟨?_, h5.2⟩))
    unfold thnI; rw [if_neg d0, if_pos d1, A5.cntUp]; rfl
  refine Ok.f d1 ?_
  by_cases d2 : y.toInt = 2
  · refine Ok.t d2 (Ok.ret ⟨?_, h5.2⟩)
    unfold thnI; rw [if_neg d0, if_neg d1, if_pos d2, A5.2.2.1 6 (by decide) (by decide), A0.2.2.1 6 (by decide) (by decide)]
  · refine Ok.f d2 (Ok.ret ⟨?_, h5.2⟩)
    unfold thnI; rw [if_neg d0, if_neg d1, if_neg d2, A5.2.2.1 8 (by decide) (by decide), A0.2.2.1 8 (by decide) (by decide)]
theorem q_then_m (h : RELx n d t u sd ρ k nx H m tb9 G σ) (hn : n ≤ 512) : Ok (f_X12_then x y σ) (fun r s => r = thnS d ρ x y ∧ frm wQ wl0 σ s) := by
  have hT := h.tc.T7
  have e3 : (3 : Int32).toInt = 3 := rfl
  unfold f_X12_then
  refine Ok.cle e_isLong ?_
  by_cases c : 0 ≤ x.toInt ∧ x.toInt ≤ 60
  · refine Ok.f (fun e => if10.mp e c) (Ok.cle e_in ?_)
    rw [i0_eq, e3]
    by_cases cy : 0 ≤ y.toInt ∧ y.toInt ≤ 3
    · refine Ok.f (fun e => if10.mp e cy) (Ok.cv (w_copies h.tm h.nw) (fun s5 h5 => ?_))
      obtain ⟨q, hq, rfl⟩ : ∃ q, q < 61 ∧ x = nI q := in_T (T := 61) (by omega) (by decide)
      rw [thnS_in (by omega) cy]
      obtain ⟨R5, x5, -, f5⟩ := h5
      have F5 := f5.sub cp_wQ
      have h5 := h.fr F5
      refine Ok.cv (w_goes (b := 30720) h5.tm h.ok h.tc.ln (by omega) R5 (h.n0 hn) (by omega) x5) (fun s7 h7 => ?_)
      obtain ⟨R7, f7⟩ := h7
      have F7 := F5.tr (f7.sub bm_wQ)
      have h7 := h.fr F7
      have N7 := h7.nw
      by_cases d0 : y.toInt = 0
      · refine Ok.t d0 (Ok.ret ⟨?_, F7⟩)
        unfold thnI; rw [if_pos d0]; exact R7 22 (by decide)
      refine Ok.f d0 ?_
      by_cases d1 : y.toInt = 1
      · refine Ok.t d1 (Ok.cle (e_thingsSo h7.tm.lv) (Ok.cle e_bits (Ok.ret ⟨?_, F7⟩)))
        unfold thnI; rw [if_neg d0, if_pos d1, pcM_cnt (by omega)]
        unfold upsS
        exact congrArg nI (R7.cntUp hT)
      refine Ok.f d1 ?_
      by_cases d2 : y.toInt = 2
      · refine Ok.t d2 (Ok.ret ⟨?_, F7⟩)
        unfold thnI; rw [if_neg d0, if_neg d1, if_pos d2, R7 23 (by decide), N7 23 (by decide)]; rfl
      · refine Ok.f d2 (Ok.ret ⟨?_, F7⟩)
        unfold thnI; rw [if_neg d0, if_neg d1, if_neg d2, R7 25 (by decide), N7 25 (by decide)]; rfl
    · exact Ok.t (if10.mpr cy) (Ok.ret ⟨(clo_no (fun h => cy h.2)).symm, frm.rf⟩)
  · exact Ok.t (if10.mpr c) (Ok.ret ⟨(clo_no (fun h => c h.1)).symm, frm.rf⟩)
theorem sim_then (hn : n ≤ 512) : SIM n (f_X11_then x y) (f_X12_then x y) := sim_q (fun d t u sd ρ k nx H m tb G σ h => ⟨_, q_then_c h hn, fun s hs _ => q_then_m hs hn⟩)
/-! year -/
def yeaP (d : DAT) (ρ : Nat → Int32) (q k : Nat) : Bool := decide ((itS d (some (seeI d + nI k)) q ρ 23).toInt = (ρ 23).toInt)
def yeaS (d : DAT) (ρ : Nat → Int32) (x y : Int32) : Int32 := if (0 ≤ x.toInt ∧ x.toInt ≤ 60) ∧ (1 ≤ y.toInt ∧ y.toInt ≤ 20) then nI (cntB (yeaP d ρ x.toInt.toNat) y.toInt.toNat) else -1
theorem yeaS_in {q Z : Nat} (hq : q ≤ 60) (hZ : 1 ≤ Z ∧ Z ≤ 20) : yeaS d ρ (nI q) (nI Z) = nI (cntB (yeaP d ρ q) Z) := by
  unfold yeaS
  rw [nIt (n := q) (by omega), nIt (n := Z) (by omega), Int.toNat_natCast, Int.toNat_natCast]
  exact if_pos ⟨⟨by omega, by omega⟩, ⟨by omega, by omega⟩⟩
theorem q_year_c (h : RELx n d t u sd ρ k nx H m tb9 G σ) (hn : n ≤ 512) : Ok (f_X11_year x y σ) (fun r s => r = yeaS d ρ x y ∧ frm wQ wl0 σ s) := by
  have hT := h.tc.T7
  unfold f_X11_year
  by_cases c1 : x.toInt < 0
  · exact Ok.t c1 (Ok.ret ⟨(clo_no (fun h => by omega)).symm, frm.rf⟩)
  by_cases c2 : 60 < x.toInt
  · exact Ok.f c1 (Ok.t c2 (Ok.ret ⟨(clo_no (fun h => by omega)).symm, frm.rf⟩))
  by_cases c3 : y.toInt < 1
  · exact Ok.f c1 (Ok.f c2 (Ok.t c3 (Ok.ret ⟨(clo_no (fun h => by omega)).symm, frm.rf⟩)))
  by_cases c4 : 20 < y.toInt
  · exact Ok.f c1 (Ok.f c2 (Ok.f c3 (Ok.t c4 (Ok.ret ⟨(clo_no (fun h => by omega)).symm, frm.rf⟩))))
  refine Ok.f c1 (Ok.f c2 (Ok.f c3 (Ok.f c4 ?_)))
  obtain ⟨q, hq, rfl⟩ : ∃ q, q < 61 ∧ x = nI q := in_T (T := 61) (by omega) (by decide)
  obtain ⟨Z, hZ, rfl⟩ : ∃ q, q < 21 ∧ y = nI q := in_T (T := 21) (by omega) (by decide)
  rw [nIt (by omega)] at c3
  rw [yeaS_in (by omega) (by omega)]
  have loop : ∀ (dd j N : Nat) (s : HS), j + dd = Z → dd < N → frm wQ wl0 σ s → Ok (f_X11_year_28 N (nI q) (nI Z) (nI (cntB (yeaP d ρ q) j)) (nI j) s) (fun r s => r = nI (cntB (yeaP d ρ q) Z) ∧ frm wQ wl0 σ s) := by
    intro dd
    induction dd with
    | zero =>
      intro j N s hj hN hf
      obtain ⟨N, rfl⟩ : ∃ q, N = q + 1 := ⟨N - 1, by omega⟩
      obtain rfl : j = Z := by omega
      show Ok (b_X11_year_28 (f_X11_year_28 N) (nI q) (nI j) _ (nI j) s) _
      unfold b_X11_year_28
      exact Ok.f (Int.lt_irrefl _) (Ok.ret ⟨rfl, hf⟩)
    | succ dd ih =>
      intro j N s hj hN hf
      obtain ⟨N, rfl⟩ : ∃ q, N = q + 1 := ⟨N - 1, by omega⟩
      have h2 := h.fr hf
      have ec : cntB (yeaP d ρ q) (j + 1) = if yeaP d ρ q j = true then cntB (yeaP d ρ q) j + 1 else cntB (yeaP d ρ q) j := rfl
      show Ok (b_X11_year_28 (f_X11_year_28 N) (nI q) (nI Z) _ (nI j) s) _
      unfold b_X11_year_28 f_X11_year_91
      rw [nIt (n := j) (by omega), nIt (n := Z) (by omega)]
      refine Ok.t (by omega) (Ok.cv (c_trial h2) (fun s1 h1 => ?_))
      have F1 := hf.tr h1.2
      have h1r := h.fr F1
      rw [h1r.t0, see_c h1r]
      refine Ok.t h.tk (Ok.t h.tk (Ok.cv (c_go h (h.n0 hn) h1.1 F1 (by omega) (SDr.see h.ok (by omega))) (fun s5 h5 => ?_)))
      have h5r := h.fr h5.2
      rw [h5.1.2.2.1 6 (by decide) (by decide), h5r.ar.2.2.1 6 (by decide) (by decide)]
      by_cases cp : (itS d (some (seeI d + nI j)) q ρ 23).toInt = (ρ 23).toInt
      · have ep : yeaP d ρ q j = true := decide_eq_true cp
        refine Ok.t cp (Ok.bd (Ok.bd ?_))
        rw [nI_1, nI_1]
        have := ih (j + 1) N s5 (by omega) (by omega) h5.2
        rw [ec, if_pos ep] at this
        exact this
      · have ep : ¬ yeaP d ρ q j = true := by unfold yeaP; rw [decide_eq_false cp]; decide
        refine Ok.f cp (Ok.bd ?_)
        rw [nI_1]
        have := ih (j + 1) N s5 (by omega) (by omega) h5.2
        rw [ec, if_neg ep] at this
        exact this
  have := loop Z 0 5000 σ (by omega) (by omega) frm.rf
  rw [show nI (cntB (yeaP d ρ q) 0) = 0 from nI_0, nI_0] at this
  exact this
theorem q_year_m (h : RELx n d t u sd ρ k nx H m tb9 G σ) (hn : n ≤ 512) : Ok (f_X12_year x y σ) (fun r s => r = yeaS d ρ x y ∧ frm wQ wl0 σ s) := by
  have hT := h.tc.T7
  have e20 : (20 : Int32).toInt = 20 := rfl
  unfold f_X12_year
  refine Ok.cle e_isLong ?_
  by_cases c : 0 ≤ x.toInt ∧ x.toInt ≤ 60
  · refine Ok.f (fun e => if10.mp e c) (Ok.cle e_in ?_)
    rw [i1_e, e20]
    by_cases cy : 1 ≤ y.toInt ∧ y.toInt ≤ 20
    · refine Ok.f (fun e => if10.mp e cy) ?_
      obtain ⟨q, hq, rfl⟩ : ∃ q, q < 61 ∧ x = nI q := in_T (T := 61) (by omega) (by decide)
      obtain ⟨Z, hZ, rfl⟩ : ∃ q, q < 21 ∧ y = nI q := in_T (T := 21) (by omega) (by decide)
      rw [nIt (by omega)] at cy
      rw [yeaS_in (by omega) (by omega)]
      have loop : ∀ (dd j N : Nat) (s : HS), j + dd = Z → dd < N → frm wQ wl0 σ s → Ok (f_X12_year_24 N (nI q) (nI Z) (nI (cntB (yeaP d ρ q) j)) (nI j) s) (fun r s => r = nI (cntB (yeaP d ρ q) Z) ∧ frm wQ wl0 σ s) := by
        intro dd
        induction dd with
        | zero =>
          intro j N s hj hN hf
          obtain ⟨N, rfl⟩ : ∃ q, N = q + 1 := ⟨N - 1, by omega⟩
          obtain rfl : j = Z := by omega
          show Ok (b_X12_year_24 (f_X12_year_24 N) (nI q) (nI j) _ (nI j) s) _
          unfold b_X12_year_24
          exact Ok.f (Int.lt_irrefl _) (Ok.ret ⟨rfl, hf⟩)
        | succ dd ih =>
          intro j N s hj hN hf
          obtain ⟨N, rfl⟩ : ∃ q, N = q + 1 := ⟨N - 1, by omega⟩
          have h2 := h.fr hf
          have ec : cntB (yeaP d ρ q) (j + 1) = if yeaP d ρ q j = true then cntB (yeaP d ρ q) j + 1 else cntB (yeaP d ρ q) j := rfl
          show Ok (b_X12_year_24 (f_X12_year_24 N) (nI q) (nI Z) _ (nI j) s) _
          unfold b_X12_year_24 f_X12_year_70
          rw [nIt (n := j) (by omega), nIt (n := Z) (by omega)]
          refine Ok.t (by omega) (Ok.cv (w_copies h2.tm h2.nw) (fun s1 h1 => Ok.bd ?_))
          obtain ⟨R1, x1, e49, f1⟩ := h1
          have e49' : s1.1 236 49 = seeI d := e49
          rw [e49']
          generalize hs3 : hI s1 236 49 (seeI d + nI j) = s3
          have R3 : RRm ρ s3 := fun i hi => by rw [← hs3, rI_i (by decide)]; exact R1 i hi
          have x3 : SDm (some (seeI d + nI j)) s3 := by
            rcases x1 with ⟨h1, -⟩ | ⟨-, h50⟩
            · exact nomatch h1
            · exact Or.inr ⟨by rw [← hs3, rI_s], by rw [← hs3, rI_k (by decide)]; exact h50⟩
          have F3 : frm wQ wl0 σ s3 := by rw [← hs3]; exact (hf.tr (f1.sub cp_wQ)).I rfl
          have h3 := h.fr F3
          refine Ok.cv (w_goes (b := 30720) h3.tm h.ok h.tc.ln (by omega) R3 (h.n0 hn) (by omega) x3) (fun s4 h4 => ?_)
          obtain ⟨R4, f4⟩ := h4
          have F4 := F3.tr (f4.sub bm_wQ)
          have h4 := h.fr F4
          rw [R4 23 (by decide), h4.nw 23 (by decide)]
          by_cases cp : (itS d (some (seeI d + nI j)) q ρ 23).toInt = (ρ 23).toInt
          · have ep : yeaP d ρ q j = true := decide_eq_true cp
            refine Ok.t cp (Ok.bd (Ok.bd ?_))
            rw [nI_1, nI_1]
            have := ih (j + 1) N s4 (by omega) (by omega) F4
            rw [ec, if_pos ep] at this
            exact this
          · have ep : ¬ yeaP d ρ q j = true := by unfold yeaP; rw [decide_eq_false cp]; decide
            refine Ok.f cp (Ok.bd ?_)
            rw [nI_1]
            have := ih (j + 1) N s4 (by omega) (by omega) F4
            rw [ec, if_neg ep] at this
            exact this
      have := loop Z 0 5000 σ (by omega) (by omega) frm.rf
      rw [show nI (cntB (yeaP d ρ q) 0) = 0 from nI_0, nI_0] at this
      exact this
    · exact Ok.t (if10.mpr cy) (Ok.ret ⟨(clo_no (fun h => cy h.2)).symm, frm.rf⟩)
  · exact Ok.t (if10.mpr c) (Ok.ret ⟨(clo_no (fun h => c h.1)).symm, frm.rf⟩)
theorem sim_year (hn : n ≤ 512) : SIM n (f_X11_year x y) (f_X12_year x y) := sim_q (fun d t u sd ρ k nx H m tb G σ h => ⟨_, q_year_c h hn, fun s hs _ => q_year_m hs hn⟩)
/-! that handover, limit, down answer -/
theorem c_go1 {q : Nat} (h : RELx n d t u sd ρ k nx H m tb9 G σ) (hn : n ≤ 512) (hq : q ≤ 1000) (hs : TRd d (seeI d) ρ σ q s) : Okv (f_X4_goOn t 60 1 (seeI d) s) (TRd d (seeI d) ρ σ (q + 1)) := by
  have h2 := h.fr hs.2
  have hW : RW d (30720 + q) (itS d (some (seeI d)) q ρ) := RW.it h.ok h.tc.ln (by omega) (h.n0 hn)
  rw [show (1 : Int32) = nI 1 from rfl]
  refine (w_goOn h2.tc h.ok h.tk a60 (SDr.see0 h.ok) (by omega) hs.1 hW (by omega)).mono (fun s1 h1 => ⟨?_, hs.2.tr (h1.2.sub bt_wQ)⟩)
  rw [it_add]; exact h1.1
theorem c_trd (h : RELx n d t u sd ρ k nx H m tb9 G σ) : Okv (f_X0_copy 60 56 σ) (TRd d (seeI d) ρ σ 0) := (c_trial h).mono (fun _ h => h)
theorem q_limit_c (h : RELx n d t u sd ρ k nx H m tb9 G σ) (hn : n ≤ 512) : Ok (f_X11_limit x σ) (fun _ s => frm wQ wl0 σ s) := by
  unfold f_X11_limit
  refine Ok.i (fun _ => Ok.ret frm.rf) (fun _ => Ok.i (fun _ => Ok.ret frm.rf) (fun _ => Ok.cv (c_trd h) (fun s1 h1 => ?_)))
  have loop : ∀ (dd q N : Nat) (s : HS), q + dd = 201 → dd < N → TRd d (seeI d) ρ σ q s → Ok (f_X11_limit_26 N x (nI q) s) (fun _ s => frm wQ wl0 σ s) := by
    intro dd
    induction dd with
    | zero =>
      intro q N s hq hN hs
      obtain ⟨N, rfl⟩ : ∃ q, N = q + 1 := ⟨N - 1, by omega⟩
      show Ok (b_X11_limit_26 (f_X11_limit_26 N) x (nI q) s) _
      unfold b_X11_limit_26
      rw [nIt (by omega)]
      exact Ok.t (by omega) (Ok.ret hs.2)
    | succ dd ih =>
      intro q N s hq hN hs
      obtain ⟨N, rfl⟩ : ∃ q, N = q + 1 := ⟨N - 1, by omega⟩
      have h2 := h.fr hs.2
      show Ok (b_X11_limit_26 (f_X11_limit_26 N) x (nI q) s) _
      unfold b_X11_limit_26
      rw [nIt (by omega), h2.t0, see_c h2]
      refine Ok.f (by omega) (Ok.i (fun _ => Ok.t h.tk (Ok.t h.tk (Ok.cv (c_go1 h hn (by omega) hs) (fun s3 h3 => Ok.bd ?_)))) (fun _ => Ok.ret hs.2))
      rw [nI_1]
      exact ih (q + 1) N s3 (by omega) (by omega) h3
  rw [nI0]
  exact loop 201 0 5000 s1 (by omega) (by omega) h1
theorem q_limit_m (h : RELx n d t u sd ρ k nx H m tb9 G σ) (hn : n ≤ 512) : Ok (f_X12_limit x σ) (fun _ s => frm wQ wl0 σ s) := by
  unfold f_X12_limit
  refine Ok.cle e_in (Ok.i (fun _ => Ok.ret frm.rf) (fun _ => Ok.cv (m_trial h) (fun s1 h1 => ?_)))
  have loop : ∀ (dd q N : Nat) (s : HS), q + dd = 201 → dd < N → TRm d ρ σ q s → Ok (f_X12_limit_19 N x (nI q) s) (fun _ s => frm wQ wl0 σ s) := by
    intro dd
    induction dd with
    | zero =>
      intro q N s hq hN hs
      obtain ⟨N, rfl⟩ : ∃ q, N = q + 1 := ⟨N - 1, by omega⟩
      show Ok (b_X12_limit_19 (f_X12_limit_19 N) x (nI q) s) _
      unfold b_X12_limit_19
      rw [nIt (by omega)]
      exact Ok.t (by omega) (Ok.ret hs.2.2)
    | succ dd ih =>
      intro q N s hq hN hs
      obtain ⟨N, rfl⟩ : ∃ q, N = q + 1 := ⟨N - 1, by omega⟩
      show Ok (b_X12_limit_19 (f_X12_limit_19 N) x (nI q) s) _
      unfold b_X12_limit_19
      rw [nIt (by omega)]
      refine Ok.f (by omega) (Ok.i (fun _ => Ok.cv (m_beat h hn (by omega) hs) (fun s3 h3 => Ok.bd ?_)) (fun _ => Ok.ret hs.2.2))
      rw [nI_1]
      exact ih (q + 1) N s3 (by omega) (by omega) h3.1
  rw [nI0]
  exact loop 201 0 5000 s1 (by omega) (by omega) h1
theorem simx_limit (hn : n ≤ 512) : SIMx n (f_X11_limit x) (f_X12_limit x) := sim_x (fun d t u sd ρ k nx H m tb G σ h => ⟨q_limit_c h hn, q_limit_m h hn⟩)
theorem q_down_c (h : RELx n d t u sd ρ k nx H m tb9 G σ) (hn : n ≤ 512) : Ok (f_X11_down σ) (fun _ s => frm wQ wl0 σ s) := by
  have hT := h.tc.T7
  unfold f_X11_down
  refine Ok.cv (c_trd h) (fun s1 h1 => ?_)
  have loop : ∀ (dd q N : Nat) (s : HS), q + dd = 201 → dd < N → TRd d (seeI d) ρ σ q s → Ok (f_X11_down_13 N (nI q) s) (fun _ s => frm wQ wl0 σ s) := by
    intro dd
    induction dd with
    | zero =>
      intro q N s hq hN hs
      obtain ⟨N, rfl⟩ : ∃ q, N = q + 1 := ⟨N - 1, by omega⟩
      show Ok (b_X11_down_13 (f_X11_down_13 N) (nI q) s) _
      unfold b_X11_down_13
      rw [nIt (by omega)]
      exact Ok.t (by omega) (Ok.ret hs.2)
    | succ dd ih =>
      intro q N s hq hN hs
      obtain ⟨N, rfl⟩ : ∃ q, N = q + 1 := ⟨N - 1, by omega⟩
      have h2 := h.fr hs.2
      show Ok (b_X11_down_13 (f_X11_down_13 N) (nI q) s) _
      unfold b_X11_down_13
      rw [nIt (by omega)]
      refine Ok.f (by omega) (Ok.cle (e_howManyUp hs.1.1 hT) (Ok.i (fun _ => Ok.ret hs.2) (fun _ => ?_)))
      rw [h2.t0, see_c h2]
      refine Ok.t h.tk (Ok.t h.tk (Ok.cv (c_go1 h hn (by omega) hs) (fun s3 h3 => Ok.bd ?_)))
      rw [nI_1]
      exact ih (q + 1) N s3 (by omega) (by omega) h3
  rw [nI0]
  exact loop 201 0 5000 s1 (by omega) (by omega) h1
theorem q_down_m (h : RELx n d t u sd ρ k nx H m tb9 G σ) (hn : n ≤ 512) : Ok (f_X12_down σ) (fun _ s => frm wQ wl0 σ s) := by
  unfold f_X12_down
  refine Ok.cv (m_trial h) (fun s1 h1 => ?_)
  have loop : ∀ (dd q N : Nat) (s : HS), q + dd = 201 → dd < N → TRm d ρ σ q s → Ok (f_X12_down_6 N (nI q) s) (fun _ s => frm wQ wl0 σ s) := by
    intro dd
    induction dd with
    | zero =>
      intro q N s hq hN hs
      obtain ⟨N, rfl⟩ : ∃ q, N = q + 1 := ⟨N - 1, by omega⟩
      show Ok (b_X12_down_6 (f_X12_down_6 N) (nI q) s) _
      unfold b_X12_down_6
      rw [nIt (by omega)]
      exact Ok.t (by omega) (Ok.ret hs.2.2)
    | succ dd ih =>
      intro q N s hq hN hs
      obtain ⟨N, rfl⟩ : ∃ q, N = q + 1 := ⟨N - 1, by omega⟩
      have h2 := h.fr hs.2.2
      show Ok (b_X12_down_6 (f_X12_down_6 N) (nI q) s) _
      unfold b_X12_down_6
      rw [nIt (by omega)]
      refine Ok.f (by omega) (Ok.cle (e_thingsSo h2.tm.lv) (Ok.i (fun _ => Ok.ret hs.2.2) (fun _ => Ok.cv (m_beat h hn (by omega) hs) (fun s3 h3 => Ok.bd ?_))))
      rw [nI_1]
      exact ih (q + 1) N s3 (by omega) (by omega) h3.1
  rw [nI0]
  exact loop 201 0 5000 s1 (by omega) (by omega) h1
theorem simx_down (hn : n ≤ 512) : SIMx n f_X11_down f_X12_down := sim_x (fun d t u sd ρ k nx H m tb G σ h => ⟨q_down_c h hn, q_down_m h hn⟩)
theorem q_handover_c (h : RELx n d t u sd ρ k nx H m tb9 G σ) (hn : n ≤ 512) : Ok (f_X11_handover σ) (fun _ s => frm wQ wl0 σ s) := by
  have hT := h.tc.T7
  unfold f_X11_handover
  refine Ok.cv (c_trd h) (fun s1 h1 => Ok.cle (e_bitsOf (h.fr h1.2).ar.1 hT) ?_)
  generalize bset _ _ = w0
  have loop : ∀ (dd q N : Nat) (w : Int32) (s : HS), q + dd = 61 → dd < N → TRd d (seeI d) ρ σ q s → Ok (f_X11_handover_22 N w (nI q) s) (fun _ s => frm wQ wl0 σ s) := by
    intro dd
    induction dd with
    | zero =>
      intro q N w s hq hN hs
      obtain ⟨N, rfl⟩ : ∃ q, N = q + 1 := ⟨N - 1, by omega⟩
      show Ok (b_X11_handover_22 (f_X11_handover_22 N) w (nI q) s) _
      unfold b_X11_handover_22
      rw [nIt (by omega)]
      exact Ok.t (by omega) (Ok.ret hs.2)
    | succ dd ih =>
      intro q N w s hq hN hs
      obtain ⟨N, rfl⟩ : ∃ q, N = q + 1 := ⟨N - 1, by omega⟩
      have h2 := h.fr hs.2
      have go : ∀ w', Ok (f_X11_handover_55 (f_X11_handover_22 N) w' (nI q) s) (fun _ s => frm wQ wl0 σ s) := by
        intro w'
        unfold f_X11_handover_55
        rw [h2.t0, see_c h2]
        refine Ok.t h.tk (Ok.t h.tk (Ok.cv (c_go1 h hn (by omega) hs) (fun s3 h3 => Ok.bd ?_)))
        rw [nI_1]
        exact ih (q + 1) N w' s3 (by omega) (by omega) h3
      show Ok (b_X11_handover_22 (f_X11_handover_22 N) w (nI q) s) _
      unfold b_X11_handover_22
      rw [nIt (by omega)]
      exact Ok.f (by omega) (Ok.i (fun _ => Ok.ret hs.2) (fun _ => Ok.cle (e_firstLanding hs.1.1 hT) (Ok.i (fun _ => go _) (fun _ => Ok.bd (go _)))))
  rw [nI0]
  exact loop 61 0 5000 w0 s1 (by omega) (by omega) h1
theorem q_handover_m (h : RELx n d t u sd ρ k nx H m tb9 G σ) (hn : n ≤ 512) : Ok (f_X12_handover σ) (fun _ s => frm wQ wl0 σ s) := by
  unfold f_X12_handover
  refine Ok.cv (m_trial h) (fun s1 h1 => Ok.cle (e_thingsSo (h.fr h1.2.2).tm.lv) ?_)
  generalize bset _ _ = w0
  have loop : ∀ (dd q N : Nat) (w : Int32) (s : HS), q + dd = 61 → dd < N → TRm d ρ σ q s → Ok (f_X12_handover_12 N w (nI q) s) (fun _ s => frm wQ wl0 σ s) := by
    intro dd
    induction dd with
    | zero =>
      intro q N w s hq hN hs
      obtain ⟨N, rfl⟩ : ∃ q, N = q + 1 := ⟨N - 1, by omega⟩
      show Ok (b_X12_handover_12 (f_X12_handover_12 N) w (nI q) s) _
      unfold b_X12_handover_12
      rw [nIt (by omega)]
      exact Ok.t (by omega) (Ok.ret hs.2.2)
    | succ dd ih =>
      intro q N w s hq hN hs
      obtain ⟨N, rfl⟩ : ∃ q, N = q + 1 := ⟨N - 1, by omega⟩
      show Ok (b_X12_handover_12 (f_X12_handover_12 N) w (nI q) s) _
      unfold b_X12_handover_12
      rw [nIt (by omega)]
      refine Ok.f (by omega) (Ok.i (fun _ => Ok.ret hs.2.2) (fun _ => Ok.cv (m_beat h hn (by omega) hs) (fun s3 h3 => ?_)))
      have go : ∀ w', Ok (f_X12_handover_46 (f_X12_handover_12 N) w' (nI q) s3) (fun _ s => frm wQ wl0 σ s) := by
        intro w'
        unfold f_X12_handover_46
        refine Ok.cle (e_thingsSo (h.fr h3.1.2.2).tm.lv) (Ok.i (fun _ => Ok.bd ?_) (fun _ => Ok.ret h3.1.2.2))
        rw [nI_1]
        exact ih (q + 1) N w' s3 (by omega) (by omega) h3.1
      exact Ok.i (fun _ => go _) (fun _ => Ok.bd (go _))
  rw [nI0]
  exact loop 61 0 5000 w0 s1 (by omega) (by omega) h1
theorem simx_handover (hn : n ≤ 512) : SIMx n f_X11_handover f_X12_handover := sim_x (fun d t u sd ρ k nx H m tb G σ h => ⟨q_handover_c h hn, q_handover_m h hn⟩)
end WOULC
/-! light (that it answers), busiest, order -/
section WOULD4
variable {σ s : HS} {n t u sd k nx m p L T : Nat} {ρ : Nat → Int32} {d : DAT} {b : Int} {H G : Nat → Nat → Int32} {tb9 : Nat → Nat} {x y z : Int32}
def useR (ρ : Nat → Int32) (p : Nat) : Nat → Int32 := upF (upF ρ 26 (nI p)) 27 (ρ 21)
theorem RW.use (h : RW d b ρ) (hp : p < d.1.2.1) (hT : d.1.1.1 ≤ 7) (hP : d.1.2.1 ≤ 5) : RW d b (useR ρ p) := by
  obtain ⟨w1, w2, w3, w4, w5, w6⟩ := h
  have ne : ∀ i, i ≠ 26 → i ≠ 27 → useR ρ p i = ρ i := fun i h1 h2 => by unfold useR; rw [upF_n h2, upF_n h1]
  have e26 : useR ρ p 26 = nI p := by unfold useR; rw [upF_n (by decide), upF_s]
  have e27 : useR ρ p 27 = ρ 21 := by unfold useR; rw [upF_s]
  refine ⟨fun e he => ?_, ?_, ?_, ?_, ?_, ?_⟩
  · rw [ne e (by omega) (by omega), ne (7 + e) (by omega) (by omega)]; exact w1 e he
  · rw [ne 21 (by decide) (by decide)]; exact w2
  · rw [e27, ne 21 (by decide) (by decide)]; exact ⟨w2.1, Int.le_refl _⟩
  · rw [e26, nIt (by omega)]; exact Or.inr ⟨by omega, by omega⟩
  · rw [ne 28 (by decide) (by decide)]; exact w5
  · rw [ne 22 (by decide) (by decide)]; exact w6
theorem AR.use {a : Nat} (h : AR a T ρ s) (hT : T ≤ 7) (hp : p ≤ 1000) : AR a T (useR ρ p) (hI (hI s a 9 (nI p)) a 10 (s.1 a 4)) := by
  have e : s.1 a 4 = ρ 21 := h.2.2.1 4 (by decide) (by decide)
  rw [e]
  exact (h.u hT (v := nI p) (by rw [nIt (by omega)]; omega)).sn hT
theorem q_light_c (h : RELx n d t u sd ρ k nx H m tb9 G σ) (hn : n ≤ 512) : Ok (f_X11_light x y σ) (fun _ s => frm wQ wl0 σ s) := by
  have hT := h.tc.T7
  have hP := h.tc.2.1.2.1
  unfold f_X11_light
  refine Ok.cle e_isSpan ?_
  by_cases c : 1 ≤ x.toInt ∧ x.toInt ≤ 60
  · refine Ok.f (fun e => if10.mp e c) (Ok.i (fun _ => Ok.ret frm.rf) (fun _ => Ok.i (fun _ => Ok.ret frm.rf) (fun _ => ?_)))
    obtain ⟨Z, hZ, rfl⟩ := in_60 c
    have loop : ∀ (dd q N : Nat) (v w : Int32) (s : HS), q + dd = d.1.2.1 → dd < N → frm wQ wl0 σ s → Ok (f_X11_light_28 N (nI Z) y v w (nI q) s) (fun _ s => frm wQ wl0 σ s) := by
      intro dd
      induction dd with
      | zero =>
        intro q N v w s hq hN hf
        obtain ⟨N, rfl⟩ : ∃ q, N = q + 1 := ⟨N - 1, by omega⟩
        have h2 := h.fr hf
        show Ok (b_X11_light_28 (f_X11_light_28 N) (nI Z) y v w (nI q) s) _
        unfold b_X11_light_28
        rw [h2.t0, h2.tc.2.1.1, nIt (n := q) (by omega), nIt (n := d.1.2.1) (by omega)]
        exact Ok.t h.tk (Ok.f (by omega) (Ok.i (fun _ => Ok.ret hf) (fun _ => Ok.ret hf)))
      | succ dd ih =>
        intro q N v w s hq hN hf
        obtain ⟨N, rfl⟩ : ∃ q, N = q + 1 := ⟨N - 1, by omega⟩
        have h2 := h.fr hf
        have go : ∀ (v w : Int32) (s : HS), frm wQ wl0 σ s → Ok (f_X11_light_147 (f_X11_light_28 N) (nI Z) y v w (nI q) s) (fun _ s => frm wQ wl0 σ s) := by
          intro v w s hf
          unfold f_X11_light_147
          refine Ok.bd ?_
          rw [nI_1]
          exact ih (q + 1) N v w s (by omega) (by omega) hf
        have go2 : ∀ (s : HS), frm wQ wl0 σ s → Ok (f_X11_light_135 (f_X11_light_28 N) (nI Z) y (nI q) s) (fun _ s => frm wQ wl0 σ s) := by
          intro s hf
          unfold f_X11_light_135
          exact Ok.bd (go _ _ s hf)
        show Ok (b_X11_light_28 (f_X11_light_28 N) (nI Z) y v w (nI q) s) _
        unfold b_X11_light_28
        rw [h2.t0, h2.tc.2.1.1, nIt (n := q) (by omega), nIt (n := d.1.2.1) (by omega), Int.toNat_natCast, (h2.tc.2.1.2.2 q (by omega)).1]
        have c5 : 0 ≤ (q : Int) ∧ (q : Int) < 5 := by omega
        refine Ok.t h.tk (Ok.t (by omega) (Ok.t h.tk (Ok.t c5 (Ok.t h.tk (Ok.t c5 (Ok.cle (e_closingOf (h2.tc.hc h.tk h.ok (by omega))) (Ok.cle (e_howManyUp h2.ar.1 hT) (Ok.i (fun _ => ?_) (fun _ => go _ _ s hf)))))))))
        refine Ok.cv (c_trial h2) (fun s9 h9 => Ok.cve e_takeUp ?_)
        have A11 := h9.1.use (p := q) hT (by omega)
        have F9 := hf.tr h9.2
        generalize hs11 : hI (hI s9 60 9 (nI q)) 60 10 (s9.1 60 4) = s11 at A11
        have F11 : frm wQ wl0 σ s11 := by rw [← hs11]; exact (F9.I rfl).I rfl
        have h11 := h.fr F11
        rw [h11.t0, see_c h11]
        refine Ok.t h.tk (Ok.t h.tk (Ok.cv (c_go h ((h.n0 hn).use (by omega) hT hP) A11 F11 (by omega) (SDr.see0 h.ok)) (fun s15 h15 => ?_)))
        exact Ok.i (fun _ => go2 s15 h15.2) (fun _ => Ok.i (fun _ => go2 s15 h15.2) (fun _ => go _ _ s15 h15.2))
    rw [nI0]
    exact loop d.1.2.1 0 5000 _ _ σ (by omega) (by omega) frm.rf
  · exact Ok.t (if10.mpr c) (Ok.ret frm.rf)
theorem q_light_m (h : RELx n d t u sd ρ k nx H m tb9 G σ) (hn : n ≤ 512) : Ok (f_X12_light x y σ) (fun _ s => frm wQ wl0 σ s) := by
  have hT := h.tc.T7
  have hP := h.tc.2.1.2.1
  unfold f_X12_light
  refine Ok.cle e_isSome ?_
  by_cases c : 1 ≤ x.toInt ∧ x.toInt ≤ 60
  · refine Ok.f (fun e => if10.mp e c) (Ok.cle e_in (Ok.i (fun _ => Ok.ret frm.rf) (fun _ => ?_)))
    obtain ⟨Z, hZ, rfl⟩ := in_60 c
    have loop : ∀ (dd q N : Nat) (v w : Int32) (s : HS), q + dd = d.1.2.1 → dd < N → frm wQ wl0 σ s → Ok (f_X12_light_28 N (nI Z) y v w (nI q) s) (fun _ s => frm wQ wl0 σ s) := by
      intro dd
      induction dd with
      | zero =>
        intro q N v w s hq hN hf
        obtain ⟨N, rfl⟩ : ∃ q, N = q + 1 := ⟨N - 1, by omega⟩
        have h2 := h.fr hf
        show Ok (b_X12_light_28 (f_X12_light_28 N) (nI Z) y v w (nI q) s) _
        unfold b_X12_light_28
        rw [h2.tm.lv.at, h2.tm.2.2.2.1.1, nIt (n := q) (by omega), nIt (n := d.1.2.1) (by omega)]
        exact Ok.t h2.tm.lv.sd0 (Ok.f (by omega) (Ok.i (fun _ => Ok.ret hf) (fun _ => Ok.ret hf)))
      | succ dd ih =>
        intro q N v w s hq hN hf
        obtain ⟨N, rfl⟩ : ∃ q, N = q + 1 := ⟨N - 1, by omega⟩
        have h2 := h.fr hf
        have go : ∀ (v w : Int32) (s : HS), frm wQ wl0 σ s → Ok (f_X12_light_108 (f_X12_light_28 N) (nI Z) y v w (nI q) s) (fun _ s => frm wQ wl0 σ s) := by
          intro v w s hf
          unfold f_X12_light_108
          refine Ok.bd ?_
          rw [nI_1]
          exact ih (q + 1) N v w s (by omega) (by omega) hf
        have go2 : ∀ (s : HS), frm wQ wl0 σ s → Ok (f_X12_light_96 (f_X12_light_28 N) (nI Z) y (nI q) s) (fun _ s => frm wQ wl0 σ s) := by
          intro s hf
          unfold f_X12_light_96
          exact Ok.bd (go _ _ s hf)
        show Ok (b_X12_light_28 (f_X12_light_28 N) (nI Z) y v w (nI q) s) _
        unfold b_X12_light_28
        rw [h2.tm.lv.at, h2.tm.2.2.2.1.1, nIt (n := q) (by omega), nIt (n := d.1.2.1) (by omega)]
        refine Ok.t h2.tm.lv.sd0 (Ok.t (by omega) (Ok.cv (m_trial h2) (fun s1 h1 => ?_)))
        have F1 := hf.tr h1.2.2
        have h1r := h.fr F1
        refine Ok.cl (w_keepsOf h1r.tm h.ok (show q < d.1.2.1 by omega)) (fun r s3 h3 => ?_)
        obtain ⟨-, -, f3⟩ := h3
        have F3 := F1.tr (f3.sub tp_wQ)
        have h3r := h.fr F3
        refine Ok.cle (e_thingsSo h3r.tm.lv) (Ok.cle e_bits (Ok.i (fun _ => ?_) (fun _ => go _ _ s3 F3)))
        have R3 : RRm ρ s3 := h1.1.fr f3 (fun _ => rfl)
        unfold f_X12_uses
        refine Ok.cv (P := fun s => s = hI (hI s3 267 26 (nI q)) 267 27 (ρ 21)) (Okv.bd (Okv.bd (Okv.ret ?_))) (fun s9 h9 => ?_)
        · rw [rI_k (by decide), R3 21 (by decide)]
        have R9 : RRm (useR ρ q) s9 := by rw [h9]; exact (R3.w (k := 26)).w (k := 27)
        have f9 : frm (fun a _ => a == 267) wl0 s3 s9 := by rw [h9]; exact (frm.rf.I rfl).I rfl
        have F9 : frm wQ wl0 σ s9 := by rw [h9]; exact (F3.I rfl).I rfl
        have x9 : SDm none s9 := by
          unfold SDm
          rw [f9.1 236 49 rfl, f9.1 236 50 rfl, f3.1 236 49 rfl, f3.1 236 50 rfl]; exact h1.2.1
        have h9r := h.fr F9
        refine Ok.cv (w_goes (b := 30720) h9r.tm h.ok h.tc.ln (by omega) R9 ((h.n0 hn).use (by omega) hT hP) (by omega) x9) (fun s11 h11 => ?_)
        have F11 := F9.tr (h11.2.sub bm_wQ)
        exact Ok.i (fun _ => go2 s11 F11) (fun _ => Ok.i (fun _ => go2 s11 F11) (fun _ => go _ _ s11 F11))
    rw [nI0]
    exact loop d.1.2.1 0 5000 _ _ σ (by omega) (by omega) frm.rf
  · exact Ok.t (if10.mpr c) (Ok.ret frm.rf)
theorem simx_light (hn : n ≤ 512) : SIMx n (f_X11_light x y) (f_X12_light x y) := sim_x (fun d t u sd ρ k nx H m tb G σ h => ⟨q_light_c h hn, q_light_m h hn⟩)
/-! busiest -/
def ofP (d : DAT) (ρ : Nat → Int32) (e j : Nat) : Bool := decide (firS d.1.1.1 (itS d none j ρ) = e) && decide (e < d.1.1.1)
def ofS (d : DAT) (ρ : Nat → Int32) (Z e : Nat) : Nat := cntB (ofP d ρ e) Z
def bstS (f : Nat → Nat) : Nat → Nat
  | 0 => 0
  | e + 1 => if f (bstS f e) < f (e + 1) then e + 1 else bstS f e
theorem bst_le {f : Nat → Nat} : ∀ {e : Nat}, bstS f e ≤ e := by
  intro e
  induction e with
  | zero => exact Nat.le_refl _
  | succ e ih =>
    show (if f (bstS f e) < f (e + 1) then e + 1 else bstS f e) ≤ e + 1
    split <;> omega
def busI (f : Nat → Nat) (y : Int32) : Int32 := if f (bstS f 6) = 0 then -2 else if y.toInt = 0 then nI (bstS f 6) else nI (f (bstS f 6))
def busS (d : DAT) (ρ : Nat → Int32) (x y : Int32) : Int32 := if (1 ≤ x.toInt ∧ x.toInt ≤ 60) ∧ (0 ≤ y.toInt ∧ y.toInt ≤ 1) then busI (ofS d ρ x.toInt.toNat) y else -1
theorem busS_in {q : Nat} (h1 : 1 ≤ q) (hq : q ≤ 60) (hy : 0 ≤ y.toInt ∧ y.toInt ≤ 1) : busS d ρ (nI q) y = busI (ofS d ρ q) y := by
  unfold busS
  rw [nIt (by omega), Int.toNat_natCast]
  exact if_pos ⟨⟨by omega, by omega⟩, hy⟩
theorem q_busiest_c (h : RELx n d t u sd ρ k nx H m tb9 G σ) (hn : n ≤ 512) : Ok (f_X11_busiest x y σ) (fun r s => r = busS d ρ x y ∧ frm wQ wl0 σ s) := by
  have hT := h.tc.T7
  have ht : t = 30 ∨ t = 43 := h.tk
  unfold f_X11_busiest
  refine Ok.cle e_isSpan ?_
  by_cases c : 1 ≤ x.toInt ∧ x.toInt ≤ 60
  · refine Ok.f (fun e => if10.mp e c) ?_
    by_cases c1 : y.toInt < 0
    · exact Ok.t c1 (Ok.ret ⟨(clo_no (fun h => by omega)).symm, frm.rf⟩)
    by_cases c2 : 1 < y.toInt
    · exact Ok.f c1 (Ok.t c2 (Ok.ret ⟨(clo_no (fun h => by omega)).symm, frm.rf⟩))
    obtain ⟨Z, hZ, rfl⟩ := in_60 c
    rw [busS_in hZ.1 hZ.2 (by omega)]
    refine Ok.f c1 (Ok.f c2 (Ok.cv (w_findHands (Z := Z) h hn (by omega)) (fun s1 h1 => ?_)))
    refine Ok.cv (w_fill (p := 28) (N := 7) (v := 0) (by decide) rfl (by omega)) (fun s2 h2 => ?_)
    have F2 : frm wQ wl0 σ s2 := h1.2.tr (h2.1.sub (fun i k e => by
      have : i = 28 := by simpa using e
      subst this; rfl))
    have H2 : ∀ i, i < Z → s2.1 27 i = hanS d ρ i := fun i hi => by rw [h2.1.1 27 i rfl]; exact h1.1 i hi
    have fin : ∀ (dd e N : Nat) (s : HS), e + 1 + dd = 7 → dd < N → (∀ e, e < 7 → s.1 28 e = nI (ofS d ρ Z e)) → frm wQ wl0 σ s → Ok (f_X11_busiest_80 N y (nI (bstS (ofS d ρ Z) e)) (nI (e + 1)) s) (fun r s => r = busI (ofS d ρ Z) y ∧ frm wQ wl0 σ s) := by
      intro dd
      induction dd with
      | zero =>
        intro e N s he hN ho hf
        obtain ⟨N, rfl⟩ : ∃ q, N = q + 1 := ⟨N - 1, by omega⟩
        obtain rfl : e = 6 := by omega
        have hb := bst_le (f := ofS d ρ Z) (e := 6)
        have hc := cntB_le (p := ofP d ρ (bstS (ofS d ρ Z) 6)) (n := Z)
        have hc' : ofS d ρ Z (bstS (ofS d ρ Z) 6) ≤ Z := hc
        show Ok (b_X11_busiest_80 (f_X11_busiest_80 N) y _ (nI 7) s) _
        unfold b_X11_busiest_80 busI
        rw [nIt (n := 7) (by omega), nIt (n := bstS (ofS d ρ Z) 6) (by omega), Int.toNat_natCast, ho _ (by omega), nIt (n := ofS d ρ Z (bstS (ofS d ρ Z) 6)) (by omega)]
        refine Ok.f (by omega) (Ok.t (by omega) ?_)
        by_cases c0 : ofS d ρ Z (bstS (ofS d ρ Z) 6) = 0
        · refine Ok.t (by omega) (Ok.ret ⟨?_, hf⟩)
          rw [if_pos c0]
        · refine Ok.f (by omega) ?_
          by_cases cy : y.toInt = 0
          · refine Ok.t cy (Ok.ret ⟨?_, hf⟩)
            rw [if_neg c0, if_pos cy]
          · refine Ok.f cy (Ok.t (by omega) (Ok.ret ⟨?_, hf⟩))
            rw [if_neg c0, if_neg cy]
      | succ dd ih =>
        intro e N s he hN ho hf
        obtain ⟨N, rfl⟩ : ∃ q, N = q + 1 := ⟨N - 1, by omega⟩
        have hb := bst_le (f := ofS d ρ Z) (e := e)
        have hc1 : ofS d ρ Z (bstS (ofS d ρ Z) e) ≤ Z := cntB_le
        have hc2 : ofS d ρ Z (e + 1) ≤ Z := cntB_le
        have eb : bstS (ofS d ρ Z) (e + 1) = if ofS d ρ Z (bstS (ofS d ρ Z) e) < ofS d ρ Z (e + 1) then e + 1 else bstS (ofS d ρ Z) e := rfl
        have ih1 := ih (e + 1) N s (by omega) (by omega) ho hf
        show Ok (b_X11_busiest_80 (f_X11_busiest_80 N) y _ (nI (e + 1)) s) _
        unfold b_X11_busiest_80 f_X11_busiest_106
        rw [nIt (n := e + 1) (by omega), nIt (n := bstS (ofS d ρ Z) e) (by omega), Int.toNat_natCast, Int.toNat_natCast, ho _ (by omega), ho (e + 1) (by omega), nIt (n := ofS d ρ Z (bstS (ofS d ρ Z) e)) (by omega), nIt (n := ofS d ρ Z (e + 1)) (by omega)]
        refine Ok.t (by omega) (Ok.t (by omega) (Ok.t (by omega) ?_))
        by_cases cl : ofS d ρ Z (bstS (ofS d ρ Z) e) < ofS d ρ Z (e + 1)
        · rw [eb, if_pos cl] at ih1
          refine Ok.t (by omega) (Ok.bd ?_)
          rw [nI_1]
          exact ih1
        · rw [eb, if_neg cl] at ih1
          refine Ok.f (by omega) (Ok.bd ?_)
          rw [nI_1]
          exact ih1
    have loop : ∀ (dd q N : Nat) (s : HS), q + dd = Z → dd < N → (∀ e, e < 7 → s.1 28 e = nI (ofS d ρ q e)) → frm (fun a _ => a == 28) wl0 s2 s → Ok (f_X11_busiest_33 N (nI Z) y (nI q) s) (fun r s => r = busI (ofS d ρ Z) y ∧ frm wQ wl0 σ s) := by
      intro dd
      induction dd with
      | zero =>
        intro q N s hq hN ho hf
        obtain ⟨N, rfl⟩ : ∃ q, N = q + 1 := ⟨N - 1, by omega⟩
        obtain rfl : q = Z := by omega
        show Ok (b_X11_busiest_33 (f_X11_busiest_33 N) (nI q) y (nI q) s) _
        unfold b_X11_busiest_33
        refine Ok.f (Int.lt_irrefl _) ?_
        have := fin 6 0 5000 s (by omega) (by omega) ho (F2.tr (hf.sub (fun i k e => by
          have : i = 28 := by simpa using e
          subst this; rfl)))
        rw [show nI (bstS (ofS d ρ q) 0) = 0 from nI_0] at this
        exact this
      | succ dd ih =>
        intro q N s hq hN ho hf
        obtain ⟨N, rfl⟩ : ∃ q, N = q + 1 := ⟨N - 1, by omega⟩
        have F : frm wQ wl0 σ s := F2.tr (hf.sub (fun i k e => by
          have : i = 28 := by simpa using e
          subst this; rfl))
        have hr := h.fr F
        have e27 : s.1 27 q = hanS d ρ q := by rw [hf.1 27 q rfl]; exact H2 q (by omega)
        have hc := han_cau (ρ := ρ) (d := d) (i := q) hT
        have es : ∀ e, ofS d ρ (q + 1) e = if ofP d ρ e q = true then ofS d ρ q e + 1 else ofS d ρ q e := fun e => rfl
        show Ok (b_X11_busiest_33 (f_X11_busiest_33 N) (nI Z) y (nI q) s) _
        unfold b_X11_busiest_33 f_X11_busiest_69
        rw [nIt (n := q) (by omega), nIt (n := Z) (by omega), hr.t0, Int.toNat_natCast, e27]
        refine Ok.t (by omega) (Ok.t ht (Ok.t (by omega) (Ok.cle (e_hasThing hr.tc.1.1 hT) ?_)))
        rw [e27]
        by_cases cf : firS d.1.1.1 (itS d none q ρ) < d.1.1.1
        · have ev := hc.2 cf
          rw [ev]
          have ep : ∀ e, ofP d ρ e q = decide (e = firS d.1.1.1 (itS d none q ρ)) := fun e => by
            unfold ofP
            by_cases ce : e = firS d.1.1.1 (itS d none q ρ)
            · rw [decide_eq_true ce, ← ce, decide_eq_true rfl, decide_eq_true (show e < d.1.1.1 by omega)]; rfl
            · rw [decide_eq_false ce, decide_eq_false (fun h => ce h.symm)]; rfl
          generalize firS d.1.1.1 (itS d none q ρ) = f at cf ep
          have ef : (nI f).toInt = (f : Int) := nIt (by omega)
          rw [ef, Int.toNat_natCast]
          refine Ok.f (fun e => if10.mp e (show 0 ≤ (f : Int) ∧ (f : Int) < d.1.1.1 by omega)) (Ok.t (by omega) (Ok.t (by omega) (Ok.t (by omega) (Ok.bd (Ok.bd ?_)))))
          rw [nI_1, ho f (by omega), nI_1]
          refine ih (q + 1) N _ (by omega) (by omega) (fun e he => ?_) (hf.I rfl)
          rw [es, ep]
          by_cases ce : e = f
          · rw [ce, rI_s, if_pos (decide_eq_true rfl)]
          · rw [rI_k ce, if_neg (by rw [decide_eq_false ce]; decide)]; exact ho e he
        · have ep : ∀ e, ¬ ofP d ρ e q = true := fun e h => by
            unfold ofP at h
            rw [Bool.and_eq_true, decide_eq_true_eq, decide_eq_true_eq] at h
            omega
          refine Ok.t (if10.mpr (show ¬ (0 ≤ (hanS d ρ q).toInt ∧ (hanS d ρ q).toInt < d.1.1.1) by rw [hc.1.mpr cf]; omega)) (Ok.bd ?_)
          rw [nI_1]
          refine ih (q + 1) N _ (by omega) (by omega) (fun e he => ?_) hf
          rw [es, if_neg (ep e)]; exact ho e he
    rw [nI0]
    exact loop Z 0 5000 s2 (by omega) (by omega) (fun e he => h2.2 e he) frm.rf
  · exact Ok.t (if10.mpr c) (Ok.ret ⟨(clo_no (fun h => c h.1)).symm, frm.rf⟩)
theorem q_busiest_m (h : RELx n d t u sd ρ k nx H m tb9 G σ) (hn : n ≤ 512) : Ok (f_X12_busiest x y σ) (fun r s => r = busS d ρ x y ∧ frm wQ wl0 σ s) := by
  have hT := h.tc.T7
  unfold f_X12_busiest
  refine Ok.cle e_isSome ?_
  by_cases c : 1 ≤ x.toInt ∧ x.toInt ≤ 60
  · refine Ok.f (fun e => if10.mp e c) (Ok.cle e_in ?_)
    rw [i0_eq, i1_e]
    by_cases cy : 0 ≤ y.toInt ∧ y.toInt ≤ 1
    · refine Ok.f (fun e => if10.mp e cy) (Ok.cv (m_trial h) (fun s3 h3 => ?_))
      obtain ⟨Z, hZ, rfl⟩ := in_60 c
      rw [busS_in hZ.1 hZ.2 cy]
      have fin : ∀ (dd e N : Nat) (s : HS), e + 1 + dd = 7 → dd < N → (∀ e, e < 7 → s.1 271 e = nI (ofS d ρ Z e)) → frm wQ wl0 σ s → Ok (f_X12_busiest_85 N y (nI (bstS (ofS d ρ Z) e)) (nI (e + 1)) s) (fun r s => r = busI (ofS d ρ Z) y ∧ frm wQ wl0 σ s) := by
        intro dd
        induction dd with
        | zero =>
          intro e N s he hN ho hf
          obtain ⟨N, rfl⟩ : ∃ q, N = q + 1 := ⟨N - 1, by omega⟩
          obtain rfl : e = 6 := by omega
          have hb := bst_le (f := ofS d ρ Z) (e := 6)
          have hc' : ofS d ρ Z (bstS (ofS d ρ Z) 6) ≤ Z := cntB_le
          show Ok (b_X12_busiest_85 (f_X12_busiest_85 N) y _ (nI 7) s) _
          unfold b_X12_busiest_85 busI
          rw [nIt (n := 7) (by omega), nIt (n := bstS (ofS d ρ Z) 6) (by omega), Int.toNat_natCast, ho _ (by omega), nIt (n := ofS d ρ Z (bstS (ofS d ρ Z) 6)) (by omega)]
          refine Ok.f (by omega) (Ok.t (by omega) ?_)
          by_cases c0 : ofS d ρ Z (bstS (ofS d ρ Z) 6) = 0
          · refine Ok.t (by omega) (Ok.ret ⟨?_, hf⟩)
            rw [if_pos c0]
          · refine Ok.f (by omega) ?_
            by_cases cy : y.toInt = 0
            · refine Ok.t cy (Ok.ret ⟨?_, hf⟩)
              rw [if_neg c0, if_pos cy]
            · refine Ok.f cy (Ok.t (by omega) (Ok.ret ⟨?_, hf⟩))
              rw [if_neg c0, if_neg cy]
        | succ dd ih =>
          intro e N s he hN ho hf
          obtain ⟨N, rfl⟩ : ∃ q, N = q + 1 := ⟨N - 1, by omega⟩
          have hb := bst_le (f := ofS d ρ Z) (e := e)
          have hc1 : ofS d ρ Z (bstS (ofS d ρ Z) e) ≤ Z := cntB_le
          have hc2 : ofS d ρ Z (e + 1) ≤ Z := cntB_le
          have eb : bstS (ofS d ρ Z) (e + 1) = if ofS d ρ Z (bstS (ofS d ρ Z) e) < ofS d ρ Z (e + 1) then e + 1 else bstS (ofS d ρ Z) e := rfl
          have ih1 := ih (e + 1) N s (by omega) (by omega) ho hf
          show Ok (b_X12_busiest_85 (f_X12_busiest_85 N) y _ (nI (e + 1)) s) _
          unfold b_X12_busiest_85 f_X12_busiest_111
          rw [nIt (n := e + 1) (by omega), nIt (n := bstS (ofS d ρ Z) e) (by omega), Int.toNat_natCast, Int.toNat_natCast, ho _ (by omega), ho (e + 1) (by omega), nIt (n := ofS d ρ Z (bstS (ofS d ρ Z) e)) (by omega), nIt (n := ofS d ρ Z (e + 1)) (by omega)]
          refine Ok.t (by omega) (Ok.t (by omega) (Ok.t (by omega) ?_))
          by_cases cl : ofS d ρ Z (bstS (ofS d ρ Z) e) < ofS d ρ Z (e + 1)
          · rw [eb, if_pos cl] at ih1
            refine Ok.t (by omega) (Ok.bd ?_)
            rw [nI_1]
            exact ih1
          · rw [eb, if_neg cl] at ih1
            refine Ok.f (by omega) (Ok.bd ?_)
            rw [nI_1]
            exact ih1
      have loop : ∀ (dd q N : Nat) (s : HS), q + dd = Z → dd < N → (∀ e, e < 7 → s.1 271 e = nI (ofS d ρ q e)) → TRm d ρ σ q s → Ok (f_X12_busiest_45 N (nI Z) y (nI q) s) (fun r s => r = busI (ofS d ρ Z) y ∧ frm wQ wl0 σ s) := by
        intro dd
        induction dd with
        | zero =>
          intro q N s hq hN ho hs
          obtain ⟨N, rfl⟩ : ∃ q, N = q + 1 := ⟨N - 1, by omega⟩
          obtain rfl : q = Z := by omega
          show Ok (b_X12_busiest_45 (f_X12_busiest_45 N) (nI q) y (nI q) s) _
          unfold b_X12_busiest_45
          refine Ok.f (Int.lt_irrefl _) ?_
          have := fin 6 0 5000 s (by omega) (by omega) ho hs.2.2
          rw [show nI (bstS (ofS d ρ q) 0) = 0 from nI_0] at this
          exact this
        | succ dd ih =>
          intro q N s hq hN ho hs
          obtain ⟨N, rfl⟩ : ∃ q, N = q + 1 := ⟨N - 1, by omega⟩
          have es : ∀ e, ofS d ρ (q + 1) e = if ofP d ρ e q = true then ofS d ρ q e + 1 else ofS d ρ q e := fun e => rfl
          show Ok (b_X12_busiest_45 (f_X12_busiest_45 N) (nI Z) y (nI q) s) _
          unfold b_X12_busiest_45 f_X12_busiest_74
          rw [nIt (n := q) (by omega), nIt (n := Z) (by omega)]
          refine Ok.t (by omega) (Ok.cv (m_beat h hn (by omega) hs) (fun s1 h1 => ?_))
          obtain ⟨T1, e51, -, -, f1⟩ := h1
          have o1 : ∀ e, e < 7 → s1.1 271 e = nI (ofS d ρ q e) := fun e he => by rw [f1.1 271 e rfl]; exact ho e he
          rw [e51]
          by_cases cf : firS d.1.1.1 (itS d none q ρ) < d.1.1.1
          · have ep : ∀ e, ofP d ρ e q = decide (e = firS d.1.1.1 (itS d none q ρ)) := fun e => by
              unfold ofP
              by_cases ce : e = firS d.1.1.1 (itS d none q ρ)
              · rw [decide_eq_true ce, ← ce, decide_eq_true rfl, decide_eq_true (show e < d.1.1.1 by omega)]; rfl
              · rw [decide_eq_false ce, decide_eq_false (fun h => ce h.symm)]; rfl
            refine Ok.f (fun e => (cau_neg hT).mp e cf) ?_
            unfold cauS
            rw [if_pos cf]
            generalize firS d.1.1.1 (itS d none q ρ) = f at cf ep
            rw [nIt (n := f) (by omega), Int.toNat_natCast]
            refine Ok.t (by omega) (Ok.t (by omega) (Ok.bd (Ok.bd ?_)))
            rw [nI_1, o1 f (by omega), nI_1]
            have f3 : frm (fun a _ => a == 271) wl0 s1 (hI s1 271 f (nI (ofS d ρ q f + 1))) := frm.rf.I rfl
            refine ih (q + 1) N _ (by omega) (by omega) (fun e he => ?_) ⟨T1.1.fr f3 (fun _ => rfl), ?_, T1.2.2.I rfl⟩
            · rw [es, ep]
              by_cases ce : e = f
              · rw [ce, rI_s, if_pos (decide_eq_true rfl)]
              · rw [rI_k ce, if_neg (by rw [decide_eq_false ce]; decide)]; exact o1 e he
            · unfold SDm
              rw [f3.1 236 49 rfl, f3.1 236 50 rfl]; exact T1.2.1
          · have ep : ∀ e, ¬ ofP d ρ e q = true := fun e h => by
              unfold ofP at h
              rw [Bool.and_eq_true, decide_eq_true_eq, decide_eq_true_eq] at h
              omega
            refine Ok.t ((cau_neg hT).mpr cf) (Ok.bd ?_)
            rw [nI_1]
            refine ih (q + 1) N _ (by omega) (by omega) (fun e he => ?_) T1
            rw [es, if_neg (ep e)]; exact o1 e he
      have zero : ∀ (dd q N : Nat) (s : HS), q + dd = 7 → dd < N → (∀ e, e < q → s.1 271 e = 0) → TRm d ρ σ 0 s → Ok (f_X12_busiest_24 N (nI Z) y (nI q) s) (fun r s => r = busI (ofS d ρ Z) y ∧ frm wQ wl0 σ s) := by
        intro dd
        induction dd with
        | zero =>
          intro q N s hq hN ho hs
          obtain ⟨N, rfl⟩ : ∃ q, N = q + 1 := ⟨N - 1, by omega⟩
          obtain rfl : q = 7 := by omega
          show Ok (b_X12_busiest_24 (f_X12_busiest_24 N) (nI Z) y (nI 7) s) _
          unfold b_X12_busiest_24
          refine Ok.f (by decide) ?_
          rw [nI0]
          exact loop Z 0 5000 s (by omega) (by omega) (fun e he => ho e he) hs
        | succ dd ih =>
          intro q N s hq hN ho hs
          obtain ⟨N, rfl⟩ : ∃ q, N = q + 1 := ⟨N - 1, by omega⟩
          show Ok (b_X12_busiest_24 (f_X12_busiest_24 N) (nI Z) y (nI q) s) _
          unfold b_X12_busiest_24
          rw [nIt (n := q) (by omega), Int.toNat_natCast]
          refine Ok.t (by omega) (Ok.t (by omega) (Ok.bd (Ok.bd ?_)))
          rw [nI_1]
          have f3 : frm (fun a _ => a == 271) wl0 s (hI s 271 q 0) := frm.rf.I rfl
          refine ih (q + 1) N _ (by omega) (by omega) (fun e he => ?_) ⟨hs.1.fr f3 (fun _ => rfl), ?_, hs.2.2.I rfl⟩
          · by_cases ce : e = q
            · rw [ce, rI_s]
            · rw [rI_k ce]; exact ho e (by omega)
          · unfold SDm
            rw [f3.1 236 49 rfl, f3.1 236 50 rfl]; exact hs.2.1
      rw [nI0]
      exact zero 7 0 5000 s3 (by omega) (by omega) (fun e he => absurd he (by omega)) h3
    · exact Ok.t (if10.mpr cy) (Ok.ret ⟨(clo_no (fun h => cy h.2)).symm, frm.rf⟩)
  · exact Ok.t (if10.mpr c) (Ok.ret ⟨(clo_no (fun h => c h.1)).symm, frm.rf⟩)
theorem sim_busiest (hn : n ≤ 512) : SIM n (f_X11_busiest x y) (f_X12_busiest x y) := sim_q (fun d t u sd ρ k nx H m tb G σ h => ⟨_, q_busiest_c h hn, fun s hs _ => q_busiest_m hs hn⟩)
end WOULD4
