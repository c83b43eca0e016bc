/-! what stands: thing, pattern -/
section STANDS
variable {σ s : HS} {n t u sd k nx m : Nat} {ρ : Nat → Int32} {d : DAT} {b : Int} {H G : Nat → Nat → Int32} {tb : Nat → Nat} {x y z : Int32}
def thgI (d : DAT) (ρ : Nat → Int32) (e : Nat) (y : Int32) : Int32 := if y.toInt = 0 then Int32.ofInt (d.1.1.2.1 e) else if y.toInt = 1 then Int32.ofInt (d.1.1.2.2.1 e) else if y.toInt = 2 then ρ e else if y.toInt = 3 then (if (ρ e).toInt = 0 then ρ (7 + e) else -2) else if y.toInt = 4 then ρ (14 + e) else -1
def thgS (d : DAT) (ρ : Nat → Int32) (x y : Int32) : Int32 := if 0 ≤ x.toInt ∧ x.toInt < d.1.1.1 then thgI d ρ x.toInt.toNat y else -1
theorem thgS_in {e : Nat} (he : e < d.1.1.1) (hT : d.1.1.1 ≤ 7) : thgS d ρ (nI e) y = thgI d ρ e y := by
  unfold thgS
  rw [nIt (by omega), Int.toNat_natCast]
  exact if_pos (by omega)
theorem q_thing_c (h : RELx n d t u sd ρ k nx H m tb G σ) : Ok (f_X11_thing x y σ) (fun r s => r = thgS d ρ x y ∧ frm wQ wl0 σ s) := by
  have hT := h.tc.T7
  have hA := h.ar
  unfold f_X11_thing
  rw [h.t0]
  refine Ok.t h.tk (Ok.cle (e_hasThing h.tc.1.1 hT) ?_)
  rw [h.t0]
  by_cases c : 0 ≤ x.toInt ∧ x.toInt < d.1.1.1
  · refine Ok.f (fun e => if10.mp e c) ?_
    obtain ⟨e, he, rfl⟩ := in_T c (by omega)
    have t1 := h.tc.1.2.2 e he
    have a1 := hA.2.1 e he
    rw [nIt (by omega), Int.toNat_natCast, thgS_in he hT]
    have c7 : 0 ≤ (e : Int) ∧ (e : Int) < 7 := by omega
    by_cases c0 : y.toInt = 0
    · refine Ok.t c0 (Ok.t h.tk (Ok.t c7 (Ok.ret ⟨?_, frm.rf⟩)))
      unfold thgI; rw [if_pos c0]; exact ofI t1.1
    refine Ok.f c0 ?_
    by_cases c1 : y.toInt = 1
    · refine Ok.t c1 (Ok.t h.tk (Ok.t c7 (Ok.ret ⟨?_, frm.rf⟩)))
      unfold thgI; rw [if_neg c0, if_pos c1]; exact ofI t1.2.1
    refine Ok.f c1 ?_
    by_cases c2 : y.toInt = 2
    · refine Ok.t c2 (Ok.t c7 (Ok.ret ⟨?_, frm.rf⟩))
      unfold thgI; rw [if_neg c0, if_neg c1, if_pos c2]; exact a1.1
    refine Ok.f c2 ?_
    by_cases c3 : y.toInt = 3
    · refine Ok.t c3 (Ok.cle (e_isUp (by omega)) ?_)
      rw [hA.up he]
      unfold upR
      by_cases c4 : (ρ e).toInt = 0
      · rw [if_pos (decide_eq_true c4)]
        refine Ok.f i1_ne (Ok.t c7 (Ok.ret ⟨?_, frm.rf⟩))
        unfold thgI; rw [if_neg c0, if_neg c1, if_neg c2, if_pos c3, if_pos c4]; exact a1.2.1
      · have cn : ¬ decide ((ρ e).toInt = 0) = true := by rw [decide_eq_false c4]; decide
        rw [if_neg cn]
        refine Ok.t i0_eq (Ok.ret ⟨?_, frm.rf⟩)
        unfold thgI; rw [if_neg c0, if_neg c1, if_neg c2, if_pos c3, if_neg c4]
    refine Ok.f c3 ?_
    by_cases c4 : y.toInt = 4
    · refine Ok.t c4 (Ok.t c7 (Ok.ret ⟨?_, frm.rf⟩))
      unfold thgI; rw [if_neg c0, if_neg c1, if_neg c2, if_neg c3, if_pos c4]; exact a1.2.2
    refine Ok.f c4 (Ok.ret ⟨?_, frm.rf⟩)
    unfold thgI; rw [if_neg c0, if_neg c1, if_neg c2, if_neg c3, if_neg c4]
  · refine Ok.t (if10.mpr c) (Ok.ret ⟨?_, frm.rf⟩)
    unfold thgS; rw [if_neg c]
theorem q_thing_m (h : RELx n d t u sd ρ k nx H m tb G σ) : Ok (f_X12_thing x y σ) (fun r s => r = thgS d ρ x y ∧ frm wQ wl0 σ s) := by
  have hT := h.tc.T7
  have hN := h.nw
  have hM := h.tm
  unfold f_X12_thing
  refine Ok.cle (e_isThing hM.lv) ?_
  by_cases c : 0 ≤ x.toInt ∧ x.toInt < d.1.1.1
  · refine Ok.f (fun e => if10.mp e c) ?_
    obtain ⟨e, he, rfl⟩ := in_T c (by omega)
    have h1 := hM.2.1
    have t1 := hM.2.2.1.2.2 e he
    rw [thgS_in he hT, hM.1, e7s h1, n7_add, n14_add, nIt (n := e) (by omega), nIt (n := 7 * sd + e) (by omega), nIt (n := 7 + e) (by omega), nIt (n := 14 + e) (by omega), Int.toNat_natCast, Int.toNat_natCast, Int.toNat_natCast, Int.toNat_natCast, hN e (by omega), hN (7 + e) (by omega), hN (14 + e) (by omega)]
    have c14 : 0 ≤ ((7 * sd + e : Nat) : Int) ∧ ((7 * sd + e : Nat) : Int) < 14 := by omega
    have c29 : 0 ≤ (e : Int) ∧ (e : Int) < 29 := by omega
    have d29 : 0 ≤ ((7 + e : Nat) : Int) ∧ ((7 + e : Nat) : Int) < 29 := by omega
    have e29 : 0 ≤ ((14 + e : Nat) : Int) ∧ ((14 + e : Nat) : Int) < 29 := by omega
    by_cases c0 : y.toInt = 0
    · refine Ok.t c0 (Ok.t c14 (Ok.ret ⟨?_, frm.rf⟩))
      unfold thgI; rw [if_pos c0]; exact ofI t1.1
    refine Ok.f c0 ?_
    by_cases c1 : y.toInt = 1
    · refine Ok.t c1 (Ok.t c14 (Ok.ret ⟨?_, frm.rf⟩))
      unfold thgI; rw [if_neg c0, if_pos c1]; exact ofI t1.2.1
    refine Ok.f c1 ?_
    by_cases c2 : y.toInt = 2
    · refine Ok.t c2 (Ok.t c29 (Ok.ret ⟨?_, frm.rf⟩))
      unfold thgI; rw [if_neg c0, if_neg c1, if_pos c2]
    refine Ok.f c2 ?_
    by_cases c3 : y.toInt = 3
    · refine Ok.t c3 (Ok.t c29 ?_)
      by_cases c4 : (ρ e).toInt = 0
      · refine Ok.t c4 (Ok.t d29 (Ok.ret ⟨?_, frm.rf⟩))
        unfold thgI; rw [if_neg c0, if_neg c1, if_neg c2, if_pos c3, if_pos c4]
      · refine Ok.f c4 (Ok.ret ⟨?_, frm.rf⟩)
        unfold thgI; rw [if_neg c0, if_neg c1, if_neg c2, if_pos c3, if_neg c4]
    refine Ok.f c3 ?_
    by_cases c4 : y.toInt = 4
    · refine Ok.t c4 (Ok.t e29 (Ok.ret ⟨?_, frm.rf⟩))
      unfold thgI; rw [if_neg c0, if_neg c1, if_neg c2, if_neg c3, if_pos c4]
    refine Ok.f c4 (Ok.ret ⟨?_, frm.rf⟩)
    unfold thgI; rw [if_neg c0, if_neg c1, if_neg c2, if_neg c3, if_neg c4]
  · refine Ok.t (if10.mpr c) (Ok.ret ⟨?_, frm.rf⟩)
    unfold thgS; rw [if_neg c]
theorem sim_thing : SIM n (f_X11_thing x y) (f_X12_thing x y) := sim_q (fun d t u sd ρ k nx H m tb G σ h => ⟨_, q_thing_c h, fun s hs _ => q_thing_m hs⟩)
def patI (d : DAT) (e : Nat) (y : Int32) : Int32 := if y.toInt = -1 then nI (d.1.2.2.1 e) else if 0 ≤ y.toInt ∧ y.toInt < d.1.2.2.1 e then Int32.ofInt (d.1.2.2.2 e y.toInt.toNat) else -1
def patS1 (d : DAT) (x y : Int32) : Int32 := if 0 ≤ x.toInt ∧ x.toInt < d.1.2.1 then patI d x.toInt.toNat y else -1
theorem patS_in {e : Nat} (he : e < d.1.2.1) (hT : d.1.2.1 ≤ 5) : patS1 d (nI e) y = patI d e y := by
  unfold patS1
  rw [nIt (by omega), Int.toNat_natCast]
  exact if_pos (by omega)
theorem q_pattern_c (h : RELx n d t u sd ρ k nx H m tb G σ) : Ok (f_X11_pattern x y σ) (fun r s => r = patS1 d x y ∧ frm wQ wl0 σ s) := by
  have hP := h.tc.2.1.2.1
  unfold f_X11_pattern
  rw [h.t0]
  refine Ok.t h.tk (Ok.cle (e_hasPattern h.tc.2.1.1 hP) ?_)
  rw [h.t0]
  by_cases c : 0 ≤ x.toInt ∧ x.toInt < d.1.2.1
  · refine Ok.f (fun e => if10.mp e c) ?_
    obtain ⟨e, he, rfl⟩ := in_T c (by omega)
    obtain ⟨q1, q2, q3⟩ := h.tc.2.1.2.2 e he
    rw [patS_in he hP, nIt (n := e) (by omega), Int.toNat_natCast, q1, nIt (n := d.1.2.2.1 e) (by omega)]
    have c5 : 0 ≤ (e : Int) ∧ (e : Int) < 5 := by omega
    by_cases c0 : y.toInt = -1
    · refine Ok.t c0 (Ok.t h.tk (Ok.t c5 (Ok.ret ⟨?_, frm.rf⟩)))
      unfold patI; rw [if_pos c0]
    refine Ok.f c0 ?_
    by_cases c1 : 0 ≤ y.toInt ∧ y.toInt < d.1.2.2.1 e
    · have ev : patI d e y = Int32.ofInt (d.1.2.2.2 e y.toInt.toNat) := by unfold patI; rw [if_neg c0, if_pos c1]
      rw [ev]
      obtain ⟨i, hi, rfl⟩ := in_T c1 (by omega)
      rw [nIt (n := i) (by omega), Int.toNat_natCast]
      have c8 : 0 ≤ (i : Int) ∧ (i : Int) < 8 := by omega
      exact Ok.f (by omega) (Ok.t h.tk (Ok.t c5 (Ok.t (by omega) (Ok.t h.tk (Ok.t c5 (Ok.t c8 (Ok.ret ⟨ofI (q3 i hi), frm.rf⟩)))))))
    · have ev : patI d e y = -1 := by unfold patI; rw [if_neg c0, if_neg c1]
      rw [ev]
      by_cases c2 : y.toInt < 0
      · exact Ok.t c2 (Ok.ret ⟨rfl, frm.rf⟩)
      · exact Ok.f c2 (Ok.t h.tk (Ok.t c5 (Ok.f (by omega) (Ok.ret ⟨rfl, frm.rf⟩))))
  · refine Ok.t (if10.mpr c) (Ok.ret ⟨?_, frm.rf⟩)
    unfold patS1; rw [if_neg c]
theorem q_pattern_m (h : RELx n d t u sd ρ k nx H m tb G σ) : Ok (f_X12_pattern x y σ) (fun r s => r = patS1 d x y ∧ frm wQ wl0 σ s) := by
  have hM := h.tm
  have hP := hM.2.2.2.1.2.1
  unfold f_X12_pattern
  refine Ok.cle (e_isPattern hM.lv hM.2.2.2.1.1 hP) ?_
  by_cases c : 0 ≤ x.toInt ∧ x.toInt < d.1.2.1
  · refine Ok.f (fun e => if10.mp e c) ?_
    obtain ⟨e, he, rfl⟩ := in_T c (by omega)
    obtain ⟨q1, q2, q3⟩ := hM.2.2.2.1.2.2 e he
    refine Ok.cle (e_lengthOf hM he) (Ok.cle e_in ?_)
    have e1 : (nI (d.1.2.2.1 e) - 1).toInt = (d.1.2.2.1 e : Int) - 1 := by rw [i32_sub (by rw [nIt (by omega)]; show _ ≤ (d.1.2.2.1 e : Int) - 1 ∧ (d.1.2.2.1 e : Int) - 1 ≤ _; omega), nIt (by omega)]; rfl
    have em : (-1 : Int32).toInt = -1 := by decide
    rw [e1, em, patS_in he hP]
    clear e1 em
    by_cases c0 : y.toInt = -1
    · have ev : patI d e y = nI (d.1.2.2.1 e) := by unfold patI; rw [if_pos c0]
      rw [ev]
      exact Ok.f (fun h => if10.mp h (by omega)) (Ok.t c0 (Ok.cle (e_lengthOf hM he) (Ok.ret ⟨rfl, frm.rf⟩)))
    by_cases c1 : 0 ≤ y.toInt ∧ y.toInt < d.1.2.2.1 e
    · have ev : patI d e y = Int32.ofInt (d.1.2.2.2 e y.toInt.toNat) := by unfold patI; rw [if_neg c0, if_pos c1]
      rw [ev]
      obtain ⟨i, hi, rfl⟩ := in_T c1 (by omega)
      refine Ok.f (fun h => if10.mp h (by omega)) (Ok.f c0 (Ok.cle (e_heightAt hM he (by omega)) (Ok.ret ⟨?_, frm.rf⟩)))
      rw [nIt (n := i) (by omega), Int.toNat_natCast, Nat.mod_eq_of_lt hi]
    · have ev : patI d e y = -1 := by unfold patI; rw [if_neg c0, if_neg c1]
      rw [ev]
      exact Ok.t (if10.mpr (by omega)) (Ok.ret ⟨rfl, frm.rf⟩)
  · refine Ok.t (if10.mpr c) (Ok.ret ⟨?_, frm.rf⟩)
    unfold patS1; rw [if_neg c]
theorem sim_pattern : SIM n (f_X11_pattern x y) (f_X12_pattern x y) := sim_q (fun d t u sd ρ k nx H m tb G σ h => ⟨_, q_pattern_c h, fun s hs _ => q_pattern_m hs⟩)
end STANDS
