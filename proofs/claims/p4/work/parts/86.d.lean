/-! tells -/
section TELLS
variable {σ s : HS} {n t u sd k nx m : Nat} {ρ : Nat → Int32} {d : DAT} {b : Int} {H G : Nat → Nat → Int32} {tb : Nat → Nat} {x y z : Int32}
theorem telS_no (h : ¬ ((0 ≤ x.toInt ∧ x.toInt < d.1.1.1) ∧ (0 ≤ z.toInt ∧ z.toInt ≤ 3) ∧ (z.toInt < 2 → 0 ≤ y.toInt ∧ y.toInt ≤ 9))) : telS d ρ x y z = -100 := if_neg h
theorem telS_in {e q : Nat} (he : e < d.1.1.1) (hT : d.1.1.1 ≤ 7) (hq : q < 4) (hy : q < 2 → 0 ≤ y.toInt ∧ y.toInt ≤ 9) : telS d ρ (nI e) y (nI q) = lawV d q (varS d ρ e (upsS d.1.1.1 ρ) (if q < 2 then y else 0)) := by
  have e1 : (nI e).toInt = (e : Int) := nIt (by omega)
  have e2 : (nI q).toInt = (q : Int) := nIt (by omega)
  unfold telS
  rw [e1, e2, if_pos (⟨by omega, by omega, fun h => hy (by omega)⟩ : (0 ≤ (e : Int) ∧ (e : Int) < d.1.1.1) ∧ (0 ≤ (q : Int) ∧ (q : Int) ≤ 3) ∧ ((q : Int) < 2 → 0 ≤ y.toInt ∧ y.toInt ≤ 9)), Int.toNat_natCast, Int.toNat_natCast]
  by_cases c : q < 2
  · rw [if_pos c, if_pos (show (q : Int) < 2 by omega)]
  · rw [if_neg c, if_neg (show ¬ (q : Int) < 2 by omega)]
theorem q_tells_c (h : RELx n d t u sd ρ k nx H m tb G σ) : Ok (f_X11_tells x y z σ) (fun r s => r = telS d ρ x y z ∧ frm wQ wl0 σ s) := by
  have hT := h.tc.T7
  have hA := h.ar
  have ha : aAi 56 := ⟨by decide, by decide⟩
  unfold f_X11_tells
  rw [h.t0]
  refine Ok.t h.tk (Ok.cle (e_hasThing h.tc.1.1 hT) ?_)
  by_cases c : 0 ≤ x.toInt ∧ x.toInt < d.1.1.1
  · refine Ok.f (fun e => if10.mp e c) ?_
    by_cases c3 : z.toInt < 0
    · exact Ok.t c3 (Ok.ret ⟨(telS_no (fun e => by omega)).symm, frm.rf⟩)
    by_cases c4 : 3 < z.toInt
    · exact Ok.f c3 (Ok.t c4 (Ok.ret ⟨(telS_no (fun e => by omega)).symm, frm.rf⟩))
    refine Ok.f c3 (Ok.f c4 ?_)
    obtain ⟨e, he, rfl⟩ := in_T c (by omega)
    obtain ⟨q, hq, rfl⟩ : ∃ q, q < 4 ∧ z = nI q := in_T (T := 4) (by omega) (by decide)
    have eq : (nI q).toInt = (q : Int) := nIt (by omega)
    -- behind the refusals
    have fin : ∀ (v : Int32), Ok (f_X11_tells_54 (nI e) y (nI q) v σ) (fun r s => r = lawV d q (varS d ρ e (upsS d.1.1.1 ρ) (if v.toInt = 0 then 0 else y)) ∧ frm wQ wl0 σ s) := by
      intro v
      unfold f_X11_tells_54
      rw [h.t0]
      refine Ok.t h.tk (Ok.cle (e_howManyUp hA.1 hT) ?_)
      rw [hA.cntUp]
      refine Ok.cv (e_lookAt hA h.tc h.tk ha he hT he) (fun s4 h4 => ?_)
      obtain ⟨v4, f4⟩ := h4
      have F4 : frm wQ wl0 σ s4 := f4.sub lk_wQ
      have h4 := h.fr F4
      rw [h4.t0]
      refine Ok.t h.tk ?_
      unfold f_X11_tells_96
      by_cases cv : v.toInt = 0
      · refine Ok.t cv (Ok.cl (w_asksV (k := q) v4 h4.tc h.ok h.tk hq) (fun r s5 h5 => Ok.ret ⟨?_, F4.tr (h5.2.1.mono (fun _ _ => wQ_an) (fun _ e => e))⟩))
        rw [if_pos cv]; exact h5.1
      · refine Ok.f cv (Ok.cl (w_asksV (k := q) v4 h4.tc h.ok h.tk hq) (fun r s5 h5 => Ok.ret ⟨?_, F4.tr (h5.2.1.mono (fun _ _ => wQ_an) (fun _ e => e))⟩))
        rw [if_neg cv]; exact h5.1
    have thr : q < 2 → Ok (f_X11_tells_32 (nI e) y (nI q) σ) (fun r s => r = telS d ρ (nI e) y (nI q) ∧ frm wQ wl0 σ s) := by
      intro hq2
      unfold f_X11_tells_32 f_X11_tells_37
      refine Ok.f i1_ne (Ok.cle e_isHeight ?_)
      by_cases cy : 0 ≤ y.toInt ∧ y.toInt ≤ 9
      · rw [telS_in he hT hq (fun _ => cy), if_pos hq2]
        refine Ok.f (fun e => if10.mp e cy) ((fin 1).mono (fun r s hr => ⟨?_, hr.2⟩))
        rw [hr.1, if_neg i1_ne]
      · rw [telS_no (fun e => cy (e.2.2 (by omega)))]
        exact Ok.t (if10.mpr cy) (Ok.ret ⟨rfl, frm.rf⟩)
    rcases (show q = 0 ∨ q = 1 ∨ 2 ≤ q by omega) with c0 | c0 | c0
    · exact Ok.t (by omega) (thr (by omega))
    · exact Ok.f (by omega) (Ok.t (by omega) (thr (by omega)))
    · refine Ok.f (by omega) (Ok.f (by omega) ?_)
      unfold f_X11_tells_37
      rw [telS_in he hT hq (fun e => by omega), if_neg (show ¬ q < 2 by omega)]
      refine Ok.t i0_eq ((fin 0).mono (fun r s hr => ⟨?_, hr.2⟩))
      rw [hr.1, if_pos i0_eq]
  · exact Ok.t (if10.mpr c) (Ok.ret ⟨(telS_no (fun e => c e.1)).symm, frm.rf⟩)
theorem q_tells_m (h : RELx n d t u sd ρ k nx H m tb G σ) : Ok (f_X12_tells x y z σ) (fun r s => r = telS d ρ x y z ∧ frm wQ wl0 σ s) := by
  have hT := h.tc.T7
  have hM := h.tm
  unfold f_X12_tells
  refine Ok.cle (e_isThing hM.lv) ?_
  by_cases c : 0 ≤ x.toInt ∧ x.toInt < d.1.1.1
  · refine Ok.f (fun e => if10.mp e c) (Ok.cle e_in ?_)
    have e3 : (3 : Int32).toInt = 3 := rfl
    have e9 : (9 : Int32).toInt = 9 := rfl
    rw [i0_eq, e3]
    by_cases c3 : 0 ≤ z.toInt ∧ z.toInt ≤ 3
    · refine Ok.f (fun e => if10.mp e c3) ?_
      obtain ⟨e, he, rfl⟩ := in_T c (by omega)
      obtain ⟨q, hq, rfl⟩ : ∃ q, q < 4 ∧ z = nI q := in_T (T := 4) (by omega) (by decide)
      have eq : (nI q).toInt = (q : Int) := nIt (by omega)
      have fin : Ok (f_X12_tells_35 (nI e) y (nI q) σ) (fun r s => r = lawV d q (varS d ρ e (upsS d.1.1.1 ρ) (if q < 2 then y else 0)) ∧ frm wQ wl0 σ s) := by
        unfold f_X12_tells_35
        refine Ok.cv (w_copies hM h.nw) (fun s1 h1 => ?_)
        obtain ⟨R1, -, -, f1⟩ := h1
        have M1 : TM sd d s1 := hM.fr f1 (by decide) (fun i k h1 h2 => by unfold wCp; simp; omega)
        refine Ok.cle (e_thingsSo M1.lv) (Ok.cle e_bits ?_)
        rw [pcM_cnt (by omega)]
        have eu : nI (cntB (fun e => decide ((s1.1 267 e).toInt = (0 : Int32).toInt)) d.1.1.1) = upsS d.1.1.1 ρ := by
          unfold upsS
          rw [← R1.cntUp hT]; rfl
        rw [eu, eq]
        have up1 : ∀ {v : HS}, frm wLa wl0 s1 v → frm wQ wl0 σ v := fun hf => (f1.mono (fun _ _ e => wGoM_Cp (wQ_go e)) (fun _ e => e)).tr (hf.mono (fun _ _ e => wBm_La (wGoM_Bm (wQ_go e))) (fun _ e => e))
        rcases (show q = 0 ∨ q = 1 ∨ q = 2 ∨ q = 3 by omega) with rfl | rfl | rfl | rfl
        · exact Ok.t rfl (Ok.cl (w_tiresBy M1 h.ok R1 he h.rw) (fun r s2 h2 => Ok.ret ⟨h2.1, up1 h2.2⟩))
        · exact Ok.f (by decide) (Ok.t rfl (Ok.cl (w_dropsBy M1 h.ok R1 he h.rw) (fun r s2 h2 => Ok.ret ⟨h2.1, up1 h2.2⟩)))
        · exact Ok.f (by decide) (Ok.f (by decide) (Ok.t rfl (Ok.cl (w_forceOf M1 h.ok R1 he h.rw) (fun r s2 h2 => Ok.ret ⟨h2.1, up1 h2.2⟩))))
        · exact Ok.f (by decide) (Ok.f (by decide) (Ok.f (by decide) (Ok.cl (w_paysOf M1 h.ok R1 he h.rw) (fun r s2 h2 => Ok.ret ⟨h2.1, up1 h2.2⟩))))
      rw [eq]
      by_cases c2 : q < 2
      · refine Ok.t (by omega) (Ok.cle e_in ?_)
        rw [i0_eq, e9]
        by_cases cy : 0 ≤ y.toInt ∧ y.toInt ≤ 9
        · rw [telS_in he hT hq (fun _ => cy)]
          exact Ok.f (fun e => if10.mp e cy) fin
        · rw [telS_no (fun e => cy (e.2.2 (by omega)))]
          exact Ok.t (if10.mpr cy) (Ok.ret ⟨rfl, frm.rf⟩)
      · rw [telS_in he hT hq (fun e => absurd e c2)]
        exact Ok.f (by omega) fin
    · exact Ok.t (if10.mpr c3) (Ok.ret ⟨(telS_no (fun e => c3 e.2.1)).symm, frm.rf⟩)
  · exact Ok.t (if10.mpr c) (Ok.ret ⟨(telS_no (fun e => c e.1)).symm, frm.rf⟩)
theorem sim_tells : SIM n (f_X11_tells x y z) (f_X12_tells x y z) := sim_q (fun d t u sd ρ k nx H m tb G σ h => ⟨_, q_tells_c h, fun s hs _ => q_tells_m hs⟩)
end TELLS
