/-! calls that go on, further -/
section GOON2
variable {σ s s2 : HS} {n t u sd k nx m T k' nx' m' : Nat} {ρ ρ' : Nat → Int32} {d : DAT} {b : Int} {H H' G G' : Nat → Nat → Int32} {tb9 : Nat → Nat} {x y z : Int32}
theorem RELx.no (h : RELx n d t u sd ρ k nx H m tb9 G σ) {fc fm : HS → Option (Int32 × HS)} {r : Int32} (e1 : fc σ = some (r, σ)) (e2 : fm σ = some (r, σ)) : ∃ r s s2, fc σ = some (r, s) ∧ fm s = some (r, s2) ∧ REL (n + 1) s2 := ⟨r, σ, σ, e1, e2, h.same⟩
theorem tk0 (h : RELx n d t u sd ρ k nx H m tb9 G σ) : (σ.2.2 0) = 30 ∨ (σ.2.2 0) = 43 := by rw [h.t0]; exact h.tk
theorem sim_use : SIM n (f_X11_use x) (f_X12_use x) := sim_gen (fun d t u sd ρ k nx H m tb G σ h => by
  have hT := h.tc.T7
  have hP := h.tc.2.1.2.1
  have L := h.tm.lv
  have ec : f_X10_hasPattern (σ.2.2 0) x σ = _ := e_hasPattern (x := x) (by rw [h.t0]; exact h.tc.2.1.1) hP
  have em : ∀ s, TM sd d s → f_X12_isPattern x s = _ := fun s M => e_isPattern (x := x) M.lv M.2.2.2.1.1 hP
  by_cases c : 0 ≤ x.toInt ∧ x.toInt < d.1.2.1
  · obtain ⟨p, hp, rfl⟩ := in_T c (by omega)
    rw [if_pos c] at ec
    refine h.kept (ρ' := useR ρ p) (r := 1) ?_ (fun s hf hM hN hP9 => ?_) ((h.rw.mono (by omega)).use hp hT hP)
    · unfold f_X11_use
      refine Ok.t (tk0 h) (Ok.cle ec (Ok.f (by decide) (Ok.cv (q_keep h) (fun s1 h1 => Ok.cve e_takeUp (Ok.ret ⟨rfl, h1.1.use hT (by omega), ?_, ?_⟩)))))
      · exact h1.2.1.air ((frm.rf.I (by unfold wAi; simp)).I (by unfold wAi; simp))
      · exact ((h1.2.2.sub kp_wSc).I rfl).I rfl
    · unfold f_X12_use
      have em2 := em s hM
      rw [if_pos c] at em2
      refine Ok.cle em2 (Ok.f (by decide) (Ok.cv (w_copies hM hN) (fun s1 h1 => ?_)))
      have f1 := h1.2.2.2.sub cp_wQ
      have F : frm wQ wl0 s (hI (hI s1 267 26 (nI p)) 267 27 (s1.1 267 21)) := (f1.I rfl).I rfl
      have e : f_X12_uses (nI p) s1 = some (hI (hI s1 267 26 (nI p)) 267 27 (s1.1 267 21)) := by
        unfold f_X12_uses
        simp only [Bd]
        rw [rI_k (by decide)]
      have R2 : RRm (useR ρ p) (hI (hI s1 267 26 (nI p)) 267 27 (s1.1 267 21)) := by
        rw [h1.1 21 (by decide)]; exact h1.1.w.w
      exact Ok.cve e (Ok.cv (w_records (hP9.fr F (fun _ => rfl) rfl) (hN.fr F (fun _ => rfl)) R2) (fun s3 h3 => Ok.ret ⟨rfl, h3.2.1, h3.1, (F.sub q_wSm).tr (h3.2.2.sub rs_wSm)⟩))
  · have em1 := em σ h.tm
    rw [if_neg c] at ec em1
    refine h.no (r := 0) ?_ ?_
    · unfold f_X11_use
      rw [if_pos (tk0 h), ec]
      rfl
    · unfold f_X12_use
      rw [em1]
      rfl)
theorem RW.set (h : RW d b ρ) (hT : d.1.1.1 ≤ 7) (hx : 0 ≤ x.toInt ∧ x.toInt ≤ 9) : RW d b (upF ρ 28 x) := by
  obtain ⟨w1, w2, w3, w4, w5, w6⟩ := h
  refine ⟨fun j hj => ?_, ?_, ?_, ?_, ?_, ?_⟩
  · rw [upF_n (by omega), upF_n (by omega)]; exact w1 j hj
  · rw [upF_n (by decide)]; exact w2
  · rw [upF_n (by decide), upF_n (by decide)]; exact w3
  · rw [upF_n (by decide)]; exact w4
  · rw [upF_s]; omega
  · rw [upF_n (by decide)]; exact w6
theorem sim_set : SIM n (f_X11_set x) (f_X12_set x) := sim_gen (fun d t u sd ρ k nx H m tb G σ h => by
  have hT := h.tc.T7
  have ein : ∀ s, f_X12_in x 0 9 s = some (if 0 ≤ x.toInt ∧ x.toInt ≤ 9 then 1 else 0, s) := fun s => e_in
  by_cases c : 0 ≤ x.toInt ∧ x.toInt ≤ 9
  · have e11 : σ.1 56 11 = ρ 28 := h.ar.2.2.2.2.2
    by_cases c2 : (ρ 28).toInt = x.toInt
    · refine h.no (r := 0) ?_ ?_
      · unfold f_X11_set
        rw [e_isHeight, if_pos c]
        simp only [Cl]
        rw [if_neg (show ¬ (1 : Int32).toInt = 0 by decide), e11, if_pos c2]
      · unfold f_X12_set
        rw [ein, if_pos c]
        simp only [Cl]
        rw [if_neg (show ¬ (1 : Int32).toInt = 0 by decide), h.nw 28 (by decide), if_pos c2]
    · refine h.kept (ρ' := upF ρ 28 x) (r := 1) ?_ (fun s hf hM hN hP9 => ?_) ((h.rw.mono (by omega)).set hT c)
      · unfold f_X11_set
        refine Ok.cle e_isHeight (Ok.f (fun e => if10.mp e c) (Ok.f (by rw [e11]; exact c2) (Ok.cv (q_keep h) (fun s1 h1 => Ok.bd (Ok.ret ⟨rfl, h1.1.h hT, ?_, ?_⟩)))))
        · exact h1.2.1.air (frm.rf.I (by unfold wAi; simp))
        · exact (h1.2.2.sub kp_wSc).I rfl
      · unfold f_X12_set
        refine Ok.cle (ein s) (Ok.f (fun e => if10.mp e c) (Ok.f (by rw [hN 28 (by decide)]; exact c2) (Ok.cv (w_copies hM hN) (fun s1 h1 => Ok.bd ?_))))
        have F : frm wQ wl0 s (hI s1 267 28 x) := (h1.2.2.2.sub cp_wQ).I rfl
        exact Ok.cv (w_records (hP9.fr F (fun _ => rfl) rfl) (hN.fr F (fun _ => rfl)) h1.1.w) (fun s3 h3 => Ok.ret ⟨rfl, h3.2.1, h3.1, (F.sub q_wSm).tr (h3.2.2.sub rs_wSm)⟩)
  · refine h.no (r := 0) ?_ ?_
    · unfold f_X11_set
      rw [e_isHeight, if_neg c]
      rfl
    · unfold f_X12_set
      rw [ein, if_neg c]
      rfl)
theorem sim_beats (hn : n ≤ 512) : SIM n (f_X11_beats x) (f_X12_beats x) := sim_gen (fun d t u sd ρ k nx H m tb G σ h => by
  have hT := h.tc.T7
  have e4 : σ.1 56 4 = ρ 21 := h.ar.2.2.1 4 (by decide) (by decide)
  by_cases c : 0 ≤ x.toInt ∧ x.toInt ≤ 60
  · obtain ⟨q, hq, rfl⟩ : ∃ q : Nat, q ≤ 60 ∧ x = nI q := ⟨x.toInt.toNat, by omega, nI_tn c.1 (by omega)⟩
    by_cases c0 : q = 0
    · subst c0
      refine h.no (r := ρ 21) ?_ ?_
      · unfold f_X11_beats f_X11_beats_50
        rw [if_neg (by decide), if_neg (by decide), if_neg (by decide), e4]
      · unfold f_X12_beats
        rw [e_isLong, if_pos c]
        simp only [Cl]
        rw [if_neg (show ¬ (1 : Int32).toInt = 0 by decide), if_pos (show (nI 0).toInt = 0 from rfl), h.nw 21 (by decide)]
    · have hR : RW d (60 * (n : Int) + q) (itS d (some (seeI d)) q ρ) := RW.it h.ok h.tc.ln (by omega) h.rw
      refine h.kept (ρ' := itS d (some (seeI d)) q ρ) (r := itS d (some (seeI d)) q ρ 21) ?_ (fun s hf hM hN hP9 => ?_) (hR.mono (by omega))
      · unfold f_X11_beats f_X11_beats_50
        rw [nIt (n := q) (by omega)]
        refine Ok.f (by omega) (Ok.f (by omega) (Ok.t (by omega) (Ok.cv (q_keep h) (fun s1 h1 => ?_))))
        have h1t : s1.2.2 0 = t := by rw [h1.2.2.2.2]; exact h.t0
        have C1 : TC t d s1 := h.tc.fr h1.2.2 (fun i k x y => wKp_no (by rcases h.tk with rfl | rfl <;> omega))
        have sc : s1.1 t 11 = seeI d := ofI C1.2.2.1.2
        have g := w_goOn (b := 60 * (n : Int)) C1 h.ok h.tk (show aAi 56 by unfold aAi; omega) (SDr.see0 h.ok) (n := q) (by omega) h1.1 h.rw (by omega)
        rw [h1t, sc]
        refine Ok.t h.tk (Ok.t h.tk (Ok.cv g (fun s3 h3 => Ok.ret ⟨h3.1.2.2.1 4 (by decide) (by decide), h3.1, ?_, (h1.2.2.sub kp_wSc).tr (h3.2.sub bt_wSc)⟩)))
        exact h1.2.1.fr h3.2 (fun i k x y => by unfold wBt wAi; simp; omega) (fun _ => rfl)
      · unfold f_X12_beats
        refine Ok.cle e_isLong (Ok.f (fun e => if10.mp e c) ?_)
        rw [nIt (n := q) (by omega)]
        refine Ok.f (by omega) (Ok.cv (w_copies hM hN) (fun s1 h1 => ?_))
        have f1 := h1.2.2.2.sub cp_wQ
        have M1 : TM sd d s1 := hM.fr f1 rfl (fun i k x y => wQ_no (by omega))
        refine Ok.cv (w_goes (b := 60 * (n : Int)) M1 h.ok h.tc.ln (n := q) (by omega) h1.1 h.rw (by omega) h1.2.1) (fun s2 h2 => ?_)
        have F : frm wQ wl0 s s2 := f1.tr (h2.2.sub bm_wQ)
        exact Ok.cv (w_records (hP9.fr F (fun _ => rfl) rfl) (hN.fr F (fun _ => rfl)) h2.1) (fun s3 h3 => Ok.ret ⟨h3.2.1 21 (by decide), h3.2.1, h3.1, (F.sub q_wSm).tr (h3.2.2.sub rs_wSm)⟩)
  · refine h.no (r := -1) ?_ ?_
    · unfold f_X11_beats
      by_cases c1 : x.toInt < 0
      · rw [if_pos c1]
      · rw [if_neg c1, if_pos (show 60 < x.toInt by omega)]
    · unfold f_X12_beats
      rw [e_isLong, if_neg c]
      rfl)
end GOON2
