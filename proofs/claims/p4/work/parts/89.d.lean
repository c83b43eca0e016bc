/-! calls that go on: thrown in, used, set, beaten, undone, held, restored -/
section GOON
variable {σ s s2 : HS} {n t u sd k nx m T k' nx' m' : Nat} {ρ ρ' : Nat → Int32} {d : DAT} {b : Int} {H H' G G' : Nat → Nat → Int32} {tb9 : Nat → Nat} {x y z : Int32}
/-- what the class writes, what the reference writes -/
def wSc (a k : Nat) : Bool := wQ a k || (decide (56 ≤ a) && decide (a ≤ 59)) || wKp a k
def wSm (a k : Nat) : Bool := wQ a k || wRs a k
theorem wSc_no {a k : Nat} (h : wQ a k = false) (h2 : a < 12 ∨ 12 < a ∧ a < 56 ∨ 59 < a ∧ a < 76 ∨ 235 < a) : wSc a k = false := by
  unfold wSc
  rw [h, wKp_no (by omega), Bool.false_or, Bool.or_false, Bool.and_eq_false_iff, decide_eq_false_iff_not, decide_eq_false_iff_not]
  omega
theorem kp_wSc : ∀ i k, wKp i k = true → wSc i k = true := fun i k h => by unfold wSc; rw [h, Bool.or_true]
theorem ai_wSc : ∀ i k, wAi 56 i k = true → wSc i k = true := fun i k h => by
  unfold wAi at h
  simp only [Bool.or_eq_true, beq_iff_eq] at h
  unfold wSc
  rw [decide_eq_true (show 56 ≤ i by omega), decide_eq_true (show i ≤ 59 by omega), Bool.and_self, Bool.or_true, Bool.true_or]
theorem bt_wSc : ∀ i k, wBt 56 i k = true → wSc i k = true := fun i k h => by
  unfold wBt at h
  simp only [Bool.or_eq_true, beq_iff_eq] at h
  rcases h with ((h | h) | h) | h
  · exact ai_wSc i k h
  · subst h; rfl
  · subst h; rfl
  · subst h; rfl
theorem q_wSm : ∀ i k, wQ i k = true → wSm i k = true := fun i k h => by unfold wSm; rw [h]; rfl
theorem rs_wSm : ∀ i k, wRs i k = true → wSm i k = true := fun i k h => by unfold wSm; rw [h, Bool.or_true]
theorem wSm_no {a k : Nat} (h : wQ a k = false) (h2 : a ≠ 266 ∧ a ≠ 268 ∧ a ≠ 236) : wSm a k = false := by
  unfold wSm wRs
  simp only [Bool.or_eq_false_iff, Bool.and_eq_false_iff, beq_eq_false_iff_ne]
  exact ⟨h, ⟨h2.1, h2.2.1⟩, Or.inl h2.2.2⟩
/-- class and reference gone on alike -/
theorem RELx.done (h : RELx n d t u sd ρ k nx H m tb9 G σ) (hc : frm wSc wl0 σ s) (hm : frm wSm wl0 s s2) (hA : AR 56 d.1.1.1 ρ' s) (hPc : PSc d k' nx' H' s) (hN : NWm ρ' s2) (hPm : PSm k' H' s2) (hW : RW d (60 * ((n + 1 : Nat) : Int)) ρ') (hH : ∀ j, j < k' → RW d (60 * ((n + 1 : Nat) : Int)) (H' j)) : RELx (n + 1) d t u sd ρ' k' nx' H' m tb9 G s2 := by
  obtain ⟨h1, h2, h3, h4, h5, h6⟩ := h
  have q1 : ∀ i k, 30 ≤ i → i ≤ 55 → wSc i k = false := fun i k x y => wSc_no (wQ_no (by omega)) (by omega)
  have q2 : ∀ i k, 245 ≤ i → i ≤ 262 → wSc i k = false := fun i k x y => wSc_no (wQ_no (by omega)) (by omega)
  have q3 : ∀ i k, 30 ≤ i → i ≤ 55 → wSm i k = false := fun i k x y => wSm_no (wQ_no (by omega)) (by omega)
  have q4 : ∀ i k, 245 ≤ i → i ≤ 262 → wSm i k = false := fun i k x y => wSm_no (wQ_no (by omega)) (by omega)
  have z1 := (h1.fr hc rfl rfl (fun _ => rfl) (fun _ => rfl) rfl rfl).fr hm rfl rfl (fun _ => rfl) (fun _ => rfl) rfl rfl
  have z2 := (h2.fr hc q1 rfl q2).fr hm q3 rfl q4
  have z5 := (h5.fr hc (fun i k x y => wSc_no (wQ_no (by omega)) (by omega)) (fun i k x y => wSc_no (wQ_no (by omega)) (by omega)) rfl).fr hm (fun i k x y => wSm_no (wQ_no (by omega)) (by omega)) (fun i k x y => wSm_no (wQ_no (by omega)) (by omega)) rfl
  have z6 := ((h6.fr hc (fun i k x y => wSc_no (wQ_no (by omega)) (by omega)) (fun i k x y => wSc_no (wQ_no (by omega)) (by omega)) (fun _ => rfl)).fr hm (fun i k x y => wSm_no (wQ_no (by omega)) (by omega)) (fun i k x y => wSm_no (wQ_no (by omega)) (by omega)) (fun _ => rfl)).mono (show 60 * (n : Int) ≤ 60 * ((n + 1 : Nat) : Int) by omega)
  have z3 : PSc d k' nx' H' s2 := hPc.fr hm (fun i k x y => wSm_no (wQ_no (by omega)) (by omega)) (fun _ => rfl)
  have z4 : AR 56 d.1.1.1 ρ' s2 := hA.fr hm (fun i k x y => wSm_no (wQ_no (by omega)) (by omega))
  exact ⟨z1, z2, ⟨z4, hN, hW⟩, ⟨z3.1, z3.2.1, z3.2.2.1, z3.2.2.2.1, hPm.1, fun j hj => ⟨z3.2.2.2.2 j hj, hPm.2.2 j hj, hH j hj⟩⟩, z5, z6⟩
/-- a call that either answers alone, or goes on from a kept row -/
theorem sim_gen {fc fm : HS → Option (Int32 × HS)} (h : ∀ d t u sd ρ k nx H m tb G σ, RELx n d t u sd ρ k nx H m tb G σ → ∃ r s s2, fc σ = some (r, s) ∧ fm s = some (r, s2) ∧ REL (n + 1) s2) : SIM n fc fm := by
  intro σ hR
  obtain ⟨d, t, u, sd, ρ, k, nx, H, m, tb, G, hR⟩ := hR
  exact h d t u sd ρ k nx H m tb G σ hR
theorem RELx.same (h : RELx n d t u sd ρ k nx H m tb9 G σ) : REL (n + 1) σ := ⟨d, t, u, sd, ρ, k, nx, H, m, tb9, G, h.next⟩
/-- kept, then gone on: both sides -/
theorem RELx.kept (h : RELx n d t u sd ρ k nx H m tb9 G σ) {fc fm : HS → Option (Int32 × HS)} {r : Int32} (hc : Ok (fc σ) (fun r1 s => r1 = r ∧ AR 56 d.1.1.1 ρ' s ∧ PSc d (kpK k) ((nx + 1) % 40) (kpH k H ρ) s ∧ frm wSc wl0 σ s)) (hm : ∀ s, frm wSc wl0 σ s → TM sd d s → NWm ρ s → PSm k H s → Ok (fm s) (fun r2 s2 => r2 = r ∧ NWm ρ' s2 ∧ PSm (kpK k) (kpH k H ρ) s2 ∧ frm wSm wl0 s s2)) (hW : RW d (60 * ((n + 1 : Nat) : Int)) ρ') : ∃ r s s2, fc σ = some (r, s) ∧ fm s = some (r, s2) ∧ REL (n + 1) s2 := by
  obtain ⟨r1, s, e1, rfl, a1, a2, a3⟩ := hc
  have q1 : ∀ i k, 245 ≤ i → i ≤ 262 → wSc i k = false := fun i k x y => wSc_no (wQ_no (by omega)) (by omega)
  obtain ⟨r2, s2, e2, rfl, b1, b2, b3⟩ := hm s a3 (h.tm.fr a3 rfl q1) (h.nw.fr a3 (fun _ => rfl)) (h.2.2.2.1.mm.fr a3 (fun _ => rfl) rfl)
  exact ⟨r2, s, s2, e1, e2, d, t, u, sd, ρ', kpK k, (nx + 1) % 40, kpH k H ρ, m, tb9, G, h.done a3 b3 a1 a2 b1 b2 hW (kpH_w (fun j hj => (h.2.2.2.1.w j hj).mono (by omega)) (h.rw.mono (by omega)) h.2.2.2.1.2.2.2.1)⟩
theorem q_keep (h : RELx n d t u sd ρ k nx H m tb9 G σ) : Okv (f_X5_keep 56 σ) (fun s => AR 56 d.1.1.1 ρ s ∧ PSc d (kpK k) ((nx + 1) % 40) (kpH k H ρ) s ∧ frm wKp wl0 σ s) :=
  (w_keep h.2.2.2.1.c h.ar h.tc.T7).mono (fun s hs => ⟨h.ar.fr hs.2 (fun i k x y => wKp_no (by omega)), hs.1, hs.2⟩)
theorem PSc.air {s : HS} (h : PSc d k nx H σ) (hf : frm (wAi 56) wl0 σ s) : PSc d k nx H s := h.fr hf (fun i k x y => wAi_no (by omega)) (fun _ => rfl)
theorem sim_throwIn : SIM n (f_X11_throwIn x y) (f_X12_throwIn x y) := sim_gen (fun d t u sd ρ k nx H m tb G σ h => by
  have hT := h.tc.T7
  have L := h.tm.lv
  have no : f_X11_throwIn x y σ = some (0, σ) → f_X12_throwIn x y σ = some (0, σ) → ∃ r s s2, f_X11_throwIn x y σ = some (r, s) ∧ f_X12_throwIn x y s = some (r, s2) ∧ REL (n + 1) s2 := fun e1 e2 => ⟨0, σ, σ, e1, e2, h.same⟩
  have ec : f_X10_hasThing (σ.2.2 0) x σ = _ := e_hasThing (x := x) (by rw [h.t0]; exact h.tc.1.1) hT
  have em : f_X12_isThing x σ = _ := e_isThing (x := x) L
  have tk : (σ.2.2 0) = 30 ∨ (σ.2.2 0) = 43 := by rw [h.t0]; exact h.tk
  by_cases c : 0 ≤ x.toInt ∧ x.toInt < d.1.1.1
  · obtain ⟨e, he, rfl⟩ := in_T c (by omega)
    have u1 : upA σ 56 e = upR ρ e := h.ar.up he
    rw [if_pos c] at ec em
    by_cases cu : (ρ e).toInt = 0
    · refine no ?_ ?_
      · unfold f_X11_throwIn
        rw [if_pos tk, ec]
        simp only [Cl]
        rw [if_neg (show ¬ (1 : Int32).toInt = 0 by decide), e_isUp (by omega), u1, if_pos (show upR ρ e = true from decide_eq_true cu)]
        simp only [Cl]
        rw [if_neg (show ¬ (1 : Int32).toInt = 0 by decide)]
      · unfold f_X12_throwIn
        rw [em]
        simp only [Cl]
        rw [if_neg (show ¬ (1 : Int32).toInt = 0 by decide), nIt (n := e) (by omega), if_pos (show 0 ≤ (e : Int) ∧ (e : Int) < 29 by omega), Int.toNat_natCast, h.nw e (by omega), if_pos cu]
    · by_cases cy : 0 ≤ y.toInt ∧ y.toInt ≤ 9
      · obtain ⟨q, hq, rfl⟩ : ∃ q : Nat, q ≤ 9 ∧ y = nI q := ⟨y.toInt.toNat, by omega, nI_tn cy.1 (by omega)⟩
        refine h.kept (ρ' := putR ρ e q) (r := 1) ?_ (fun s hf hM hN hP => ?_) ((h.rw.mono (by omega)).put hT he hq)
        · unfold f_X11_throwIn
          refine Ok.t tk (Ok.cle ec (Ok.f (by decide) (Ok.cle (e_isUp (by omega)) ?_)))
          rw [u1, if_neg (show ¬ upR ρ e = true from fun h => cu (of_decide_eq_true h))]
          refine Ok.t rfl (Ok.cle e_isHeight (Ok.f (fun e => if10.mp e cy) (Ok.cv (q_keep h) (fun s1 h1 => Ok.cve (e_putUp (by omega)) (Ok.ret ⟨rfl, ?_, ?_, ?_⟩)))))
          · exact (h1.1.w hT he).l hT he
          · exact h1.2.1.air ((frm.rf.I (by unfold wAi; simp)).I (by unfold wAi; simp))
          · exact ((h1.2.2.sub kp_wSc).I rfl).I rfl
        · unfold f_X12_throwIn
          have em2 : f_X12_isThing (nI e) s = _ := e_isThing (x := nI e) hM.lv
          rw [if_pos c] at em2
          refine Ok.cle em2 (Ok.f (by decide) ?_)
          rw [nIt (n := e) (by omega), Int.toNat_natCast, hN e (by omega)]
          refine Ok.t (by omega) (Ok.f cu (Ok.cle e_in (Ok.f (fun e => if10.mp e cy) (Ok.cv (w_copies hM hN) (fun s1 h1 => Ok.t (by omega) (Ok.bd ?_))))))
          rw [n7_add, nIt (n := 7 + e) (by omega), Int.toNat_natCast]
          refine Ok.t (by omega) (Ok.bd ?_)
          have f1 := h1.2.2.2.sub cp_wQ
          have F : frm wQ wl0 s (hI (hI s1 267 e 0) 267 (7 + e) (nI q)) := (f1.I rfl).I rfl
          refine Ok.cv (w_records (ρ' := putR ρ e q) (hP.fr F (fun _ => rfl) rfl) (hN.fr F (fun _ => rfl)) (h1.1.w.w)) (fun s3 h3 => Ok.ret ⟨rfl, h3.2.1, h3.1, (F.sub q_wSm).tr (h3.2.2.sub rs_wSm)⟩)
      · have ey : f_X11_isHeight y σ = some (0, σ) := by rw [e_isHeight, if_neg cy]
        have ey2 : f_X12_in y 0 9 σ = some (0, σ) := by rw [e_in]; exact congrArg (fun v => some (v, σ)) (if_neg cy)
        refine no ?_ ?_
        · unfold f_X11_throwIn
          rw [if_pos tk, ec]
          simp only [Cl]
          rw [if_neg (show ¬ (1 : Int32).toInt = 0 by decide), e_isUp (by omega), u1, if_neg (show ¬ upR ρ e = true from fun h => cu (of_decide_eq_true h))]
          simp only [Cl]
          rw [if_pos i0_eq, ey]
          rfl
        · unfold f_X12_throwIn
          rw [em]
          simp only [Cl]
          rw [if_neg (show ¬ (1 : Int32).toInt = 0 by decide), nIt (n := e) (by omega), if_pos (show 0 ≤ (e : Int) ∧ (e : Int) < 29 by omega), Int.toNat_natCast, h.nw e (by omega), if_neg cu, ey2]
          rfl
  · rw [if_neg c] at ec em
    refine no ?_ ?_
    · unfold f_X11_throwIn
      rw [if_pos tk, ec]
      rfl
    · unfold f_X12_throwIn
      rw [em]
      rfl)
end GOON
