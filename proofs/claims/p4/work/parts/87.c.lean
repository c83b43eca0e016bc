/-! closes, joined, span -/
section CLO
variable {σ s : HS} {n t u sd k nx m p L : Nat} {ρ : Nat → Int32} {d : DAT} {b : Int} {H G : Nat → Nat → Int32} {tb9 : Nat → Nat} {x y z : Int32} {g g2 : Nat → Nat}
theorem tp_wQ (i k : Nat) (h : wTp i k = true) : wQ i k = true := by
  unfold wTp at h
  simp only [Bool.or_eq_true, Bool.and_eq_true, beq_iff_eq] at h
  rcases h with h | ⟨h, h2⟩
  · subst h; rfl
  · subst h; subst h2; rfl
theorem i1_e : (1 : Int32).toInt = 1 := rfl
/-- which pattern: as 0 .. P less 1 -/
theorem clo_no {P : Prop} {dP : Decidable P} {v : Int32} (h : ¬ P) : (if P then v else -1) = -1 := if_neg h
def cloS (d : DAT) (x y : Int32) : Int32 := if (0 ≤ x.toInt ∧ x.toInt < d.1.2.1) ∧ (0 ≤ y.toInt ∧ y.toInt ≤ 1) then clzS (gP d x.toInt.toNat) (LnP d x.toInt.toNat) y else -1
theorem cloS_in (hp : p < d.1.2.1) (hP : d.1.2.1 ≤ 5) (hy : 0 ≤ y.toInt ∧ y.toInt ≤ 1) : cloS d (nI p) y = clzS (gP d p) (LnP d p) y := by
  have e1 : (nI p).toInt = (p : Int) := nIt (by omega)
  unfold cloS
  rw [e1, if_pos ⟨⟨by omega, by omega⟩, hy⟩, Int.toNat_natCast]
theorem q_closes_c (h : RELx n d t u sd ρ k nx H m tb9 G σ) : Ok (f_X11_closes x y σ) (fun r s => r = cloS d x y ∧ frm wQ wl0 σ s) := by
  have hP := h.tc.2.1.2.1
  unfold f_X11_closes
  rw [h.t0]
  refine Ok.t h.tk (Ok.cle (e_hasPattern h.tc.2.1.1 hP) ?_)
  rw [h.t0]
  by_cases c : 0 ≤ x.toInt ∧ x.toInt < d.1.2.1
  · refine Ok.f (fun e => if10.mp e c) ?_
    by_cases c1 : y.toInt < 0
    · exact Ok.t c1 (Ok.ret ⟨(clo_no (fun e => by omega)).symm, frm.rf⟩)
    by_cases c2 : 1 < y.toInt
    · exact Ok.f c1 (Ok.t c2 (Ok.ret ⟨(clo_no (fun e => by omega)).symm, frm.rf⟩))
    obtain ⟨p, hp, rfl⟩ := in_T c (by omega)
    obtain ⟨q1, q2, q3⟩ := h.tc.2.1.2.2 p hp
    rw [cloS_in hp hP (by omega), nIt (n := p) (by omega), Int.toNat_natCast, q1]
    have c5 : 0 ≤ (p : Int) ∧ (p : Int) < 5 := by omega
    refine Ok.f c1 (Ok.f c2 (Ok.t h.tk (Ok.t c5 (Ok.t h.tk (Ok.t c5 ?_)))))
    exact Ok.cle (e_closingOf (h.tc.hc h.tk h.ok hp)) (Ok.ret ⟨rfl, frm.rf⟩)
  · exact Ok.t (if10.mpr c) (Ok.ret ⟨(clo_no (fun e => c e.1)).symm, frm.rf⟩)
theorem q_closes_m (h : RELx n d t u sd ρ k nx H m tb9 G σ) : Ok (f_X12_closes x y σ) (fun r s => r = cloS d x y ∧ frm wQ wl0 σ s) := by
  have hM := h.tm
  have hP := hM.2.2.2.1.2.1
  unfold f_X12_closes
  refine Ok.cle (e_isPattern hM.lv hM.2.2.2.1.1 hP) ?_
  by_cases c : 0 ≤ x.toInt ∧ x.toInt < d.1.2.1
  · refine Ok.f (fun e => if10.mp e c) (Ok.cle e_in ?_)
    rw [i0_eq, i1_e]
    by_cases cy : 0 ≤ y.toInt ∧ y.toInt ≤ 1
    · obtain ⟨p, hp, rfl⟩ := in_T c (by omega)
      have hl := hM.lp hp
      rw [cloS_in hp hP cy]
      refine Ok.f (fun e => if10.mp e cy) (Ok.cl (w_keepsOf hM h.ok hp) (fun r s5 h5 => ?_))
      obtain ⟨rfl, -, f5⟩ := h5
      exact Ok.cle (e_told (by omega) (fun i hi => (gP_of h.ok hp hi).2) (by omega)) (Ok.ret ⟨rfl, f5.sub tp_wQ⟩)
    · exact Ok.t (if10.mpr cy) (Ok.ret ⟨(clo_no (fun e => cy e.2)).symm, frm.rf⟩)
  · exact Ok.t (if10.mpr c) (Ok.ret ⟨(clo_no (fun e => c e.1)).symm, frm.rf⟩)
theorem sim_closes : SIM n (f_X11_closes x y) (f_X12_closes x y) := sim_q (fun d t u sd ρ k nx H m tb G σ h => ⟨_, q_closes_c h, fun s hs _ => q_closes_m hs⟩)
/-! two patterns as one -/
def joG (d : DAT) (p q i : Nat) : Nat := if i < LnP d p then gP d p i else gP d q (i - LnP d p)
def joiS (d : DAT) (x y z : Int32) : Int32 := if (0 ≤ x.toInt ∧ x.toInt < d.1.2.1) ∧ (0 ≤ y.toInt ∧ y.toInt < d.1.2.1) ∧ (0 ≤ z.toInt ∧ z.toInt ≤ 1) then clzS (joG d x.toInt.toNat y.toInt.toNat) (LnP d x.toInt.toNat + LnP d y.toInt.toNat) z else -1
theorem joiS_in {q : Nat} (hp : p < d.1.2.1) (hq : q < d.1.2.1) (hP : d.1.2.1 ≤ 5) (hz : 0 ≤ z.toInt ∧ z.toInt ≤ 1) : joiS d (nI p) (nI q) z = clzS (joG d p q) (LnP d p + LnP d q) z := by
  have e1 : (nI p).toInt = (p : Int) := nIt (by omega)
  have e2 : (nI q).toInt = (q : Int) := nIt (by omega)
  unfold joiS
  rw [e1, e2, if_pos ⟨⟨by omega, by omega⟩, ⟨by omega, by omega⟩, hz⟩, Int.toNat_natCast, Int.toNat_natCast]
theorem joG_le (hD : DOK d) {q : Nat} (hp : p < d.1.2.1) (hq : q < d.1.2.1) {i : Nat} (hi : i < LnP d p + LnP d q) : joG d p q i ≤ 9 := by
  unfold joG
  by_cases c : i < LnP d p
  · rw [if_pos c]; exact (gP_of hD hp c).2
  · rw [if_neg c]; exact (gP_of hD hq (by omega)).2
theorem q_joined_c (h : RELx n d t u sd ρ k nx H m tb9 G σ) : Ok (f_X11_joined x y z σ) (fun r s => r = joiS d x y z ∧ frm wQ wl0 σ s) := by
  have hP := h.tc.2.1.2.1
  unfold f_X11_joined
  rw [h.t0]
  refine Ok.t h.tk (Ok.cle (e_hasPattern h.tc.2.1.1 hP) ?_)
  rw [h.t0]
  by_cases c : 0 ≤ x.toInt ∧ x.toInt < d.1.2.1
  · refine Ok.f (fun e => if10.mp e c) (Ok.t h.tk (Ok.cle (e_hasPattern h.tc.2.1.1 hP) ?_))
    rw [h.t0]
    by_cases cq : 0 ≤ y.toInt ∧ y.toInt < d.1.2.1
    · refine Ok.f (fun e => if10.mp e cq) ?_
      by_cases c1 : z.toInt < 0
      · exact Ok.t c1 (Ok.ret ⟨(clo_no (fun e => by omega)).symm, frm.rf⟩)
      by_cases c2 : 1 < z.toInt
      · exact Ok.f c1 (Ok.t c2 (Ok.ret ⟨(clo_no (fun e => by omega)).symm, frm.rf⟩))
      obtain ⟨p, hp, rfl⟩ := in_T c (by omega)
      obtain ⟨q, hq, rfl⟩ := in_T cq (by omega)
      obtain ⟨a1, a2, a3⟩ := h.tc.2.1.2.2 p hp
      obtain ⟨b1, b2, b3⟩ := h.tc.2.1.2.2 q hq
      rw [joiS_in hp hq hP (by omega), nIt (n := p) (by omega), nIt (n := q) (by omega), Int.toNat_natCast, Int.toNat_natCast, a1]
      have c5 : 0 ≤ (p : Int) ∧ (p : Int) < 5 := by omega
      have d5 : 0 ≤ (q : Int) ∧ (q : Int) < 5 := by omega
      have eL : d.1.2.2.1 p = LnP d p := rfl
      have eM : d.1.2.2.1 q = LnP d q := rfl
      rw [eL] at a1 a2 ⊢
      rw [eM] at b1 b2
      refine Ok.f c1 (Ok.f c2 (Ok.t h.tk (Ok.t c5 (Ok.bd (Ok.t h.tk (Ok.t c5 ?_))))))
      rw [nIt (n := LnP d p) (by omega)]
      refine Ok.t (by omega) (Ok.bd ?_)
      have hc1 := h.tc.hc h.tk h.ok hp
      have hc2 := h.tc.hc h.tk h.ok hq
      generalize hs1 : hA σ 29 (va_cpy (σ.1 (t + 5 + p)) (σ.1 29) (0 : Int).toNat (0 : Int).toNat (LnP d p : Int).toNat) = s1
      have f1 : frm wQ wl0 σ s1 := by rw [← hs1]; exact frm.rf.A (fun _ => rfl)
      have h1 := h.fr f1
      have j1 : ∀ i, i < LnP d p → s1.1 29 i = nI (gP d p i) := fun i hi => by
        rw [← hs1, rA_s]
        show va_cpy _ _ 0 0 (LnP d p) i = _
        rw [pk_cpy_in (by omega) (by omega), Nat.sub_zero, Nat.zero_add]
        exact (hc1.1 i hi).1
      have hc3 := h1.tc.hc h.tk h.ok hq
      obtain ⟨b1', -, -⟩ := h1.tc.2.1.2.2 q hq
      rw [eM] at b1'
      rw [h1.t0, b1', nIt (n := LnP d q) (by omega)]
      refine Ok.t h.tk (Ok.t d5 (Ok.t h.tk (Ok.t d5 (Ok.t (by omega) (Ok.bd ?_)))))
      generalize hs2 : hA s1 29 (va_cpy (s1.1 (t + 5 + q)) (s1.1 29) (0 : Int).toNat (LnP d p : Int).toNat (LnP d q : Int).toNat) = s2
      have f2 : frm wQ wl0 s1 s2 := by rw [← hs2]; exact frm.rf.A (fun _ => rfl)
      have h2 := h1.fr f2
      have j2 : ∀ i, i < LnP d p + LnP d q → s2.1 29 i = nI (joG d p q i) := fun i hi => by
        rw [← hs2, rA_s]
        show va_cpy _ _ 0 (LnP d p) (LnP d q) i = _
        unfold joG
        by_cases cl : i < LnP d p
        · rw [if_pos cl, pk_cpy_out (Or.inl cl)]; exact j1 i cl
        · rw [if_neg cl, pk_cpy_in (by omega) (by omega), Nat.zero_add]
          exact (hc3.1 _ (by omega)).1
      obtain ⟨b1'', -, -⟩ := h2.tc.2.1.2.2 q hq
      rw [eM] at b1''
      rw [h2.t0, b1'', nI_add]
      have e16 : (al 29 : Int) = 16 := rfl
      refine Ok.t h.tk (Ok.t d5 (Ok.cle (e_closingOf (g := joG d p q) ⟨fun i hi => ⟨j2 i hi, joG_le h.ok hp hq hi⟩, by omega, by omega, by rw [e16]; omega⟩) (Ok.ret ⟨rfl, f1.tr f2⟩)))
    · exact Ok.t (if10.mpr cq) (Ok.ret ⟨(clo_no (fun e => cq e.2.1)).symm, frm.rf⟩)
  · exact Ok.t (if10.mpr c) (Ok.ret ⟨(clo_no (fun e => c e.1)).symm, frm.rf⟩)
theorem q_joined_m (h : RELx n d t u sd ρ k nx H m tb9 G σ) : Ok (f_X12_joined x y z σ) (fun r s => r = joiS d x y z ∧ frm wQ wl0 σ s) := by
  have hM := h.tm
  have hP := hM.2.2.2.1.2.1
  unfold f_X12_joined
  refine Ok.cle (e_isPattern hM.lv hM.2.2.2.1.1 hP) ?_
  by_cases c : 0 ≤ x.toInt ∧ x.toInt < d.1.2.1
  · refine Ok.f (fun e => if10.mp e c) (Ok.cle (e_isPattern hM.lv hM.2.2.2.1.1 hP) ?_)
    by_cases cq : 0 ≤ y.toInt ∧ y.toInt < d.1.2.1
    · refine Ok.f (fun e => if10.mp e cq) (Ok.cle e_in ?_)
      rw [i0_eq, i1_e]
      by_cases cz : 0 ≤ z.toInt ∧ z.toInt ≤ 1
      · obtain ⟨p, hp, rfl⟩ := in_T c (by omega)
        obtain ⟨q, hq, rfl⟩ := in_T cq (by omega)
        have hl := hM.lp hp
        have hl2 := hM.lp hq
        rw [joiS_in hp hq hP cz, nI0]
        refine Ok.f (fun e => if10.mp e cz) (Ok.cv (w_takes (a0 := 0) hM h.ok hp (by omega)) (fun s7 h7 => ?_))
        obtain ⟨-, b2, -, f7⟩ := h7
        have F7 := f7.sub tp_wQ
        have h7 := h.fr F7
        refine Ok.cle (e_lengthOf h7.tm hp) ?_
        have eL : d.1.2.2.1 p = LnP d p := rfl
        rw [eL]
        refine Ok.cv (w_takes (a0 := LnP d p) h7.tm h.ok hq (by omega)) (fun s11 h11 => ?_)
        obtain ⟨c1, c2, c3, f11⟩ := h11
        have hm : HM (LnP d p + LnP d q) (joG d p q) s11 := by
          refine ⟨fun i hi => ⟨?_, joG_le h.ok hp hq hi⟩, by omega, by omega, c1⟩
          unfold joG
          by_cases cl : i < LnP d p
          · rw [if_pos cl, c3 i cl, ← b2 i cl, Nat.zero_add]
          · rw [if_neg cl, ← c2 (i - LnP d p) (by omega)]
            exact congrArg (s11.1 269) (by omega)
        refine Ok.cle (e_keeps hm) (Ok.cle (e_told (by omega) (fun i hi => joG_le h.ok hp hq hi) (by omega)) (Ok.ret ⟨rfl, F7.tr (f11.sub tp_wQ)⟩))
      · exact Ok.t (if10.mpr cz) (Ok.ret ⟨(clo_no (fun e => cz e.2.2)).symm, frm.rf⟩)
    · exact Ok.t (if10.mpr cq) (Ok.ret ⟨(clo_no (fun e => cq e.2.1)).symm, frm.rf⟩)
  · exact Ok.t (if10.mpr c) (Ok.ret ⟨(clo_no (fun e => c e.1)).symm, frm.rf⟩)
theorem sim_joined : SIM n (f_X11_joined x y z) (f_X12_joined x y z) := sim_q (fun d t u sd ρ k nx H m tb G σ h => ⟨_, q_joined_c h, fun s hs _ => q_joined_m hs⟩)
/-! the highest -/
def mxN (g : Nat → Nat) : Nat → Nat
  | 0 => 0
  | n + 1 => if mxN g n < g n then g n else mxN g n
theorem mxN_le (h : ∀ i, i < L → g i ≤ 9) : ∀ {n : Nat}, n ≤ L → mxN g n ≤ 9 := by
  intro n
  induction n with
  | zero => intro _; exact Nat.zero_le _
  | succ n ih =>
    intro hn
    show (if mxN g n < g n then g n else mxN g n) ≤ 9
    have := h n (by omega)
    have := ih (by omega)
    split <;> omega
theorem e_highest {p1 : Nat} (h : HC p1 L g σ) : f_X3_highest p1 (nI L) σ = some (nI (mxN g L), σ) := by
  obtain ⟨h1, h2, h3, h4⟩ := h
  have hm := fun (n : Nat) (hn : n ≤ L) => mxN_le (L := L) (g := g) (fun i hi => (h1 i hi).2) hn
  have loop : ∀ (dd k N : Nat), k + dd = L → dd < N → f_X3_highest_4 p1 N (nI L) (nI (mxN g k)) (nI k) σ = some (nI (mxN g L), σ) := by
    intro dd
    induction dd with
    | zero =>
      intro k N hk hN
      obtain ⟨N, rfl⟩ : ∃ q, N = q + 1 := ⟨N - 1, by omega⟩
      obtain rfl : k = L := by omega
      show b_X3_highest_4 p1 (f_X3_highest_4 p1 N) (nI k) (nI (mxN g k)) (nI k) σ = _
      unfold b_X3_highest_4
      rw [if_neg (Int.lt_irrefl _)]
    | succ dd ih =>
      intro k N hk hN
      obtain ⟨N, rfl⟩ : ∃ q, N = q + 1 := ⟨N - 1, by omega⟩
      have hg := h1 k (by omega)
      have hk1 := hm k (by omega)
      show b_X3_highest_4 p1 (f_X3_highest_4 p1 N) (nI L) (nI (mxN g k)) (nI k) σ = _
      unfold b_X3_highest_4
      rw [nIt (n := k) (by omega), nIt (n := L) (by omega), if_pos (show (k : Int) < L by omega), if_pos (show 0 ≤ (k : Int) ∧ (k : Int) < al p1 by omega), Int.toNat_natCast, hg.1]
      simp only [Bd]
      have e : (if nI (mxN g k) < nI (g k) then nI (g k) else nI (mxN g k)) = nI (mxN g (k + 1)) := by
        show _ = nI (if mxN g k < g k then g k else mxN g k)
        by_cases c : mxN g k < g k
        · rw [if_pos c, if_pos (Int32.lt_iff_toInt_lt.mpr (by rw [nIt (by omega), nIt (by omega)]; omega))]
        · rw [if_neg c, if_neg (fun e => c (by
            have := Int32.lt_iff_toInt_lt.mp e
            rw [nIt (by omega), nIt (by omega)] at this
            omega))]
      rw [e, nI_1]
      exact ih (k + 1) N (by omega) (by omega)
  unfold f_X3_highest
  have := loop L 0 5000 (by omega) (by omega)
  rw [show nI (mxN g 0) = 0 from nI_0, nI_0] at this
  exact this
def spaS (d : DAT) (x : Int32) : Int32 := if 0 ≤ x.toInt ∧ x.toInt < d.1.2.1 then nI (mxN (gP d x.toInt.toNat) (LnP d x.toInt.toNat)) else -1
theorem spaS_in (hp : p < d.1.2.1) (hP : d.1.2.1 ≤ 5) : spaS d (nI p) = nI (mxN (gP d p) (LnP d p)) := by
  have e1 : (nI p).toInt = (p : Int) := nIt (by omega)
  unfold spaS
  rw [e1, if_pos ⟨by omega, by omega⟩, Int.toNat_natCast]
theorem q_span_c (h : RELx n d t u sd ρ k nx H m tb9 G σ) : Ok (f_X11_span x σ) (fun r s => r = spaS d x ∧ frm wQ wl0 σ s) := by
  have hP := h.tc.2.1.2.1
  unfold f_X11_span
  rw [h.t0]
  refine Ok.t h.tk (Ok.cle (e_hasPattern h.tc.2.1.1 hP) ?_)
  rw [h.t0]
  by_cases c : 0 ≤ x.toInt ∧ x.toInt < d.1.2.1
  · refine Ok.f (fun e => if10.mp e c) ?_
    obtain ⟨p, hp, rfl⟩ := in_T c (by omega)
    obtain ⟨q1, q2, q3⟩ := h.tc.2.1.2.2 p hp
    rw [spaS_in hp hP, nIt (n := p) (by omega), Int.toNat_natCast, q1]
    have c5 : 0 ≤ (p : Int) ∧ (p : Int) < 5 := by omega
    exact Ok.t h.tk (Ok.t c5 (Ok.t h.tk (Ok.t c5 (Ok.cle (e_highest (h.tc.hc h.tk h.ok hp)) (Ok.ret ⟨rfl, frm.rf⟩)))))
  · exact Ok.t (if10.mpr c) (Ok.ret ⟨(clo_no c).symm, frm.rf⟩)
theorem q_span_m (h : RELx n d t u sd ρ k nx H m tb9 G σ) : Ok (f_X12_span x σ) (fun r s => r = spaS d x ∧ frm wQ wl0 σ s) := by
  have hM := h.tm
  have hP := hM.2.2.2.1.2.1
  unfold f_X12_span
  refine Ok.cle (e_isPattern hM.lv hM.2.2.2.1.1 hP) ?_
  by_cases c : 0 ≤ x.toInt ∧ x.toInt < d.1.2.1
  · refine Ok.f (fun e => if10.mp e c) ?_
    obtain ⟨p, hp, rfl⟩ := in_T c (by omega)
    have hl := hM.lp hp
    rw [spaS_in hp hP]
    have eL : d.1.2.2.1 p = LnP d p := rfl
    have hm := fun (n : Nat) (hn : n ≤ LnP d p) => mxN_le (L := LnP d p) (g := gP d p) (fun i hi => (gP_of h.ok hp hi).2) hn
    have loop : ∀ (dd k N : Nat), k + dd = LnP d p → dd < N → f_X12_span_14 N (nI p) (nI (mxN (gP d p) k)) (nI k) σ = some (nI (mxN (gP d p) (LnP d p)), σ) := by
      intro dd
      induction dd with
      | zero =>
        intro k N hk hN
        obtain ⟨N, rfl⟩ : ∃ q, N = q + 1 := ⟨N - 1, by omega⟩
        show b_X12_span_14 (f_X12_span_14 N) (nI p) (nI (mxN (gP d p) k)) (nI k) σ = _
        unfold b_X12_span_14
        rw [e_lengthOf hM hp, eL]
        simp only [Cl]
        rw [nIt (n := k) (by omega), nIt (n := LnP d p) (by omega), if_neg (show ¬ (k : Int) < LnP d p by omega)]
        obtain rfl : k = LnP d p := by omega
        rfl
      | succ dd ih =>
        intro k N hk hN
        obtain ⟨N, rfl⟩ : ∃ q, N = q + 1 := ⟨N - 1, by omega⟩
        have hk1 := hm k (by omega)
        have hg := gP_of h.ok hp (show k < LnP d p by omega)
        have eH : f_X12_heightAt (nI p) (nI k) σ = some (nI (gP d p k), σ) := by
          rw [e_heightAt hM hp (by omega), eL, Nat.mod_eq_of_lt (show k < LnP d p by omega), hg.1]
        show b_X12_span_14 (f_X12_span_14 N) (nI p) (nI (mxN (gP d p) k)) (nI k) σ = _
        unfold b_X12_span_14 f_X12_span_40
        rw [e_lengthOf hM hp, eL]
        simp only [Cl]
        rw [nIt (n := k) (by omega), nIt (n := LnP d p) (by omega), if_pos (show (k : Int) < LnP d p by omega), eH]
        simp only [Bd]
        rw [nI_1, nIt (n := mxN (gP d p) k) (by omega), nIt (n := gP d p k) (by omega), eH]
        simp only
        refine Eq.trans ?_ (ih (k + 1) N (by omega) (by omega))
        show _ = f_X12_span_14 N (nI p) (nI (if mxN (gP d p) k < gP d p k then gP d p k else mxN (gP d p) k)) (nI (k + 1)) σ
        by_cases c : mxN (gP d p) k < gP d p k
        · rw [if_pos (show (mxN (gP d p) k : Int) < gP d p k by omega), if_pos c]
        · rw [if_neg (show ¬ (mxN (gP d p) k : Int) < gP d p k by omega), if_neg c]
    have := loop (LnP d p) 0 5000 (by omega) (by omega)
    rw [show nI (mxN (gP d p) 0) = 0 from nI_0, nI_0] at this
    refine Ok.of this ?_
    exact ⟨rfl, frm.rf⟩
  · exact Ok.t (if10.mpr c) (Ok.ret ⟨(clo_no c).symm, frm.rf⟩)
theorem sim_span : SIM n (f_X11_span x) (f_X12_span x) := sim_q (fun d t u sd ρ k nx H m tb G σ h => ⟨_, q_span_c h, fun s hs _ => q_span_m hs⟩)
end CLO
