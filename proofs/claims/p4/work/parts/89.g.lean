/-! held, told, forgotten, fed -/
section GOON4
variable {σ s s2 : HS} {n t u sd k nx m T k' nx' m' : Nat} {ρ ρ' : Nat → Int32} {d : DAT} {b : Int} {H H' G G' : Nat → Nat → Int32} {tb9 : Nat → Nat} {x y z x1 x2 x3 x4 x5 : Int32}
def wHc (q a k : Nat) : Bool := wAi (64 + 4 * q) a k || (a == 26 && k == q)
def wHm (a _k : Nat) : Bool := a == 275 || a == 276
theorem wHc_no {q a k : Nat} (hq : q ≤ 2) (h : a < 26 ∨ 26 < a ∧ a < 64 ∨ 75 < a) : wHc q a k = false := by
  unfold wHc
  rw [wAi_no (by omega), Bool.false_or, Bool.and_eq_false_iff, beq_eq_false_iff_ne]
  omega
theorem wHm_no {a k : Nat} (h : a < 275 ∨ 276 < a) : wHm a k = false := by
  unfold wHm
  rw [Bool.or_eq_false_iff, beq_eq_false_iff_ne, beq_eq_false_iff_ne]
  omega
theorem sim_hold : SIM n (f_X11_hold x) (f_X12_hold x) := sim_gen (fun d t u sd ρ k nx H m tb G σ h => by
  have hT := h.tc.T7
  have ein : ∀ s, f_X12_in x 0 2 s = some (if 0 ≤ x.toInt ∧ x.toInt ≤ 2 then 1 else 0, s) := fun s => e_in
  by_cases c : 0 ≤ x.toInt ∧ x.toInt ≤ 2
  · obtain ⟨q, hq, rfl⟩ : ∃ q : Nat, q ≤ 2 ∧ x = nI q := ⟨x.toInt.toNat, by omega, nI_tn c.1 (by omega)⟩
    have hc : Ok (f_X11_hold (nI q) σ) (fun r s => r = 1 ∧ AR (64 + 4 * q) d.1.1.1 ρ s ∧ s.1 26 q = 1 ∧ frm (wHc q) wl0 σ s) := by
      unfold f_X11_hold
      rw [nIt (n := q) (by omega), Int.toNat_natCast]
      refine Ok.f (by omega) (Ok.t (by omega) (Ok.t (by omega) (Ok.cv (w_copy (a := 64 + 4 * q) h.ar hT (by omega)) (fun s1 h1 => Ok.t (by omega) (Ok.bd (Ok.ret ⟨rfl, ?_, rI_s, ?_⟩))))))
      · exact h1.1.fr (wl := wl0) (frm.rf.I (w := fun a _ => a == 26) rfl) (fun i k x y => by simp; omega)
      · exact (h1.2.sub (fun i k h => by unfold wHc; rw [h]; rfl)).I (by unfold wHc; simp)
    obtain ⟨r1, s, e1, rfl, A, h26, fc⟩ := hc
    have hm : Ok (f_X12_hold (nI q) s) (fun r s2 => r = 1 ∧ s2.1 275 q = 1 ∧ (∀ i, i < 29 → s2.1 276 (29 * q + i) = ρ i) ∧ (∀ i, i ≠ q → s2.1 275 i = s.1 275 i) ∧ (∀ i, (i < 29 * q ∨ 29 * q + 29 ≤ i) → s2.1 276 i = s.1 276 i) ∧ frm wHm wl0 s s2) := by
      unfold f_X12_hold
      refine Ok.cle (ein s) (Ok.f (fun e => if10.mp e c) ?_)
      rw [nIt (n := q) (by omega), Int.toNat_natCast]
      refine Ok.t (by omega) (Ok.bd ?_)
      have N : NWm ρ s := h.nw.fr fc (fun k => wHc_no hq (by omega))
      have loop : ∀ (dd i N : Nat) (s1 : HS), i + dd = 29 → dd < N → frm wHm wl0 s s1 → s1.1 275 q = 1 → (∀ j, j < i → s1.1 276 (29 * q + j) = ρ j) → (∀ i, i ≠ q → s1.1 275 i = s.1 275 i) → (∀ i, (i < 29 * q ∨ 29 * q + 29 ≤ i) → s1.1 276 i = s.1 276 i) → Ok (f_X12_hold_20 N (nI q) (nI i) s1) (fun r s2 => r = 1 ∧ s2.1 275 q = 1 ∧ (∀ i, i < 29 → s2.1 276 (29 * q + i) = ρ i) ∧ (∀ i, i ≠ q → s2.1 275 i = s.1 275 i) ∧ (∀ i, (i < 29 * q ∨ 29 * q + 29 ≤ i) → s2.1 276 i = s.1 276 i) ∧ frm wHm wl0 s s2) := by
        intro dd
        induction dd with
        | zero =>
          intro i N s1 hi hF h1 h2 h3 h4 h5
          obtain ⟨N, rfl⟩ : ∃ q, N = q + 1 := ⟨N - 1, by omega⟩
          obtain rfl : i = 29 := by omega
          show Ok (b_X12_hold_20 (f_X12_hold_20 N) (nI q) (nI 29) s1) _
          unfold b_X12_hold_20
          exact Ok.f (by decide) (Ok.ret ⟨rfl, h2, h3, h4, h5, h1⟩)
        | succ dd ih =>
          intro i N' s1 hi hF h1 h2 h3 h4 h5
          obtain ⟨N', rfl⟩ : ∃ q, N' = q + 1 := ⟨N' - 1, by omega⟩
          show Ok (b_X12_hold_20 (f_X12_hold_20 N') (nI q) (nI i) s1) _
          unfold b_X12_hold_20
          rw [nI_29 (by omega), nI_add, nIt (n := i) (by omega), nIt (n := 29 * q + i) (by omega), Int.toNat_natCast, Int.toNat_natCast, h1.1 266 _ rfl, N i (by omega)]
          refine Ok.t (by omega) (Ok.t (by omega) (Ok.t (by omega) (Ok.bd (Ok.bd ?_))))
          rw [nI_1]
          refine ih (i + 1) N' _ (by omega) (by omega) (h1.I rfl) (by rw [rI_i (by decide)]; exact h2) (fun j hj => ?_) (fun j hj => by rw [rI_i (by decide)]; exact h4 j hj) (fun j hj => by rw [rI_k (by omega)]; exact h5 j hj)
          by_cases c : j = i
          · rw [c, rI_s]
          · rw [rI_k (by omega)]; exact h3 j (by omega)
      exact loop 29 0 5000 _ (by omega) (by omega) (frm.rf.I rfl) rI_s (fun j hj => absurd hj (by omega)) (fun i hi => by rw [rI_k hi]) (fun i hi => by rw [rI_i (by decide)])
    obtain ⟨r2, s2, e2, rfl, b1, b2, b3, b4, fm⟩ := hm
    refine ⟨1, s, s2, e1, e2, d, t, u, sd, ρ, k, nx, H, m, tb, (fun j => if j = q then ρ else G j), ?_⟩
    obtain ⟨h1, h2, h3, h4, h5, h6⟩ := h.next
    have p2 : ∀ i k, 30 ≤ i → i ≤ 55 → wHc q i k = false := fun i k x y => wHc_no hq (by omega)
    have p3 : ∀ i k, 245 ≤ i → i ≤ 262 → wHc q i k = false := fun i k x y => wHc_no hq (by omega)
    refine ⟨(h1.fr fc (wHc_no hq (by omega)) (wHc_no hq (by omega)) (fun _ => wHc_no hq (by omega)) (fun _ => wHc_no hq (by omega)) (wHc_no hq (by omega)) (wHc_no hq (by omega))).fr fm rfl rfl (fun _ => rfl) (fun _ => rfl) rfl rfl, (h2.fr fc p2 (wHc_no hq (by omega)) p3).fr fm (fun i k x y => wHm_no (by omega)) rfl (fun i k x y => wHm_no (by omega)), (h3.fr fc (fun i k x y => wHc_no hq (by omega)) (fun k => wHc_no hq (by omega))).fr fm (fun i k x y => wHm_no (by omega)) (fun _ => rfl), (h4.fr fc (fun i k x y => wHc_no hq (by omega)) (fun k => wHc_no hq (by omega)) (fun k => wHc_no hq (by omega)) (wHc_no hq (by omega))).fr fm (fun i k x y => wHm_no (by omega)) (fun _ => rfl) (fun _ => rfl) rfl, (h5.fr fc (fun i k x y => wHc_no hq (by omega)) (fun i k x y => wHc_no hq (by omega)) (wHc_no hq (by omega))).fr fm (fun i k x y => wHm_no (by omega)) (fun i k x y => wHm_no (by omega)) rfl, fun j hj => ?_⟩
    have g := h6 j hj
    show (s2.1 26 j = s2.1 275 j ∧ (s2.1 275 j = 0 ∨ s2.1 275 j = 1)) ∧ (s2.1 275 j = 1 → AR (64 + 4 * j) d.1.1.1 (if j = q then ρ else G j) s2 ∧ (∀ i, i < 29 → s2.1 276 (29 * j + i) = (if j = q then ρ else G j) i) ∧ RW d _ (if j = q then ρ else G j))
    by_cases cj : j = q
    · subst cj
      rw [if_pos rfl, fm.1 26 j rfl, b1]
      exact ⟨⟨h26, Or.inr rfl⟩, fun _ => ⟨A.fr fm (fun i k x y => wHm_no (by omega)), b2, h3.2.2⟩⟩
    · rw [if_neg cj, fm.1 26 j rfl, b3 j cj, fc.1 275 j (wHc_no hq (by omega)), fc.1 26 j (by unfold wHc; rw [wAi_no (by omega), Bool.false_or, Bool.and_eq_false_iff, beq_eq_false_iff_ne, beq_eq_false_iff_ne]; omega)]
      refine ⟨g.1, fun e => ⟨((g.2 e).1.fr fc (fun i k x y => ?_)).fr fm (fun i k x y => wHm_no (by omega)), fun i hi => ?_, (g.2 e).2.2⟩⟩
      · unfold wHc
        rw [wAi_no (by omega), Bool.false_or, Bool.and_eq_false_iff, beq_eq_false_iff_ne]; omega
      · rw [b4 _ (by omega), fc.1 276 _ (wHc_no hq (by omega))]; exact (g.2 e).2.1 i hi
  · refine h.no (r := 0) ?_ ?_
    · unfold f_X11_hold
      by_cases c1 : x.toInt < 0
      · rw [if_pos c1]
      · rw [if_neg c1, if_neg (show ¬ x.toInt < 3 by omega)]
    · unfold f_X12_hold
      rw [ein, if_neg c]
      rfl)
def wTlC (a k : Nat) : Bool := (a == 14 && k == 2) || a == 15 || a == 16
def wTlM (a k : Nat) : Bool := (a == 236 && k == 60) || a == 272 || a == 273
theorem wTc_no {a k : Nat} (h : a < 14 ∨ 16 < a) : wTlC a k = false := by
  unfold wTlC
  simp only [Bool.or_eq_false_iff, Bool.and_eq_false_iff, beq_eq_false_iff_ne]
  omega
theorem wTm_no {a k : Nat} (h : a ≠ 236) (h2 : a < 272 ∨ 273 < a) : wTlM a k = false := by
  unfold wTlM
  simp only [Bool.or_eq_false_iff, Bool.and_eq_false_iff, beq_eq_false_iff_ne]
  omega
/-- what was told gone on, all else still -/
theorem RELx.told (h : RELx n d t u sd ρ k nx H m tb9 G σ) (fc : frm wTlC wl0 σ s) (fm : frm wTlM wl0 s s2) {tb' : Nat → Nat} (hH : HEA m' tb' s2) : REL (n + 1) s2 := by
  obtain ⟨h1, h2, h3, h4, h5, h6⟩ := h.next
  refine ⟨d, t, u, sd, ρ, k, nx, H, m', tb', G, (h1.fr fc rfl rfl (fun _ => rfl) (fun _ => rfl) rfl rfl).fr fm rfl rfl (fun _ => rfl) (fun _ => rfl) rfl rfl, (h2.fr fc (fun i k x y => wTc_no (by omega)) rfl (fun i k x y => wTc_no (by omega))).fr fm (fun i k x y => wTm_no (by omega) (by omega)) rfl (fun i k x y => wTm_no (by omega) (by omega)), (h3.fr fc (fun i k x y => wTc_no (by omega)) (fun _ => rfl)).fr fm (fun i k x y => wTm_no (by omega) (by omega)) (fun _ => rfl), (h4.fr fc (fun i k x y => wTc_no (by omega)) (fun _ => rfl) (fun _ => rfl) rfl).fr fm (fun i k x y => wTm_no (by omega) (by omega)) (fun _ => rfl) (fun _ => rfl) rfl, hH, (h6.fr fc (fun i k x y => wTc_no (by omega)) (fun i k x y => wTc_no (by omega)) (fun _ => rfl)).fr fm (fun i k x y => wTm_no (by omega) (by omega)) (fun i k x y => wTm_no (by omega) (by omega)) (fun _ => rfl)⟩
theorem sim_forget : SIM n f_X11_forget f_X12_forget := sim_gen (fun d t u sd ρ k nx H m tb G σ h => by
  obtain ⟨a1, a2, a3, a4⟩ := h.2.2.2.2.1
  have e : (hI σ 14 2 0).1 236 60 = nI m := by rw [rI_i (by decide)]; exact a3
  refine ⟨nI m, hI σ 14 2 0, hI (hI σ 14 2 0) 236 60 0, ?_, ?_, h.told (frm.rf.I rfl) (frm.rf.I rfl) (m' := 0) (tb' := tb) ⟨?_, by decide, rI_s, fun i hi => absurd hi (by omega)⟩⟩
  · unfold f_X11_forget
    simp only [Bd]
    rw [a1]
  · unfold f_X12_forget
    simp only [Bd]
    rw [e]
  · rw [rI_i (by decide)]; exact rI_s)
theorem sim_tell (hy : y = 0 ∨ y = 1) : SIM n (f_X11_tell x y) (f_X12_tell x y) := sim_gen (fun d t u sd ρ k nx H m tb G σ h => by
  obtain ⟨a1, a2, a3, a4⟩ := h.2.2.2.2.1
  have ein : ∀ s, f_X12_in x 0 40 s = some (if 0 ≤ x.toInt ∧ x.toInt ≤ 40 then 1 else 0, s) := fun s => e_in
  have hy2 : 0 ≤ y.toInt ∧ y.toInt ≤ 1 := by rcases hy with rfl | rfl <;> decide
  by_cases c : 0 ≤ x.toInt ∧ x.toInt ≤ 40
  · obtain ⟨q, hq, rfl⟩ : ∃ q : Nat, q ≤ 40 ∧ x = nI q := ⟨x.toInt.toNat, by omega, nI_tn c.1 (by omega)⟩
    by_cases cm : m = 20
    · subst cm
      refine h.no (r := -1) ?_ ?_
      · unfold f_X11_tell f_X2_add
        rw [if_neg (by omega), if_neg (by omega), a1, if_neg (by decide)]
        rfl
      · unfold f_X12_tell
        rw [a3, if_pos (show (nI 20).toInt = 20 from rfl)]
    · let s1 : HS := hI (hI (hI σ 15 m (nI q)) 16 m y) 14 2 (nI (m + 1))
      have fc : frm wTlC wl0 σ s1 := ((frm.rf.I rfl).I rfl).I rfl
      let s3 : HS := hI (hI (hI s1 272 m (nI q)) 273 m y) 236 60 (nI (m + 1))
      have fm : frm wTlM wl0 s1 s3 := ((frm.rf.I rfl).I rfl).I rfl
      have e3 : s1.1 236 60 = nI m := by rw [fc.1 236 60 rfl]; exact a3
      refine ⟨nI m, s1, s3, ?_, ?_, h.told fc fm (m' := m + 1) (tb' := fun i => if i = m then q else tb i) ⟨?_, by omega, rI_s, fun i hi => ?_⟩⟩
      · unfold f_X11_tell f_X2_add
        rw [if_neg (by omega), if_neg (by omega), a1, nIt (n := m) (by omega), if_pos (show (m : Int) < 20 by omega), if_pos (show 0 ≤ (m : Int) ∧ (m : Int) < 20 by omega), Int.toNat_natCast]
        simp only [Bd, Cl]
        rw [if_pos hy2, rI_i (show (14 : Nat) ≠ 15 by decide), a1, nIt (n := m) (by omega), if_pos (show 0 ≤ (m : Int) ∧ (m : Int) < 20 by omega), Int.toNat_natCast, rI_i (show (14 : Nat) ≠ 16 by decide), rI_i (show (14 : Nat) ≠ 15 by decide), a1, rI_s, nI_1, nI_mm (by omega)]
      · unfold f_X12_tell
        rw [e3, nIt (n := m) (by omega), if_neg (show ¬ (m : Int) = 20 by omega), ein, if_pos c]
        simp only [Bd, Cl]
        rw [if_neg (show ¬ (1 : Int32).toInt = 0 by decide), e3, nIt (n := m) (by omega), if_pos (show 0 ≤ (m : Int) ∧ (m : Int) < 20 by omega), Int.toNat_natCast, if_pos hy2, rI_i (show (236 : Nat) ≠ 272 by decide), e3, nIt (n := m) (by omega), if_pos (show 0 ≤ (m : Int) ∧ (m : Int) < 20 by omega), Int.toNat_natCast, rI_i (show (236 : Nat) ≠ 273 by decide), rI_i (show (236 : Nat) ≠ 272 by decide), e3, rI_s, nI_1, nI_mm (by omega)]
      · rw [fm.1 14 2 rfl]; exact rI_s
      · have e15 : s3.1 15 i = if i = m then nI q else σ.1 15 i := by
          rw [fm.1 15 i rfl]
          show (hI (hI (hI σ 15 m (nI q)) 16 m y) 14 2 (nI (m + 1))).1 15 i = _
          rw [rI_i (by decide), rI_i (by decide)]
          by_cases ci : i = m
          · rw [ci, rI_s, if_pos rfl]
          · rw [rI_k ci, if_neg ci]
        have e16 : s3.1 16 i = if i = m then y else σ.1 16 i := by
          rw [fm.1 16 i rfl]
          show (hI (hI (hI σ 15 m (nI q)) 16 m y) 14 2 (nI (m + 1))).1 16 i = _
          rw [rI_i (by decide)]
          by_cases ci : i = m
          · rw [ci, rI_s, if_pos rfl]
          · rw [rI_k ci, rI_i (by decide), if_neg ci]
        have e272 : s3.1 272 i = if i = m then nI q else σ.1 272 i := by
          show (hI (hI (hI s1 272 m (nI q)) 273 m y) 236 60 (nI (m + 1))).1 272 i = _
          rw [rI_i (by decide), rI_i (by decide)]
          by_cases ci : i = m
          · rw [ci, rI_s, if_pos rfl]
          · rw [rI_k ci, if_neg ci, fc.1 272 i rfl]
        have e273 : s3.1 273 i = if i = m then y else σ.1 273 i := by
          show (hI (hI (hI s1 272 m (nI q)) 273 m y) 236 60 (nI (m + 1))).1 273 i = _
          rw [rI_i (by decide)]
          by_cases ci : i = m
          · rw [ci, rI_s, if_pos rfl]
          · rw [rI_k ci, rI_i (by decide), if_neg ci, fc.1 273 i rfl]
        show s3.1 15 i = nI (if i = m then q else tb i) ∧ (if i = m then q else tb i) ≤ 40 ∧ s3.1 272 i = nI (if i = m then q else tb i) ∧ s3.1 16 i = s3.1 273 i ∧ (s3.1 273 i = 0 ∨ s3.1 273 i = 1)
        rw [e15, e16, e272, e273]
        by_cases ci : i = m
        · simp only [if_pos ci]
          exact ⟨trivial, hq, trivial, trivial, hy⟩
        · simp only [if_neg ci]
          exact a4 i (by omega)
  · refine ⟨-1, σ, σ, ?_, ?_, h.same⟩
    · unfold f_X11_tell
      by_cases c1 : x.toInt < 0
      · rw [if_pos c1]
      · rw [if_neg c1, if_pos (show 40 < x.toInt by omega)]
    · unfold f_X12_tell
      by_cases c1 : (σ.1 236 60).toInt = 20
      · rw [if_pos c1]
      · rw [if_neg c1, ein, if_neg c]
        rfl)
theorem a255 (z : Int32) : 0 ≤ (z &&& 255).toInt ∧ (z &&& 255).toInt ≤ 255 := by
  have h : (z &&& 255).toBitVec.toNat ≤ 255 := by rw [Int32.toBitVec_and, BitVec.toNat_and]; exact Nat.and_le_right
  have e : (z &&& 255).toInt = (z &&& 255).toBitVec.toInt := rfl
  rw [e, BitVec.toInt_eq_toNat_of_lt (by omega)]
  omega
def P255 (σ : HS) : Prop := ∀ k, 0 ≤ (σ.1 3 k).toInt ∧ (σ.1 3 k).toInt ≤ 255
theorem P255.bb (h : P255 σ) {j : Nat} {a c : Int32} : P255 (hI σ 3 j (gC1 a c)) := fun i => by
  by_cases e : i = j
  · rw [e, rI_s]; exact a255 _
  · rw [rI_k e]; exact h i
theorem P255.o (h : P255 σ) {j : Nat} {v : Int32} : P255 (hI σ 2 j v) := fun i => by rw [rI_i (by decide)]; exact h i
theorem P255.p4 (h : P255 σ) : P255 (put4 gC1 3 2 1 m x σ) := (((((((h.bb).o).bb).o).bb).o).bb).o
theorem P255.p20 (h : P255 σ) : P255 (put20 gC1 3 2 1 m x1 x2 x3 x4 x5 σ) := ((((h.p4).p4).p4).p4).p4
theorem BYT.cc (h : BYT σ) (hp : P255 σ) : CC σ := by
  obtain ⟨m, hm, h1, -, -⟩ := h
  exact ⟨by rw [h1, nIt (by omega)]; omega, hp⟩
theorem RELx.fed (h : RELx n d t u sd ρ k nx H m tb9 G σ) (fc : frm wFdC wl0 σ s) (fm : frm wFdM wl0 s s2) (hB : BYT s2) (hp : P255 s) : REL (n + 1) s2 := by
  obtain ⟨⟨-, -, k1, k2⟩, h2, h3, h4, h5, h6⟩ := h.next
  have wc : ∀ {a k}, 3 < a → wFdC a k = false := fun {a k} h => by
    unfold wFdC
    simp only [Bool.or_eq_false_iff, Bool.and_eq_false_iff, beq_eq_false_iff_ne]
    omega
  have wm : ∀ {a k}, a < 236 ∨ 237 < a → wFdM a k = false := fun {a k} h => by
    unfold wFdM
    simp only [Bool.or_eq_false_iff, Bool.and_eq_false_iff, beq_eq_false_iff_ne]
    omega
  refine ⟨d, t, u, sd, ρ, k, nx, H, m, tb9, G, ⟨hB, hB.cc (fun i => by rw [fm.1 3 i rfl]; exact hp i), fun i hi => by rw [fm.2.1 243 rfl, fc.2.1 243 rfl]; exact k1 i hi, by rw [fm.1 1 1 rfl, fm.1 236 17 rfl, fc.1 1 1 rfl, fc.1 236 17 rfl]; exact k2⟩, (h2.fr fc (fun i k x y => wc (by omega)) rfl (fun i k x y => wc (by omega))).fr fm (fun i k x y => wm (by omega)) rfl (fun i k x y => wm (by omega)), (h3.fr fc (fun i k x y => wc (by omega)) (fun _ => rfl)).fr fm (fun i k x y => wm (by omega)) (fun _ => rfl), (h4.fr fc (fun i k x y => wc (by omega)) (fun _ => rfl) (fun _ => rfl) rfl).fr fm (fun i k x y => wm (by omega)) (fun _ => rfl) (fun _ => rfl) rfl, (h5.fr fc (fun i k x y => wc (by omega)) (fun i k x y => wc (by omega)) rfl).fr fm (fun i k x y => wm (by omega)) (fun i k x y => wm (by omega)) rfl, (h6.fr fc (fun i k x y => wc (by omega)) (fun i k x y => wc (by omega)) (fun _ => rfl)).fr fm (fun i k x y => wm (by omega)) (fun i k x y => wm (by omega)) (fun _ => rfl)⟩
theorem sim_feed : SIM n (f_X11_feed x1 x2 x3 x4 x5) (f_X12_feed x1 x2 x3 x4 x5) := sim_gen (fun d t u sd ρ k nx H m tb G σ h => by
  obtain ⟨r, s, s2, e1, e2, b1, f1, f2⟩ := h.1.1.feed (x1 := x1) (x2 := x2) (x3 := x3) (x4 := x4) (x5 := x5)
  have p0 : P255 σ := h.1.2.1.2
  refine ⟨r, s, s2, e1, e2, h.fed f1 f2 b1 ?_⟩
  obtain ⟨m9, hm, q1, -, -⟩ := h.1.1
  have e := e1
  rw [e_feed_c q1 hm] at e
  by_cases c : 2000 < m9 + 20
  · rw [if_pos c] at e
    have : σ = s := congrArg Prod.snd (Option.some.inj e)
    rw [← this]; exact p0
  · rw [if_neg c] at e
    have : _ = s := congrArg Prod.snd (Option.some.inj e)
    rw [← this]; exact p0.p20)
theorem sim_back : SIM n (f_X11_back x) (f_X12_back x) := sim_gen (fun d t u sd ρ k nx H m tb G σ h => by
  obtain ⟨r, s, s2, e1, e2, b1, f1, f2⟩ := h.1.1.back (x := x)
  have p0 : P255 σ := h.1.2.1.2
  refine ⟨r, s, s2, e1, e2, h.fed f1 f2 b1 ?_⟩
  have e := e1
  unfold f_X11_back at e
  by_cases c1 : x.toInt < 0
  · rw [if_pos c1] at e
    have : σ = s := congrArg Prod.snd (Option.some.inj e)
    rw [← this]; exact p0
  · rw [if_neg c1] at e
    by_cases c2 : (σ.1 2 1).toInt < x.toInt
    · rw [if_pos c2] at e
      have : σ = s := congrArg Prod.snd (Option.some.inj e)
      rw [← this]; exact p0
    · rw [if_neg c2] at e
      simp only [Bd] at e
      have : _ = s := congrArg Prod.snd (Option.some.inj e)
      rw [← this]; exact p0.o)
end GOON4
