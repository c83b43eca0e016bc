/-! order, glitters, watch -/
section ORDG
variable {σ s : HS} {n t u sd k nx m p L T : Nat} {ρ : Nat → Int32} {d : DAT} {b : Int} {H G : Nat → Nat → Int32} {tb9 : Nat → Nat} {x y z : Int32}
def ordP (T : Nat) (ρ : Nat → Int32) (k : Nat) : Bool := decide (k % 7 < T) && lnR ρ ((k / 7 : Nat) : Int) (k % 7)
def ordS (T : Nat) (ρ : Nat → Int32) (i : Nat) : Nat → Nat → Nat → Int32
  | 0, _, _ => -1
  | dd + 1, k, c => if ordP T ρ k = true then (if c = i then nI (k % 7) else ordS T ρ i dd (k + 1) (c + 1)) else ordS T ρ i dd (k + 1) c
theorem ord_skip {i a : Nat} : ∀ {dd j c : Nat}, j + dd = 7 → T ≤ j → ∀ (r : Nat), ordS T ρ i (dd + r) (7 * a + j) c = ordS T ρ i r (7 * a + 7) c := by
  intro dd
  induction dd with
  | zero => intro j c hj _ r; rw [Nat.zero_add, show 7 * a + j = 7 * a + 7 by omega]
  | succ dd ih =>
    intro j c hj hT r
    have hm : (7 * a + j) % 7 = j := by omega
    have hp : ¬ ordP T ρ (7 * a + j) = true := by unfold ordP; rw [hm, decide_eq_false (by omega), Bool.false_and]; decide
    rw [show dd + 1 + r = dd + r + 1 by omega]
    show (if ordP T ρ (7 * a + j) = true then _ else ordS T ρ i (dd + r) (7 * a + j + 1) c) = _
    rw [if_neg hp, show 7 * a + j + 1 = 7 * a + (j + 1) by omega]
    exact ih (by omega) (by omega) r
def ordR (d : DAT) (ρ : Nat → Int32) (x : Int32) : Int32 := if 0 ≤ x.toInt ∧ x.toInt ≤ 6 then ordS d.1.1.1 ρ x.toInt.toNat 70 0 0 else -1
theorem ordR_in {i : Nat} (hi : i < 7) : ordR d ρ (nI i) = ordS d.1.1.1 ρ i 70 0 0 := by
  unfold ordR
  rw [nIt (by omega), Int.toNat_natCast]
  exact if_pos ⟨by omega, by omega⟩
theorem q_order_c (h : RELx n d t u sd ρ k nx H m tb9 G σ) : Ok (f_X11_order x σ) (fun r s => r = ordR d ρ x ∧ frm wQ wl0 σ s) := by
  have hT := h.tc.T7
  have hA := h.ar
  unfold f_X11_order
  by_cases c1 : x.toInt < 0
  · exact Ok.t c1 (Ok.ret ⟨(clo_no (fun h => by omega)).symm, frm.rf⟩)
  by_cases c2 : x.toInt < 7
  · refine Ok.f c1 (Ok.t c2 ?_)
    obtain ⟨i, hi, rfl⟩ : ∃ q, q < 7 ∧ x = nI q := in_T (T := 7) (by omega) (by decide)
    rw [ordR_in hi]
    have inner : ∀ (k16 : Int32 → Int32 → Int32 → HS → Option (Int32 × HS)) (a : Nat), a ≤ 9 → (∀ c, c ≤ 7 * a + 7 → k16 (nI i) (nI c) (nI (a + 1)) σ = some (ordS d.1.1.1 ρ i (70 - (7 * a + 7)) (7 * a + 7) c, σ)) → ∀ (dd j N c : Nat), j + dd = d.1.1.1 → dd < N → c ≤ 7 * a + j → f_X11_order_25 k16 N (nI i) (nI c) (nI a) (nI j) σ = some (ordS d.1.1.1 ρ i (70 - (7 * a + j)) (7 * a + j) c, σ) := by
      intro k16 a ha hk dd
      induction dd with
      | zero =>
        intro j N c hj hN hc
        obtain ⟨N, rfl⟩ : ∃ q, N = q + 1 := ⟨N - 1, by omega⟩
        show b_X11_order_25 k16 (f_X11_order_25 k16 N) (nI i) (nI c) (nI a) (nI j) σ = _
        unfold b_X11_order_25
        rw [hA.1, nIt (n := j) (by omega), nIt (n := d.1.1.1) (by omega), if_neg (show ¬ (j : Int) < d.1.1.1 by omega)]
        simp only [Bd]
        rw [nI_1, hk c (by omega)]
        have := ord_skip (T := d.1.1.1) (ρ := ρ) (i := i) (a := a) (dd := 7 - j) (j := j) (c := c) (by omega) (by omega) (70 - (7 * a + 7))
        rw [show 7 - j + (70 - (7 * a + 7)) = 70 - (7 * a + j) by omega] at this
        rw [this]
      | succ dd ih =>
        intro j N c hj hN hc
        obtain ⟨N, rfl⟩ : ∃ q, N = q + 1 := ⟨N - 1, by omega⟩
        have hm : (7 * a + j) % 7 = j := by omega
        have hd : (7 * a + j) / 7 = a := by omega
        have ep : ordP d.1.1.1 ρ (7 * a + j) = lnR ρ (a : Int) j := by unfold ordP; rw [hm, hd, decide_eq_true (show j < d.1.1.1 by omega), Bool.true_and]
        have eo : ordS d.1.1.1 ρ i (70 - (7 * a + j)) (7 * a + j) c = if lnR ρ (a : Int) j = true then (if c = i then nI j else ordS d.1.1.1 ρ i (70 - (7 * a + (j + 1))) (7 * a + (j + 1)) (c + 1)) else ordS d.1.1.1 ρ i (70 - (7 * a + (j + 1))) (7 * a + (j + 1)) c := by
          rw [show 70 - (7 * a + j) = 70 - (7 * a + (j + 1)) + 1 by omega, ← ep]
          show (if ordP d.1.1.1 ρ (7 * a + j) = true then (if c = i then nI ((7 * a + j) % 7) else _) else _) = _
          rw [hm]; rfl
        show b_X11_order_25 k16 (f_X11_order_25 k16 N) (nI i) (nI c) (nI a) (nI j) σ = _
        unfold b_X11_order_25 f_X11_order_74
        rw [hA.1, nIt (n := j) (by omega), nIt (n := d.1.1.1) (by omega), if_pos (show (j : Int) < d.1.1.1 by omega), e_isUp (by omega), hA.up (by omega), eo]
        simp only [Cl, Bd]
        rw [nI_1, nI_1]
        unfold lnR upR
        by_cases cu : (ρ j).toInt = 0
        · rw [decide_eq_true cu, if_pos rfl, if_neg i1_ne, if_pos (show 0 ≤ (j : Int) ∧ (j : Int) < 7 by omega), Int.toNat_natCast]
          have el : σ.1 58 j = ρ (7 + j) := (hA.2.1 j (by omega)).2.1
          rw [el, nIt (n := a) (by omega), Bool.true_and]
          by_cases cl : (ρ (7 + j)).toInt = (a : Int)
          · rw [if_pos cl, decide_eq_true cl, if_pos rfl, nIt (n := c) (by omega), nIt (n := i) (by omega)]
            by_cases ci : c = i
            · rw [if_pos (show (c : Int) = i by omega), if_pos ci]
            · rw [if_neg (show ¬ (c : Int) = i by omega), if_neg ci]
              exact ih (j + 1) N (c + 1) (by omega) (by omega) (by omega)
          · rw [if_neg cl, decide_eq_false cl, if_neg (by decide)]
            exact ih (j + 1) N c (by omega) (by omega) (by omega)
        · rw [decide_eq_false cu, Bool.false_and]
          show (if (0 : Int32).toInt = 0 then f_X11_order_25 k16 N (nI i) (nI c) (nI a) (nI (j + 1)) σ else _) = some (ordS d.1.1.1 ρ i (70 - (7 * a + (j + 1))) (7 * a + (j + 1)) c, σ)
          rw [if_pos i0_eq]
          exact ih (j + 1) N c (by omega) (by omega) (by omega)
    have loop : ∀ (dd a N c : Nat), a + dd = 10 → dd < N → c ≤ 7 * a → f_X11_order_16 N (nI i) (nI c) (nI a) σ = some (ordS d.1.1.1 ρ i (70 - 7 * a) (7 * a) c, σ) := by
      intro dd
      induction dd with
      | zero =>
        intro a N c ha hN hc
        obtain ⟨N, rfl⟩ : ∃ q, N = q + 1 := ⟨N - 1, by omega⟩
        obtain rfl : a = 10 := by omega
        show b_X11_order_16 (f_X11_order_16 N) (nI i) (nI c) (nI 10) σ = _
        unfold b_X11_order_16
        rw [if_pos (by decide)]; rfl
      | succ dd ih =>
        intro a N c ha hN hc
        obtain ⟨N, rfl⟩ : ∃ q, N = q + 1 := ⟨N - 1, by omega⟩
        show b_X11_order_16 (f_X11_order_16 N) (nI i) (nI c) (nI a) σ = _
        unfold b_X11_order_16
        rw [nIt (n := a) (by omega), if_neg (show ¬ (9 : Int) < a by omega)]
        have := inner (f_X11_order_16 N) a (by omega) (fun c hc => by
          have := ih (a + 1) N c (by omega) (by omega) (by omega)
          rw [show 7 * (a + 1) = 7 * a + 7 by omega] at this
          exact this) d.1.1.1 0 5000 c (by omega) (by omega) (by omega)
        rw [nI_0] at this
        exact this
    have := loop 10 0 5000 0 (by omega) (by omega) (by omega)
    rw [nI_0] at this
    exact Ok.of this ⟨rfl, frm.rf⟩
  · exact Ok.f c1 (Ok.f c2 (Ok.ret ⟨(clo_no (fun h => by omega)).symm, frm.rf⟩))
theorem q_order_m (h : RELx n d t u sd ρ k nx H m tb9 G σ) : Ok (f_X12_order x σ) (fun r s => r = ordR d ρ x ∧ frm wQ wl0 σ s) := by
  have hT := h.tc.T7
  have e6 : (6 : Int32).toInt = 6 := rfl
  unfold f_X12_order
  refine Ok.cle e_in ?_
  rw [i0_eq, e6]
  by_cases c : 0 ≤ x.toInt ∧ x.toInt ≤ 6
  · refine Ok.f (fun e => if10.mp e c) (Ok.cv (w_copies h.tm h.nw) (fun s1 h1 => ?_))
    obtain ⟨i, hi, rfl⟩ : ∃ q, q < 7 ∧ x = nI q := in_T (T := 7) (by omega) (by decide)
    rw [ordR_in hi]
    obtain ⟨R1, -, -, f1⟩ := h1
    have F1 := f1.sub cp_wQ
    have hM := (h.fr F1).tm
    have loop : ∀ (dd q N c : Nat), q + dd = 70 → dd < N → c ≤ q → f_X12_order_20 N (nI i) (nI c) (nI q) s1 = some (ordS d.1.1.1 ρ i dd q c, s1) := by
      intro dd
      induction dd with
      | zero =>
        intro q N c hq hN hc
        obtain ⟨N, rfl⟩ : ∃ q, N = q + 1 := ⟨N - 1, by omega⟩
        obtain rfl : q = 70 := by omega
        show b_X12_order_20 (f_X12_order_20 N) (nI i) (nI c) (nI 70) s1 = _
        unfold b_X12_order_20
        rw [if_neg (by decide)]; rfl
      | succ dd ih =>
        intro q N c hq hN hc
        obtain ⟨N, rfl⟩ : ∃ q, N = q + 1 := ⟨N - 1, by omega⟩
        have er : nI q - nI q / (7 : Int32) * (7 : Int32) = nI (q % 7) := pk_rem (a := q) (d := 7) (by omega) (by omega) (by omega)
        have ed : nI q / (7 : Int32) = nI (q / 7) := pk_div (a := q) (d := 7) (by omega) (by omega) (by omega)
        have hm : q % 7 < 7 := Nat.mod_lt _ (by omega)
        have eo : ordS d.1.1.1 ρ i (dd + 1) q c = if ordP d.1.1.1 ρ q = true then (if c = i then nI (q % 7) else ordS d.1.1.1 ρ i dd (q + 1) (c + 1)) else ordS d.1.1.1 ρ i dd (q + 1) c := rfl
        show b_X12_order_20 (f_X12_order_20 N) (nI i) (nI c) (nI q) s1 = _
        unfold b_X12_order_20 f_X12_order_68
        rw [nIt (n := q) (by omega), if_pos (show (q : Int) < 70 by omega), er, ed, e_isThing hM.lv, eo]
        simp only [Cl, Bd]
        rw [nI_1, nI_1, nIt (n := q % 7) (by omega)]
        unfold ordP
        by_cases ct : q % 7 < d.1.1.1
        · rw [if_neg (fun e => if10.mp e (show 0 ≤ ((q % 7 : Nat) : Int) ∧ ((q % 7 : Nat) : Int) < d.1.1.1 by omega)), e_doesLand hm, R1.ln hm, nIt (n := q / 7) (by omega), decide_eq_true ct, Bool.true_and]
          simp only
          by_cases cl : lnR ρ ((q / 7 : Nat) : Int) (q % 7) = true
          · rw [if_pos cl, if_pos cl, if_neg i1_ne, nIt (n := c) (by omega), nIt (n := i) (by omega)]
            by_cases ci : c = i
            · rw [if_pos (show (c : Int) = i by omega), if_pos ci]
            · rw [if_neg (show ¬ (c : Int) = i by omega), if_neg ci]
              exact ih (q + 1) N (c + 1) (by omega) (by omega) (by omega)
          · rw [if_neg cl, if_neg cl, if_pos i0_eq]
            exact ih (q + 1) N c (by omega) (by omega) (by omega)
        · rw [if_pos (if10.mpr (show ¬ (0 ≤ ((q % 7 : Nat) : Int) ∧ ((q % 7 : Nat) : Int) < d.1.1.1) by omega)), decide_eq_false ct, Bool.false_and, if_neg (show ¬ (false : Bool) = true by decide)]
          exact ih (q + 1) N c (by omega) (by omega) (by omega)
    have := loop 70 0 5000 0 (by omega) (by omega) (by omega)
    rw [nI_0] at this
    exact Ok.of this ⟨rfl, F1⟩
  · exact Ok.t (if10.mpr c) (Ok.ret ⟨(clo_no c).symm, frm.rf⟩)
theorem sim_order : SIM n (f_X11_order x) (f_X12_order x) := sim_q (fun d t u sd ρ k nx H m tb G σ h => ⟨_, q_order_c h, fun s hs _ => q_order_m hs⟩)
end ORDG
