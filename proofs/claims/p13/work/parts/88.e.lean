/-! order, glitters, watch -/
section ORDG
variable {σ s : HS} {n t u sd k nx m p L T : Nat} {ρ : Nat → Int32} {d : DAT} {b : Int} {H G : Nat → Nat → Int32} {tb9 : Nat → Nat} {x y z : Int32}
def ordP (T : Nat) (ρ : Nat → Int32) (k : Nat) : Bool := decide (k % 7 < T) && lnR ρ ((k / 7 : Nat) : Int) (k % 7)
def ordS (T : Nat) (ρ : Nat → Int32) (i : Nat) : Nat → Nat → Nat → Int32
  | 0, _, _ => -1
  | dd + 1, k, c => if ordP T ρ k = true then (if c = i then nI (k % 7) else ordS T ρ i dd (k + 1) (c + 1)) else ordS T ρ i dd (k + 1) c
theorem ord_skip {i a : Nat} : ∀ {dd j c : Nat}, j + dd = 7 → T ≤ j → ∀ (r : Nat), ordS T ρ i (dd + r) (7 * a + j) c = ordS T ρ i r (7 * a + 7) c := by
  intro dd
  induction dd with
  | zero => intro j c hj _ r; rw [Nat.zero_add, show 7 * a + j = 7 * a + 7 by omega]
  | succ dd ih =>
    intro j c hj hT r
    have hm : (7 * a + j) % 7 = j := by omega
    have hp : ¬ ordP T ρ (7 * a + j) = true := by unfold ordP; rw [hm, decide_eq_false (by omega), Bool.false_and]; decide
    rw [show dd + 1 + r = dd + r + 1 by omega]
    show (if ordP T ρ (7 * a + j) = true then _ else ordS T ρ i (dd + r) (7 * a + j + 1) c) = _
    rw [if_neg hp, show 7 * a + j + 1 = 7 * a + (j + 1) by omega]
    exact ih (by omega) (by omega) r
def ordR (d : DAT) (ρ : Nat → Int32) (x : Int32) : Int32 := if 0 ≤ x.toInt ∧ x.toInt ≤ 6 then ordS d.1.1.1 ρ x.toInt.toNat 70 0 0 else -1
theorem ordR_in {i : Nat} (hi : i < 7) : ordR d ρ (nI i) = ordS d.1.1.1 ρ i 70 0 0 := by
  unfold ordR
  rw [nIt (by omega), Int.toNat_natCast]
  exact if_pos ⟨by omega, by omega⟩
theorem q_order_c (h : RELx n d t u sd ρ k nx H m tb9 G σ) : Ok (f_X11_order x σ) (fun r s => r = ordR d ρ x ∧ frm wQ wl0 σ s) := by
  have hT := h.tc.T7
  have hA := h.ar
  unfold f_X11_order
  by_cases c1 : x.toInt < 0
  · exact Ok.t c1 (Ok.ret ⟨(clo_no (fun h => by omega)).symm, frm.rf⟩)
  by_cases c2 : x.toInt < 7
  · refine Ok.f c1 (Ok.t c2 ?_)
    obtain ⟨i, hi, rfl⟩ : ∃ q, q < 7 ∧ x = nI q := in_T (T := 7) (by omega) (by decide)
    rw [ordR_in hi]
    have inner : ∀ (k16 : Int32 → Int32 → Int32 → HS → Option (Int32 × HS)) (a : Nat), a ≤ 9 → (∀ c, c ≤ 7 * a + 7 → k16 (nI i) (nI c) (nI (a + 1)) σ = some (ordS d.1.1.1 ρ i (70 - (7 * a + 7)) (7 * a + 7) c, σ)) → ∀ (dd j N c : Nat), j + dd = d.1.1.1 → dd < N → c ≤ 7 * a + j → f_X11_order_25 k16 N (nI i) (nI c) (nI a) (nI j) σ = some (ordS d.1.1.1 ρ i (70 - (7 * a + j)) (7 * a + j) c, σ) := by
      intro k16 a ha hk dd
      induction dd with
      | zero =>
        intro j N c hj hN hc
        obtain ⟨N, rfl⟩ : ∃ q, N = q + 1 := ⟨N - 1, by omega⟩
        show b_X11_order_25 k16 (f_X11_order_25 k16 N) (nI i) (nI c) (nI a) (nI j) σ = _
        unfold b_X11_order_25
        rw [hA.1, nIt (n := j) (by omega), nIt (n := d.1.1.1) (by omega), if_neg (show ¬ (j : Int) < d.1.1.1 by omega)]
        simp only [Bd]
        rw [nI_1, hk c (by omega)]
        have := ord_skip (T := d.1.1.1) (ρ := ρ) (i := i) (a := a) (dd := 7 - j) (j := j) (c := c) (by omega) (by omega) (70 - (7 * a + 7))
        rw [show 7 - j + (70 - (7 * a + 7)) = 70 - (7 * a + j) by omega] at this
        rw [this]
      | succ dd ih =>
        intro j N c hj hN hc
        obtain ⟨N, rfl⟩ : ∃ q, N = q + 1 := ⟨N - 1, by omega⟩
        have hm : (7 * a + j) % 7 = j := by omega
        have hd : (7 * a + j) / 7 = a := by omega
        have ep : ordP d.1.1.1 ρ (7 * a + j) = lnR ρ (a : Int) j := by unfold ordP; rw [hm, hd, decide_eq_true (show j < d.1.1.1 by omega), Bool.true_and]
        have eo : ordS d.1.1.1 ρ i (70 - (7 * a + j)) (7 * a + j) c = if lnR ρ (a : Int) j = true then (if c = i then nI j else ordS d.1.1.1 ρ i (70 - (7 * a + (j + 1))) (7 * a + (j + 1)) (c + 1)) else ordS d.1.1.1 ρ i (70 - (7 * a + (j + 1))) (7 * a + (j + 1)) c := by
          rw [show 70 - (7 * a + j) = 70 - (7 * a + (j + 1)) + 1 by omega, ← ep]
          show (if ordP d.1.1.1 ρ (7 * a + j) = true then (if c = i then nI ((7 * a + j) % 7) else _) else _) = _
          rw [hm]; rfl
        show b_X11_order_25 k16 (f_X11_order_25 k16 N) (nI i) (nI c) (nI a) (nI j) σ = _
        unfold b_X11_order_25 f_X11_order_74
        rw [hA.1, nIt (n := j) (by omega), nIt (n := d.1.1.1) (by omega), if_pos (show (j : Int) < d.1.1.1 by omega), e_isUp (by omega), hA.up (by omega), eo]
        simp only [Cl, Bd]
        rw [nI_1, nI_1]
        unfold lnR upR
        by_cases cu : (ρ j).toInt = 0
        · rw [decide_eq_true cu, if_pos rfl, if_neg i1_ne, if_pos (show 0 ≤ (j : Int) ∧ (j : Int) < 7 by omega), Int.toNat_natCast]
          have el : σ.1 58 j = ρ (7 + j) := (hA.2.1 j (by omega)).2.1
          rw [el, nIt (n := a) (by omega), Bool.true_and]
          by_cases cl : (ρ (7 + j)).toInt = (a : Int)
          · rw [if_pos cl, decide_eq_true cl, if_pos rfl, nIt (n := c) (by omega), nIt (n := i) (by omega)]
            by_cases ci : c = i
            · rw [if_pos (show (c : Int) = i by omega), if_pos ci]
            · rw [if_neg (show ¬ (c : Int) = i by omega), if_neg ci]
              exact ih (j + 1) N (c + 1) (by omega) (by omega) (by omega)
          · rw [if_neg cl, decide_eq_false cl, if_neg (by decide)]
            exact ih (j + 1) N c (by omega) (by omega) (by omega)
        · rw [decide_eq_false cu, Bool.false_and]
          show (if (0 : Int32).toInt = 0 then f_X11_order_25 k16 N (nI i) (nI c) (nI a) (nI (j + 1)) σ else _) = some (ordS d.1.1.1 ρ i (70 - (7 * a + (j + 1))) (7 * a + (j + 1)) c, σ)
          rw [if_pos i0_eq]
          exact ih (j + 1) N c (by omega) (by omega) (by omega)
    have loop : ∀ (dd a N c : Nat), a + dd = 10 → dd < N → c ≤ 7 * a → f_X11_order_16 N (nI i) (nI c) (nI a) σ = some (ordS d.1.1.1 ρ i (70 - 7 * a) (7 * a) c, σ) := by
      intro dd
      induction dd with
      | zero =>
        intro a N c ha hN hc
        obtain ⟨N, rfl⟩ : ∃ q, N = q + 1 := ⟨N - 1, by omega⟩
        obtain rfl : a = 10 := by omega
        show b_X11_order_16 (f_X11_order_16 N) (nI i) (nI c) (nI 10) σ = _
        unfold b_X11_order_16
        rw [if_pos (by decide)]; rfl
      | succ dd ih =>
        intro a N c ha hN hc
        obtain ⟨N, rfl⟩ : ∃ q, N = q + 1 := ⟨N - 1, by omega⟩
        show b_X11_order_16 (f_X11_order_16 N) (nI i) (nI c) (nI a) σ = _
        unfold b_X11_order_16
        rw [nIt (n := a) (by omega), if_neg (show ¬ (9 : Int) < a by omega)]
        have := inner (f_X11_order_16 N) a (by omega) (fun c hc => by
          have := ih (a + 1) N c (by omega) (by omega) (by omega)
          rw [show 7 * (a + 1) = 7 * a + 7 by omega] at this
          exact this) d.1.1.1 0 5000 c (by omega) (by omega) (by omega)
        rw [nI_0] at this
        exact this
    have := loop 10 0 5000 0 (by omega) (by omega) (by omega)
    rw [nI_0] at this
    exact Ok.of this ⟨rfl, frm.rf⟩
  · exact Ok.f c1 (Ok.f c2 (Ok.ret ⟨(clo_no (fun h => by omega)).symm, frm.rf⟩))
theorem q_order_m (h : RELx n d t u sd ρ k nx H m tb9 G σ) : Ok (f_X12_order x σ) (fun r s => r = ordR d ρ x ∧ frm wQ wl0 σ s) := by
  have hT := h.tc.T7
  have e6 : (6 : Int32).toInt = 6 := rfl
  unfold f_X12_order
  refine Ok.cle e_in ?_
  rw [i0_eq, e6]
  by_cases c : 0 ≤ x.toInt ∧ x.toInt ≤ 6
  · refine Ok.f (fun e => if10.mp e c) (Ok.cv (w_copies h.tm h.nw) (fun s1 h1 => ?_))
    obtain ⟨i, hi, rfl⟩ : ∃ q, q < 7 ∧ x = nI q := in_T (T := 7) (by omega) (by decide)
    rw [ordR_in hi]
    obtain ⟨R1, -, -, f1⟩ := h1
    have F1 := f1.sub cp_wQ
    have hM := (h.fr F1).tm
    have loop : ∀ (dd q N c : Nat), q + dd = 70 → dd < N → c ≤ q → f_X12_order_20 N (nI i) (nI c) (nI q) s1 = some (ordS d.1.1.1 ρ i dd q c, s1) := by
      intro dd
      induction dd with
      | zero =>
        intro q N c hq hN hc
        obtain ⟨N, rfl⟩ : ∃ q, N = q + 1 := ⟨N - 1, by omega⟩
        obtain rfl : q = 70 := by omega
        show b_X12_order_20 (f_X12_order_20 N) (nI i) (nI c) (nI 70) s1 = _
        unfold b_X12_order_20
        rw [if_neg (by decide)]; rfl
      | succ dd ih =>
        intro q N c hq hN hc
        obtain ⟨N, rfl⟩ : ∃ q, N = q + 1 := ⟨N - 1, by omega⟩
        have er : nI q - nI q / (7 : Int32) * (7 : Int32) = nI (q % 7) := pk_rem (a := q) (d := 7) (by omega) (by omega) (by omega)
        have ed : nI q / (7 : Int32) = nI (q / 7) := pk_div (a := q) (d := 7) (by omega) (by omega) (by omega)
        have hm : q % 7 < 7 := Nat.mod_lt _ (by omega)
        have eo : ordS d.1.1.1 ρ i (dd + 1) q c = if ordP d.1.1.1 ρ q = true then (if c = i then nI (q % 7) else ordS d.1.1.1 ρ i dd (q + 1) (c + 1)) else ordS d.1.1.1 ρ i dd (q + 1) c := rfl
        show b_X12_order_20 (f_X12_order_20 N) (nI i) (nI c) (nI q) s1 = _
        unfold b_X12_order_20 f_X12_order_68
        rw [nIt (n := q) (by omega), if_pos (show (q : Int) < 70 by omega), er, ed, e_isThing hM.lv, eo]
        simp only [Cl, Bd]
        rw [nI_1, nI_1, nIt (n := q % 7) (by omega)]
        unfold ordP
        by_cases ct : q % 7 < d.1.1.1
        · rw [if_neg (fun e => if10.mp e (show 0 ≤ ((q % 7 : Nat) : Int) ∧ ((q % 7 : Nat) : Int) < d.1.1.1 by omega)), e_doesLand hm, R1.ln hm, nIt (n := q / 7) (by omega), decide_eq_true ct, Bool.true_and]
          simp only
          by_cases cl : lnR ρ ((q / 7 : Nat) : Int) (q % 7) = true
          · rw [if_pos cl, if_pos cl, if_neg i1_ne, nIt (n := c) (by omega), nIt (n := i) (by omega)]
            by_cases ci : c = i
            · rw [if_pos (show (c : Int) = i by omega), if_pos ci]
            · rw [if_neg (show ¬ (c : Int) = i by omega), if_neg ci]
              exact ih (q + 1) N (c + 1) (by omega) (by omega) (by omega)
          · rw [if_neg cl, if_neg cl, if_pos i0_eq]
            exact ih (q + 1) N c (by omega) (by omega) (by omega)
        · rw [if_pos (if10.mpr (show ¬ (0 ≤ ((q % 7 : Nat) : Int) ∧ ((q % 7 : Nat) : Int) < d.1.1.1) by omega)), decide_eq_false ct, Bool.false_and, if_neg (show ¬ (false : Bool) = true by decide)]
          exact ih (q + 1) N c (by omega) (by omega) (by omega)
    have := loop 70 0 5000 0 (by omega) (by omega) (by omega)
    rw [nI_0] at this
    exact Ok.of this ⟨rfl, F1⟩
  · exact Ok.t (if10.mpr c) (Ok.ret ⟨(clo_no c).symm, frm.rf⟩)
theorem sim_order : SIM n (f_X11_order x) (f_X12_order x) := sim_q (fun d t u sd ρ k nx H m tb G σ h => ⟨_, q_order_c h, fun s hs _ => q_order_m hs⟩)
end ORDG
/-! what glitters -/
section GLIT
variable {σ s : HS} {n t u sd k nx m p L T : Nat} {ρ : Nat → Int32} {d : DAT} {b : Int} {H G : Nat → Nat → Int32} {tb9 : Nat → Nat} {x y z : Int32}
theorem tb_orW {x : Int32} {a c : Nat} (h : a < 16) (hb : c < 32) : tb (x ||| bitI a) c = (tb x c || decide (c = a)) := by
  unfold tb
  rw [Int32.toBitVec_or, BitVec.getLsbD_or, bv_bit a h c hb]
theorem tb_bsW {q : Nat → Bool} {a : Nat} (ha : a < 32) : ∀ {n : Nat}, n ≤ 16 → tb (bset q n) a = (decide (a < n) && q a) := by
  intro n
  induction n with
  | zero => intro _; rw [decide_eq_false (by omega), Bool.false_and]; exact tb_0
  | succ n ih =>
    intro h
    show tb (if q n = true then bset q n ||| bitI n else bset q n) a = _
    by_cases c : q n = true
    · rw [if_pos c, tb_orW (by omega) ha, ih (by omega)]
      by_cases e : a = n
      · subst e; rw [decide_eq_false (show ¬ a < a by omega), decide_eq_true (show a < a + 1 by omega), c]; simp
      · by_cases e2 : a < n
        · rw [decide_eq_true e2, decide_eq_true (show a < n + 1 by omega), decide_eq_false e]; simp
        · rw [decide_eq_false e2, decide_eq_false (show ¬ a < n + 1 by omega), decide_eq_false e]; simp
    · rw [if_neg c, ih (by omega)]
      by_cases e : a = n
      · subst e; rw [decide_eq_false (show ¬ a < a by omega), decide_eq_true (show a < a + 1 by omega), Bool.eq_false_iff.mpr c]; simp
      · by_cases e2 : a < n
        · rw [decide_eq_true e2, decide_eq_true (show a < n + 1 by omega)]
        · rw [decide_eq_false e2, decide_eq_false (show ¬ a < n + 1 by omega)]
theorem tb_ext {x y : Int32} (h : ∀ a, a < 32 → tb x a = tb y a) : x = y := Int32.toBitVec_inj.mp (BitVec.eq_of_getLsbD_eq (fun i hi => h i hi))
theorem tb_an {x y : Int32} {a : Nat} : tb (x &&& y) a = (tb x a && tb y a) := by
  unfold tb
  rw [Int32.toBitVec_and, BitVec.getLsbD_and]
theorem bv_m1 : ∀ i, i < 32 → (Int32.toBitVec (-1)).getLsbD i = true := by decide +kernel
theorem tb_nt {x : Int32} {a : Nat} (h : a < 32) : tb (x ^^^ (-1)) a = !tb x a := by
  unfold tb
  rw [Int32.toBitVec_xor, BitVec.getLsbD_xor, bv_m1 a h]
  cases x.toBitVec.getLsbD a <;> rfl
theorem tb_bt {a c : Nat} (h : a < 16) (hb : c < 32) : tb (bitI a) c = decide (c = a) := bv_bit a h c hb
theorem bs_and {q : Nat → Bool} {f : Nat} (hf : f < 16) {n : Nat} (hn : n ≤ 16) : bset q n &&& bitI f = bset (fun e => q e && decide (e = f)) n := tb_ext (fun a ha => by
  rw [tb_an, tb_bsW ha hn, tb_bt hf ha, tb_bsW ha hn, Bool.and_assoc])
theorem bs_ann {q : Nat → Bool} {f : Nat} (hf : f < 16) {n : Nat} (hn : n ≤ 16) : bset q n &&& (bitI f ^^^ (-1)) = bset (fun e => q e && !decide (e = f)) n := tb_ext (fun a ha => by
  rw [tb_an, tb_bsW ha hn, tb_nt ha, tb_bt hf ha, tb_bsW ha hn, Bool.and_assoc])
theorem bs_an0 {q : Nat → Bool} {n : Nat} (hn : n ≤ 16) : bset q n &&& 0 = bset (fun _ => false) n := tb_ext (fun a ha => by
  rw [tb_an, tb_0, Bool.and_false, tb_bsW ha hn, Bool.and_false])
theorem bs_ann0 {q : Nat → Bool} {n : Nat} : bset q n &&& ((0 : Int32) ^^^ (-1)) = bset q n := tb_ext (fun a ha => by
  rw [tb_an, tb_nt ha, tb_0, Bool.not_false, Bool.and_true])
theorem bs_T {q : Nat → Bool} (hT : T ≤ 7) : bset q T = bset (fun e => decide (e < T) && q e) 7 := tb_ext (fun a ha => by
  rw [tb_bsW ha (by omega), tb_bsW ha (by omega)]
  by_cases c : a < T
  · rw [decide_eq_true c, decide_eq_true (show a < 7 by omega)]; simp
  · rw [decide_eq_false c]; simp)
/-- what is left of them, as known by k -/
def gliP (d : DAT) (ρ : Nat → Int32) (tb9 : Nat → Nat) (hd : Nat → Bool) : Nat → Nat → Bool
  | 0, e => decide (e < d.1.1.1) && upR ρ e
  | k + 1, e => gliP d ρ tb9 hd k e && (decide (firS d.1.1.1 (itS d none (tb9 k) ρ) = e) == hd k)
theorem gli_T {hd : Nat → Bool} {e : Nat} : ∀ {k : Nat}, gliP d ρ tb9 hd k e = true → e < d.1.1.1 := by
  intro k
  induction k with
  | zero =>
    intro h
    have h1 : (decide (e < d.1.1.1) && upR ρ e) = true := h
    rw [Bool.and_eq_true, decide_eq_true_eq] at h1
    exact h1.1
  | succ k ih =>
    intro h
    have h1 : (gliP d ρ tb9 hd k e && (decide (firS d.1.1.1 (itS d none (tb9 k) ρ) = e) == hd k)) = true := h
    rw [Bool.and_eq_true] at h1
    exact ih h1.1
def hdS (σ : HS) (i : Nat) : Bool := decide ((σ.1 273 i).toInt = 1)
theorem e_agreeing {K : Nat} (hT : d.1.1.1 ≤ 7) (hH : HEA m tb9 s) (hK : K ≤ m) (h27 : ∀ i, i < 41 → s.1 27 i = hanS d ρ i) : f_X2_agreeing 27 (bset (gliP d ρ tb9 (hdS s) 0) 7) (nI K) s = some (bset (gliP d ρ tb9 (hdS s) K) 7, s) := by
  obtain ⟨a1, a2, a3, a4⟩ := hH
  have loop : ∀ (dd q N : Nat), q + dd = K → dd < N → f_X2_agreeing_6 27 N (nI K) (bset (gliP d ρ tb9 (hdS s) q) 7) (nI q) s = some (bset (gliP d ρ tb9 (hdS s) K) 7, s) := by
    intro dd
    induction dd with
    | zero =>
      intro q N hq hN
      obtain ⟨N, rfl⟩ : ∃ q, N = q + 1 := ⟨N - 1, by omega⟩
      obtain rfl : q = K := by omega
      show b_X2_agreeing_6 27 (f_X2_agreeing_6 27 N) (nI q) _ (nI q) s = _
      unfold b_X2_agreeing_6
      rw [if_neg (Int.lt_irrefl _)]
    | succ dd ih =>
      intro q N hq hN
      obtain ⟨N, rfl⟩ : ∃ q, N = q + 1 := ⟨N - 1, by omega⟩
      obtain ⟨b1, b2, b3, b4, b5⟩ := a4 q (by omega)
      have hc := han_cau (ρ := ρ) (d := d) (i := tb9 q) hT
      have e61 : (Int32.ofNat (al 27)).toInt = 61 := rfl
      have e61' : (al 27 : Int) = 61 := rfl
      have ih1 := ih (q + 1) N (by omega) (by omega)
      have eg : ∀ e, gliP d ρ tb9 (hdS s) (q + 1) e = (gliP d ρ tb9 (hdS s) q e && (decide (firS d.1.1.1 (itS d none (tb9 q) ρ) = e) == hdS s q)) := fun e => rfl
      show b_X2_agreeing_6 27 (f_X2_agreeing_6 27 N) (nI K) _ (nI q) s = _
      unfold b_X2_agreeing_6
      rw [a1, nIt (n := q) (by omega), nIt (n := K) (by omega), nIt (n := m) (by omega), if_pos (show (q : Int) < K by omega), if_pos (show (q : Int) < m by omega), if_pos (show 0 ≤ (q : Int) ∧ (q : Int) < 20 by omega), Int.toNat_natCast, b1, e61, e61', nIt (n := tb9 q) (by omega), if_pos (show (tb9 q : Int) < 61 by omega), if_pos (show 0 ≤ (q : Int) ∧ (q : Int) < 20 by omega), if_pos (show 0 ≤ (tb9 q : Int) ∧ (tb9 q : Int) < 61 by omega), Int.toNat_natCast, h27 _ (by omega)]
      -- the last step, some bits given
      have fin : ∀ (v : Int32), (∀ q', (bset q' 7 &&& v) = bset (fun e => q' e && decide (firS d.1.1.1 (itS d none (tb9 q) ρ) = e ∧ e < d.1.1.1)) 7) → (∀ q', (bset q' 7 &&& (v ^^^ (-1))) = bset (fun e => q' e && !decide (firS d.1.1.1 (itS d none (tb9 q) ρ) = e ∧ e < d.1.1.1)) 7) → f_X2_agreeing_62 27 (f_X2_agreeing_6 27 N) (nI K) (bset (gliP d ρ tb9 (hdS s) q) 7) (nI q) v s = some (bset (gliP d ρ tb9 (hdS s) K) 7, s) := by
        intro v hv1 hv2
        have same : ∀ e, gliP d ρ tb9 (hdS s) q e = true → decide (firS d.1.1.1 (itS d none (tb9 q) ρ) = e ∧ e < d.1.1.1) = decide (firS d.1.1.1 (itS d none (tb9 q) ρ) = e) := fun e h => by
          have := gli_T h
          by_cases ce : firS d.1.1.1 (itS d none (tb9 q) ρ) = e
          · rw [decide_eq_true ce, decide_eq_true ⟨ce, this⟩]
          · rw [decide_eq_false ce, decide_eq_false (fun h => ce h.1)]
        unfold f_X2_agreeing_62 f_X2_agreeing_85
        rw [nIt (n := q) (by omega), if_pos (show 0 ≤ (q : Int) ∧ (q : Int) < 20 by omega), Int.toNat_natCast, b4]
        simp only [Bd]
        rw [nI_1]
        rcases b5 with b5 | b5
        · have hh : hdS s q = false := by unfold hdS; rw [b5]; rfl
          rw [b5, if_pos i0_eq, hv2]
          rw [← ih1]
          refine congrArg (fun w => f_X2_agreeing_6 27 N (nI K) w (nI (q + 1)) s) (bset_cg (fun e _ => ?_))
          rw [eg, hh]
          cases hg : gliP d ρ tb9 (hdS s) q e with
          | false => rfl
          | true =>
            rw [same e hg]
            cases decide (firS d.1.1.1 (itS d none (tb9 q) ρ) = e) <;> rfl
        · have hh : hdS s q = true := by unfold hdS; rw [b5]; rfl
          rw [b5, if_neg i1_ne, hv1]
          rw [← ih1]
          refine congrArg (fun w => f_X2_agreeing_6 27 N (nI K) w (nI (q + 1)) s) (bset_cg (fun e _ => ?_))
          rw [eg, hh]
          cases hg : gliP d ρ tb9 (hdS s) q e with
          | false => rfl
          | true =>
            rw [same e hg]
            cases decide (firS d.1.1.1 (itS d none (tb9 q) ρ) = e) <;> rfl
      unfold f_X2_agreeing_46
      by_cases cf : firS d.1.1.1 (itS d none (tb9 q) ρ) < d.1.1.1
      · rw [if_neg (fun e => hc.1.mp e cf), hc.2 cf]
        refine fin _ (fun q' => ?_) (fun q' => ?_)
        · show bset q' 7 &&& bitI _ = _
          rw [bs_and (by omega) (by omega)]
          refine bset_cg (fun e _ => ?_)
          by_cases ce : firS d.1.1.1 (itS d none (tb9 q) ρ) = e
          · rw [decide_eq_true ce.symm, decide_eq_true ⟨ce, by omega⟩]
          · rw [decide_eq_false (fun h => ce h.symm), decide_eq_false (fun h => ce h.1)]
        · show bset q' 7 &&& (bitI _ ^^^ (-1)) = _
          rw [bs_ann (by omega) (by omega)]
          refine bset_cg (fun e _ => ?_)
          by_cases ce : firS d.1.1.1 (itS d none (tb9 q) ρ) = e
          · rw [decide_eq_true ce.symm, decide_eq_true ⟨ce, by omega⟩]
          · rw [decide_eq_false (fun h => ce h.symm), decide_eq_false (fun h => ce h.1)]
      · rw [if_pos (hc.1.mpr cf)]
        refine fin _ (fun q' => ?_) (fun q' => ?_)
        · rw [bs_an0 (by omega)]
          exact bset_cg (fun e _ => by rw [decide_eq_false (by omega), Bool.and_false])
        · rw [bs_ann0]
          exact bset_cg (fun e _ => by rw [decide_eq_false (by omega), Bool.not_false, Bool.and_true])
  unfold f_X2_agreeing
  rw [nI0]
  exact loop K 0 5000 (by omega) (by omega)
theorem gli_0 {hd : Nat → Bool} (hT : d.1.1.1 ≤ 7) : bset (upR ρ) d.1.1.1 = bset (gliP d ρ tb9 hd 0) 7 := bs_T hT
/-- the reference's bits left -/
theorem w_glitterBits {K : Nat} (h : RELx n d t u sd ρ k nx H m tb9 G σ) (hn : n ≤ 512) (hK : K ≤ m) : Ok (f_X12_glitterBits (nI K) σ) (fun r s => r = bset (gliP d ρ tb9 (hdS σ) K) 7 ∧ (∀ i, i < 41 → s.1 274 i = cauS d.1.1.1 (itS d none i ρ)) ∧ frm wQ wl0 σ s) := by
  have hT := h.tc.T7
  obtain ⟨a1, a2, a3, a4⟩ := h.2.2.2.2.1
  unfold f_X12_glitterBits
  refine Ok.cv (m_trial h) (fun s1 h1 => Ok.cle (e_thingsSo (h.fr h1.2.2).tm.lv) ?_)
  have e0 : bset (fun e => decide ((s1.1 267 e).toInt = (0 : Int32).toInt)) d.1.1.1 = bset (gliP d ρ tb9 (hdS σ) 0) 7 := by
    rw [← gli_0 hT]
    exact bset_cg (fun e he => by
      have := h1.1.up (e := e) (by omega)
      unfold upR at this
      exact this)
  rw [e0]
  -- what is left, told by told
  have kil : ∀ (s : HS), frm wQ wl0 σ s → (∀ i, i < 41 → s.1 274 i = cauS d.1.1.1 (itS d none i ρ)) → ∀ (dd q N : Nat), q + dd = K → dd < N → f_X12_glitterBits_40 N (nI K) (bset (gliP d ρ tb9 (hdS σ) q) 7) (nI q) s = some (bset (gliP d ρ tb9 (hdS σ) K) 7, s) := by
    intro s hf h274 dd
    induction dd with
    | zero =>
      intro q N hq hN
      obtain ⟨N, rfl⟩ : ∃ q, N = q + 1 := ⟨N - 1, by omega⟩
      obtain rfl : q = K := by omega
      show b_X12_glitterBits_40 (f_X12_glitterBits_40 N) (nI q) _ (nI q) s = _
      unfold b_X12_glitterBits_40
      rw [if_neg (Int.lt_irrefl _)]
    | succ dd ih =>
      intro q N hq hN
      obtain ⟨N, rfl⟩ : ∃ q, N = q + 1 := ⟨N - 1, by omega⟩
      obtain ⟨b1, b2, b3, b4, b5⟩ := a4 q (by omega)
      have e272 : s.1 272 q = nI (tb9 q) := by rw [hf.1 272 q rfl]; exact b3
      have e273 : s.1 273 q = σ.1 273 q := hf.1 273 q rfl
      have inner : ∀ (k40 : Int32 → Int32 → Int32 → HS → Option (Int32 × HS)), ∀ (dd j N : Nat), j + dd = 7 → dd < N → f_X12_glitterBits_48 k40 N (nI K) (bset (fun e => gliP d ρ tb9 (hdS σ) q e && (decide (j ≤ e) || (decide (firS d.1.1.1 (itS d none (tb9 q) ρ) = e ∧ e < d.1.1.1) == hdS σ q))) 7) (nI q) (nI j) s = k40 (nI K) (bset (fun e => gliP d ρ tb9 (hdS σ) q e && (decide (7 ≤ e) || (decide (firS d.1.1.1 (itS d none (tb9 q) ρ) = e ∧ e < d.1.1.1) == hdS σ q))) 7) (nI (q + 1)) s := by
        intro k40 dd
        induction dd with
        | zero =>
          intro j N hj hN
          obtain ⟨N, rfl⟩ : ∃ q, N = q + 1 := ⟨N - 1, by omega⟩
          obtain rfl : j = 7 := by omega
          show b_X12_glitterBits_48 k40 (f_X12_glitterBits_48 k40 N) (nI K) _ (nI q) (nI 7) s = _
          unfold b_X12_glitterBits_48
          rw [if_neg (by decide)]
          simp only [Bd]
          rw [nI_1]
        | succ dd ih =>
          intro j N hj hN
          obtain ⟨N, rfl⟩ : ∃ q, N = q + 1 := ⟨N - 1, by omega⟩
          have ih1 := ih (j + 1) N (by omega) (by omega)
          show b_X12_glitterBits_48 k40 (f_X12_glitterBits_48 k40 N) (nI K) _ (nI q) (nI j) s = _
          unfold b_X12_glitterBits_48
          rw [nIt (n := j) (by omega), nIt (n := q) (by omega), if_pos (show (j : Int) < 7 by omega), if_pos (show 0 ≤ (q : Int) ∧ (q : Int) < 20 by omega), Int.toNat_natCast, e272, nIt (n := tb9 q) (by omega), if_pos (show 0 ≤ (tb9 q : Int) ∧ (tb9 q : Int) < 41 by omega), Int.toNat_natCast, h274 _ (by omega)]
          -- the test's two ways
          have go : ∀ (v : Bool), v = decide (firS d.1.1.1 (itS d none (tb9 q) ρ) = j ∧ j < d.1.1.1) → f_X12_glitterBits_76 k40 (f_X12_glitterBits_48 k40 N) (nI K) (bset (fun e => gliP d ρ tb9 (hdS σ) q e && (decide (j ≤ e) || (decide (firS d.1.1.1 (itS d none (tb9 q) ρ) = e ∧ e < d.1.1.1) == hdS σ q))) 7) (nI q) (nI j) (if v = true then 1 else 0) s = k40 (nI K) (bset (fun e => gliP d ρ tb9 (hdS σ) q e && (decide (7 ≤ e) || (decide (firS d.1.1.1 (itS d none (tb9 q) ρ) = e ∧ e < d.1.1.1) == hdS σ q))) 7) (nI (q + 1)) s := by
            intro v hv
            unfold f_X12_glitterBits_76 f_X12_glitterBits_94
            rw [nIt (n := q) (by omega), if_pos (show 0 ≤ (q : Int) ∧ (q : Int) < 20 by omega), Int.toNat_natCast, e273]
            simp only [Bd]
            rw [nI_1]
            have hh : (if v = true then (1 : Int32) else 0).toInt = (σ.1 273 q).toInt ↔ v = hdS σ q := by
              unfold hdS
              rcases b5 with b5 | b5 <;> rw [b5] <;> cases v <;> decide
            by_cases cv : v = hdS σ q
            · rw [if_pos (hh.mpr cv), ← ih1]
              refine congrArg (fun w => f_X12_glitterBits_48 k40 N (nI K) w (nI q) (nI (j + 1)) s) (bset_cg (fun e _ => ?_))
              by_cases ce : e = j
              · subst ce
                rw [decide_eq_true (Nat.le_refl e), decide_eq_false (show ¬ e + 1 ≤ e by omega), ← hv, cv]
                simp
              · by_cases cl : j ≤ e
                · rw [decide_eq_true cl, decide_eq_true (show j + 1 ≤ e by omega)]
                · rw [decide_eq_false cl, decide_eq_false (show ¬ j + 1 ≤ e by omega)]
            · rw [if_neg (fun e => cv (hh.mp e)), ← ih1]
              refine congrArg (fun w => f_X12_glitterBits_48 k40 N (nI K) w (nI q) (nI (j + 1)) s) ?_
              show bset _ 7 &&& (bitI j ^^^ (-1)) = _
              rw [bs_ann (by omega) (by omega)]
              refine bset_cg (fun e _ => ?_)
              by_cases ce : e = j
              · subst ce
                rw [decide_eq_true (Nat.le_refl e), decide_eq_false (show ¬ e + 1 ≤ e by omega), ← hv, decide_eq_true rfl]
                have e1 : (v == hdS σ q) = false := beq_eq_false_iff_ne.mpr cv
                rw [e1, Bool.not_true, Bool.and_false, Bool.or_false, Bool.and_false]
              · rw [decide_eq_false ce, Bool.not_false, Bool.and_true]
                by_cases cl : j ≤ e
                · rw [decide_eq_true cl, decide_eq_true (show j + 1 ≤ e by omega)]
                · rw [decide_eq_false cl, decide_eq_false (show ¬ j + 1 ≤ e by omega)]
          have hcau : (cauS d.1.1.1 (itS d none (tb9 q) ρ)).toInt = (j : Int) ↔ (firS d.1.1.1 (itS d none (tb9 q) ρ) = j ∧ j < d.1.1.1) := by
            unfold cauS
            by_cases cf : firS d.1.1.1 (itS d none (tb9 q) ρ) < d.1.1.1
            · rw [if_pos cf, nIt (by omega)]; constructor
              · intro e; exact ⟨by omega, by omega⟩
              · intro e; omega
            · rw [if_neg cf]; constructor
              · intro e
                have e2 : (-2 : Int32).toInt = -2 := by decide
                rw [e2] at e; omega
              · intro e; omega
          by_cases cj : firS d.1.1.1 (itS d none (tb9 q) ρ) = j ∧ j < d.1.1.1
          · rw [if_pos (hcau.mpr cj)]
            exact go true (decide_eq_true cj).symm
          · rw [if_neg (fun e => cj (hcau.mp e))]
            exact go false (decide_eq_false cj).symm
      have ih1 := ih (q + 1) N (by omega) (by omega)
      show b_X12_glitterBits_40 (f_X12_glitterBits_40 N) (nI K) _ (nI q) s = _
      unfold b_X12_glitterBits_40
      rw [nIt (n := q) (by omega), nIt (n := K) (by omega), if_pos (show (q : Int) < K by omega)]
      have i0 := inner (f_X12_glitterBits_40 N) 7 0 5000 (by omega) (by omega)
      have e1 : bset (fun e => gliP d ρ tb9 (hdS σ) q e && (decide (0 ≤ e) || (decide (firS d.1.1.1 (itS d none (tb9 q) ρ) = e ∧ e < d.1.1.1) == hdS σ q))) 7 = bset (gliP d ρ tb9 (hdS σ) q) 7 := bset_cg (fun e _ => by rw [decide_eq_true (Nat.zero_le e), Bool.true_or, Bool.and_true])
      have e2 : bset (fun e => gliP d ρ tb9 (hdS σ) q e && (decide (7 ≤ e) || (decide (firS d.1.1.1 (itS d none (tb9 q) ρ) = e ∧ e < d.1.1.1) == hdS σ q))) 7 = bset (gliP d ρ tb9 (hdS σ) (q + 1)) 7 := bset_cg (fun e he => by
        rw [decide_eq_false (by omega), Bool.false_or]
        show _ = (gliP d ρ tb9 (hdS σ) q e && (decide (firS d.1.1.1 (itS d none (tb9 q) ρ) = e) == hdS σ q))
        cases hg : gliP d ρ tb9 (hdS σ) q e with
        | false => rfl
        | true =>
          have := gli_T hg
          by_cases ce : firS d.1.1.1 (itS d none (tb9 q) ρ) = e
          · rw [decide_eq_true ce, decide_eq_true ⟨ce, this⟩]
          · rw [decide_eq_false ce, decide_eq_false (fun h => ce h.1)])
      rw [e1, e2, nI_0] at i0
      rw [i0]
      exact ih1
  have loop : ∀ (dd q N : Nat) (s : HS), q + dd = 41 → dd < N → TRm d ρ σ q s → (∀ i, i < q → s.1 274 i = cauS d.1.1.1 (itS d none i ρ)) → Ok (f_X12_glitterBits_12 N (nI K) (bset (gliP d ρ tb9 (hdS σ) 0) 7) (nI q) s) (fun r s => r = bset (gliP d ρ tb9 (hdS σ) K) 7 ∧ (∀ i, i < 41 → s.1 274 i = cauS d.1.1.1 (itS d none i ρ)) ∧ frm wQ wl0 σ s) := by
    intro dd
    induction dd with
    | zero =>
      intro q N s hq hN hs h274
      obtain ⟨N, rfl⟩ : ∃ q, N = q + 1 := ⟨N - 1, by omega⟩
      obtain rfl : q = 41 := by omega
      show Ok (b_X12_glitterBits_12 (f_X12_glitterBits_12 N) (nI K) _ (nI 41) s) _
      unfold b_X12_glitterBits_12
      refine Ok.t (by decide) ?_
      have := kil s hs.2.2 h274 K 0 5000 (by omega) (by omega)
      rw [nI_0] at this
      exact Ok.of this ⟨rfl, h274, hs.2.2⟩
    | succ dd ih =>
      intro q N s hq hN hs h274
      obtain ⟨N, rfl⟩ : ∃ q, N = q + 1 := ⟨N - 1, by omega⟩
      show Ok (b_X12_glitterBits_12 (f_X12_glitterBits_12 N) (nI K) _ (nI q) s) _
      unfold b_X12_glitterBits_12
      rw [nIt (n := q) (by omega), Int.toNat_natCast]
      refine Ok.f (by omega) (Ok.cv (m_beat h hn (by omega) hs) (fun s1 h1 => Ok.t (by omega) (Ok.bd (Ok.bd ?_))))
      obtain ⟨T1, e51, -, -, f1⟩ := h1
      rw [nI_1, e51]
      have f3 : frm (fun a _ => a == 274) wl0 s1 (hI s1 274 q (cauS d.1.1.1 (itS d none q ρ))) := frm.rf.I rfl
      refine ih (q + 1) N _ (by omega) (by omega) ⟨T1.1.fr f3 (fun _ => rfl), ?_, T1.2.2.I rfl⟩ (fun i hi => ?_)
      · unfold SDm
        rw [f3.1 236 49 rfl, f3.1 236 50 rfl]; exact T1.2.1
      · by_cases ci : i = q
        · rw [ci, rI_s]
        · rw [rI_k ci, f1.1 274 i rfl]; exact h274 i (by omega)
  rw [nI0]
  exact loop 41 0 5000 s1 (by omega) (by omega) h1 (fun i hi => absurd hi (by omega))
/-! glitters, watch -/
def glsS (d : DAT) (ρ : Nat → Int32) (tb9 : Nat → Nat) (hd : Nat → Bool) (m : Nat) (x y : Int32) : Int32 := if (0 ≤ x.toInt ∧ x.toInt ≤ m) ∧ (0 ≤ y.toInt ∧ y.toInt ≤ 1) then (if y.toInt = 0 then nI (cntB (gliP d ρ tb9 hd x.toInt.toNat) 7) else bset (gliP d ρ tb9 hd x.toInt.toNat) 7) else -1
theorem glsS_in {hd : Nat → Bool} {K : Nat} (hK : K ≤ m) (hm : m ≤ 20) (hy : 0 ≤ y.toInt ∧ y.toInt ≤ 1) : glsS d ρ tb9 hd m (nI K) y = if y.toInt = 0 then nI (cntB (gliP d ρ tb9 hd K) 7) else bset (gliP d ρ tb9 hd K) 7 := by
  unfold glsS
  rw [nIt (by omega), Int.toNat_natCast]
  exact if_pos ⟨⟨by omega, by omega⟩, hy⟩
theorem hd_fr {w : Nat → Nat → Bool} {wl : Nat → Bool} (hf : frm w wl σ s) (hw : ∀ k, w 273 k = false) : hdS s = hdS σ := funext fun i => by unfold hdS; rw [hf.1 273 i (hw i)]
theorem q_left_c {K : Nat} (h : RELx n d t u sd ρ k nx H m tb9 G σ) (hn : n ≤ 512) (hK : K ≤ m) : Okv (f_X11_findHands 41 σ) (fun s => f_X0_bitsOf 56 0 s = some (bset (gliP d ρ tb9 (hdS σ) 0) 7, s) ∧ f_X2_agreeing 27 (bset (gliP d ρ tb9 (hdS σ) 0) 7) (nI K) s = some (bset (gliP d ρ tb9 (hdS σ) K) 7, s) ∧ (∀ i, i < 41 → s.1 27 i = hanS d ρ i) ∧ frm wQ wl0 σ s) := by
  have hT := h.tc.T7
  rw [show (41 : Int32) = nI 41 from rfl]
  refine (w_findHands (Z := 41) h hn (by omega)).mono (fun s h1 => ?_)
  have hr := h.fr h1.2
  have hh := hd_fr h1.2 (fun _ => rfl)
  refine ⟨?_, ?_, h1.1, h1.2⟩
  · rw [e_bitsOf hr.ar.1 hT, ← gli_0 hT]
    refine congrArg (fun w => some (w, s)) (bset_cg (fun e he => ?_))
    have := hr.ar.up he
    unfold upA at this
    exact this
  · rw [← hh]
    exact e_agreeing hT hr.2.2.2.2.1 hK h1.1
theorem q_glitters_c (h : RELx n d t u sd ρ k nx H m tb9 G σ) (hn : n ≤ 512) : Ok (f_X11_glitters x y σ) (fun r s => r = glsS d ρ tb9 (hdS σ) m x y ∧ frm wQ wl0 σ s) := by
  have hm := h.2.2.2.2.1
  have m20 := hm.2.1
  unfold f_X11_glitters
  rw [hm.1, nIt (n := m) (by omega)]
  by_cases c1 : x.toInt < 0
  · exact Ok.t c1 (Ok.ret ⟨(clo_no (fun h => by omega)).symm, frm.rf⟩)
  by_cases c2 : (m : Int) < x.toInt
  · exact Ok.f c1 (Ok.t c2 (Ok.ret ⟨(clo_no (fun h => by omega)).symm, frm.rf⟩))
  by_cases c3 : y.toInt < 0
  · exact Ok.f c1 (Ok.f c2 (Ok.t c3 (Ok.ret ⟨(clo_no (fun h => by omega)).symm, frm.rf⟩)))
  by_cases c4 : 1 < y.toInt
  · exact Ok.f c1 (Ok.f c2 (Ok.f c3 (Ok.t c4 (Ok.ret ⟨(clo_no (fun h => by omega)).symm, frm.rf⟩))))
  obtain ⟨K, hK, rfl⟩ : ∃ q, q ≤ m ∧ x = nI q := ⟨x.toInt.toNat, by omega, nI_tn (by omega) (by omega)⟩
  rw [glsS_in hK m20 (by omega)]
  refine Ok.f c1 (Ok.f c2 (Ok.f c3 (Ok.f c4 (Ok.cv (q_left_c h hn hK) (fun s1 h1 => Ok.cle h1.1 (Ok.cle h1.2.1 ?_))))))
  by_cases cy : y.toInt = 0
  · refine Ok.t cy (Ok.cle e_bitCount (Ok.ret ⟨?_, h1.2.2.2⟩))
    rw [if_pos cy, pcI_cnt (by omega)]
  · refine Ok.f cy (Ok.ret ⟨?_, h1.2.2.2⟩)
    rw [if_neg cy]
theorem q_glitters_m (h : RELx n d t u sd ρ k nx H m tb9 G σ) (hn : n ≤ 512) : Ok (f_X12_glitters x y σ) (fun r s => r = glsS d ρ tb9 (hdS σ) m x y ∧ frm wQ wl0 σ s) := by
  have hm := h.2.2.2.2.1
  have m20 := hm.2.1
  unfold f_X12_glitters
  refine Ok.cle e_in ?_
  rw [hm.2.2.1, i0_eq, nIt (n := m) (by omega)]
  by_cases c : 0 ≤ x.toInt ∧ x.toInt ≤ m
  · refine Ok.f (fun e => if10.mp e c) (Ok.cle e_in ?_)
    rw [i0_eq, i1_e]
    by_cases cy : 0 ≤ y.toInt ∧ y.toInt ≤ 1
    · obtain ⟨K, hK, rfl⟩ : ∃ q, q ≤ m ∧ x = nI q := ⟨x.toInt.toNat, by omega, nI_tn (by omega) (by omega)⟩
      rw [glsS_in hK m20 cy]
      refine Ok.f (fun e => if10.mp e cy) (Ok.cl (w_glitterBits h hn hK) (fun r s5 h5 => ?_))
      obtain ⟨rfl, -, f5⟩ := h5
      by_cases c0 : y.toInt = 0
      · refine Ok.t c0 (Ok.cle e_bits (Ok.ret ⟨?_, f5⟩))
        rw [if_pos c0, pcM_cnt (by omega)]
      · refine Ok.f c0 (Ok.ret ⟨?_, f5⟩)
        rw [if_neg c0]
    · exact Ok.t (if10.mpr cy) (Ok.ret ⟨(clo_no (fun h => cy h.2)).symm, frm.rf⟩)
  · exact Ok.t (if10.mpr c) (Ok.ret ⟨(clo_no (fun h => c h.1)).symm, frm.rf⟩)
theorem sim_glitters (hn : n ≤ 512) : SIM n (f_X11_glitters x y) (f_X12_glitters x y) := sim_q (fun d t u sd ρ k nx H m tb G σ h => ⟨_, q_glitters_c h hn, fun s hs hf => by
  have := q_glitters_m (x := x) (y := y) hs hn
  rw [hd_fr hf (fun _ => rfl)] at this
  exact this⟩)
/-- of how many there are is one told apart by beat n -/
def watV (d : DAT) (ρ : Nat → Int32) (q : Nat → Bool) (i : Nat) : Nat := if firS d.1.1.1 (itS d none i ρ) < d.1.1.1 ∧ q (firS d.1.1.1 (itS d none i ρ)) = true then 1 else 0
def watW (d : DAT) (ρ : Nat → Int32) (q : Nat → Bool) (i : Nat) : Nat := if cntB q 7 - watV d ρ q i < watV d ρ q i then watV d ρ q i else cntB q 7 - watV d ρ q i
def watB (w : Nat → Nat) : Nat → Nat
  | 0 => 0
  | i + 1 => if w (i + 1) < w (watB w i) then i + 1 else watB w i
def watS (d : DAT) (ρ : Nat → Int32) (tb9 : Nat → Nat) (hd : Nat → Bool) (m : Nat) (x : Int32) : Int32 := if 0 ≤ x.toInt ∧ x.toInt ≤ m then (if cntB (gliP d ρ tb9 hd x.toInt.toNat) 7 = 0 then -2 else nI (watB (watW d ρ (gliP d ρ tb9 hd x.toInt.toNat)) 40)) else -1
theorem watS_in {hd : Nat → Bool} {K : Nat} (hK : K ≤ m) (hm : m ≤ 20) : watS d ρ tb9 hd m (nI K) = if cntB (gliP d ρ tb9 hd K) 7 = 0 then -2 else nI (watB (watW d ρ (gliP d ρ tb9 hd K)) 40) := by
  unfold watS
  rw [nIt (by omega), Int.toNat_natCast]
  exact if_pos ⟨by omega, by omega⟩
theorem wat_le {q : Nat → Bool} {i : Nat} : watV d ρ q i ≤ 1 := by
  unfold watV
  split <;> omega
theorem wat_cnt {q : Nat → Bool} {i : Nat} (hT : d.1.1.1 ≤ 7) : watV d ρ q i ≤ cntB q 7 := by
  unfold watV
  by_cases c : firS d.1.1.1 (itS d none i ρ) < d.1.1.1 ∧ q (firS d.1.1.1 (itS d none i ρ)) = true
  · rw [if_pos c]
    have := cnt_del (p := q) (q := fun e => decide (e ≠ firS d.1.1.1 (itS d none i ρ)) && q e) (a := firS d.1.1.1 (itS d none i ρ)) (n := 7) (by omega) (fun e _ hn => by rw [decide_eq_true hn, Bool.true_and]) c.2 (by simp)
    omega
  · rw [if_neg c]; omega
theorem watB_le {w : Nat → Nat} : ∀ {i : Nat}, watB w i ≤ i := by
  intro i
  induction i with
  | zero => exact Nat.le_refl _
  | succ i ih =>
    show (if w (i + 1) < w (watB w i) then i + 1 else watB w i) ≤ i + 1
    split <;> omega
theorem cnt_one {q : Nat → Bool} {f : Nat} (hf : f < 7) : cntB (fun e => q e && decide (e = f)) 7 = if q f = true then 1 else 0 := by
  cases hq : q f with
  | false =>
    rw [if_neg (by decide)]
    exact cnt_zero (fun e _ => by
      by_cases ce : e = f
      · rw [ce, hq]; rfl
      · rw [decide_eq_false ce, Bool.and_false])
  | true =>
    rw [if_pos rfl]
    have := cnt_del (p := fun e => q e && decide (e = f)) (q := fun _ => false) (a := f) (n := 7) hf (fun e _ hn => by rw [decide_eq_false hn, Bool.and_false]) (by rw [hq, decide_eq_true rfl]; rfl) rfl
    rw [cnt_zero (p := fun _ => false) (fun _ _ => rfl)] at this
    omega
theorem q_watch_c (h : RELx n d t u sd ρ k nx H m tb9 G σ) (hn : n ≤ 512) : Ok (f_X11_watch x σ) (fun r s => r = watS d ρ tb9 (hdS σ) m x ∧ frm wQ wl0 σ s) := by
  have hT := h.tc.T7
  have hm := h.2.2.2.2.1
  have m20 := hm.2.1
  unfold f_X11_watch
  rw [hm.1, nIt (n := m) (by omega)]
  by_cases c1 : x.toInt < 0
  · exact Ok.t c1 (Ok.ret ⟨(clo_no (fun h => by omega)).symm, frm.rf⟩)
  by_cases c2 : (m : Int) < x.toInt
  · exact Ok.f c1 (Ok.t c2 (Ok.ret ⟨(clo_no (fun h => by omega)).symm, frm.rf⟩))
  obtain ⟨K, hK, rfl⟩ : ∃ q, q ≤ m ∧ x = nI q := ⟨x.toInt.toNat, by omega, nI_tn (by omega) (by omega)⟩
  rw [watS_in hK m20]
  refine Ok.f c1 (Ok.f c2 (Ok.cv (q_left_c h hn hK) (fun s1 h1 => Ok.cle h1.1 (Ok.cle h1.2.1 ?_))))
  obtain ⟨-, -, h27, f1⟩ := h1
  generalize gliP d ρ tb9 (hdS σ) K = q
  have z0 : (bset q 7).toInt = 0 ↔ cntB q 7 = 0 := by
    have e1 := pcI_cnt (p := q) (n := 7) (by omega)
    constructor
    · intro e
      have e2 : bset q 7 = 0 := Int32.toInt_inj.mp e
      rw [e2] at e1
      have c7 := cntB_le (p := q) (n := 7)
      have e3 : (nI (cntB q 7)).toInt = (pcI 0).toInt := by rw [e1]
      rw [nIt (by omega), show (pcI 0).toInt = 0 by decide +kernel] at e3
      omega
    · intro e
      have : bset q 7 = bset (fun _ => false) 7 := bset_cg (fun e' he' => by
        cases hq : q e' with
        | false => rfl
        | true =>
          have := cnt_del (p := q) (q := fun i => decide (i ≠ e') && q i) (a := e') (n := 7) he' (fun i _ hn => by rw [decide_eq_true hn, Bool.true_and]) hq (by simp)
          omega)
      rw [this]; decide
  by_cases c0 : cntB q 7 = 0
  · refine Ok.t (z0.mpr c0) (Ok.ret ⟨?_, f1⟩)
    rw [if_pos c0]
  · refine Ok.f (fun e => c0 (z0.mp e)) ?_
    rw [if_neg c0]
    have c7 := cntB_le (p := q) (n := 7)
    -- one beat: how many are left at worst
    have one : ∀ (i N : Nat) (best few : Int32), i < 41 → f_X11_watch_60 (N + 1) (bset q 7) best few (nI i) s1 = if (nI (watW d ρ q i)).toInt < few.toInt then f_X11_watch_60 N (bset q 7) (nI i) (nI (watW d ρ q i)) (nI (i + 1)) s1 else f_X11_watch_60 N (bset q 7) best few (nI (i + 1)) s1 := by
      intro i N best few hi
      have hc := han_cau (ρ := ρ) (d := d) (i := i) hT
      have fin : ∀ v, pcI (bset q 7 &&& v) = nI (watV d ρ q i) → pcI (bset q 7 &&& (v ^^^ (-1))) = nI (cntB q 7 - watV d ρ q i) → f_X11_watch_91 (f_X11_watch_60 N) (bset q 7) best few (nI i) v s1 = if (nI (watW d ρ q i)).toInt < few.toInt then f_X11_watch_60 N (bset q 7) (nI i) (nI (watW d ρ q i)) (nI (i + 1)) s1 else f_X11_watch_60 N (bset q 7) best few (nI (i + 1)) s1 := by
        intro v h1 h2
        have wl := wat_le (d := d) (ρ := ρ) (q := q) (i := i)
        unfold f_X11_watch_91 f_X11_watch_128
        rw [e_bitCount]
        simp only [Cl]
        rw [e_bitCount, h1, h2]
        simp only [Bd]
        have em : (if nI (watV d ρ q i) < nI (cntB q 7 - watV d ρ q i) then nI (cntB q 7 - watV d ρ q i) else nI (watV d ρ q i)) = nI (watW d ρ q i) := by
          unfold watW
          by_cases c : watV d ρ q i < cntB q 7 - watV d ρ q i
          · rw [if_pos (Int32.lt_iff_toInt_lt.mpr (by rw [nIt (by omega), nIt (by omega)]; omega)), if_neg (by omega)]
          · rw [if_neg (fun e => c (by
              have := Int32.lt_iff_toInt_lt.mp e
              rw [nIt (by omega), nIt (by omega)] at this
              omega))]
            by_cases c2 : cntB q 7 - watV d ρ q i < watV d ρ q i
            · rw [if_pos c2]
            · rw [if_neg c2]; exact congrArg nI (by omega)
        rw [em, nI_1]
      show b_X11_watch_60 (f_X11_watch_60 N) (bset q 7) best few (nI i) s1 = _
      unfold b_X11_watch_60
      rw [nIt (n := i) (by omega), if_neg (show ¬ (40 : Int) < i by omega), if_pos (show 0 ≤ (i : Int) ∧ (i : Int) < 61 by omega), if_pos (show 0 ≤ (i : Int) ∧ (i : Int) < 61 by omega), Int.toNat_natCast, h27 i hi]
      by_cases cf : firS d.1.1.1 (itS d none i ρ) < d.1.1.1
      · have ev := hc.2 cf
        have ewv : watV d ρ q i = if q (firS d.1.1.1 (itS d none i ρ)) = true then 1 else 0 := by
          unfold watV
          by_cases cq : q (firS d.1.1.1 (itS d none i ρ)) = true
          · rw [if_pos ⟨cf, cq⟩, if_pos cq]
          · rw [if_neg (fun h => cq h.2), if_neg cq]
        rw [if_neg (fun e => hc.1.mp e cf), ev]
        refine fin _ ?_ ?_
        · show pcI (bset q 7 &&& bitI _) = _
          rw [bs_and (by omega) (by omega), pcI_cnt (by omega), cnt_one (by omega), ewv]
        · show pcI (bset q 7 &&& (bitI _ ^^^ (-1))) = _
          rw [bs_ann (by omega) (by omega), pcI_cnt (by omega)]
          refine congrArg nI ?_
          have s := cnt_sub (p := q) (q := fun e => q e && decide (e = firS d.1.1.1 (itS d none i ρ))) (n := 7) (fun e _ h => by rw [Bool.and_eq_true] at h; exact h.1)
          rw [cnt_one (by omega), ← ewv] at s
          have e2 : cntB (fun e => q e && !(q e && decide (e = firS d.1.1.1 (itS d none i ρ)))) 7 = cntB (fun e => q e && !decide (e = firS d.1.1.1 (itS d none i ρ))) 7 := cntB_cg (fun e _ => by cases q e <;> rfl)
          rw [e2] at s
          omega
      · have ewv : watV d ρ q i = 0 := by unfold watV; rw [if_neg (fun h => cf h.1)]
        rw [if_pos (hc.1.mpr cf)]
        refine fin _ ?_ ?_
        · rw [bs_an0 (by omega), pcI_cnt (by omega), ewv, cnt_zero (fun _ _ => rfl)]
        · rw [bs_ann0, pcI_cnt (by omega), ewv, Nat.sub_zero]
    have wr : ∀ i, watW d ρ q i ≤ 7 := fun i => by
      have := wat_le (d := d) (ρ := ρ) (q := q) (i := i)
      unfold watW
      split <;> omega
    have loop : ∀ (dd i N : Nat), i + 1 + dd = 41 → dd < N → f_X11_watch_60 N (bset q 7) (nI (watB (watW d ρ q) i)) (nI (watW d ρ q (watB (watW d ρ q) i))) (nI (i + 1)) s1 = some (nI (watB (watW d ρ q) 40), s1) := by
      intro dd
      induction dd with
      | zero =>
        intro i N hi hN
        obtain ⟨N, rfl⟩ : ∃ q, N = q + 1 := ⟨N - 1, by omega⟩
        obtain rfl : i = 40 := by omega
        show b_X11_watch_60 (f_X11_watch_60 N) (bset q 7) _ _ (nI 41) s1 = _
        unfold b_X11_watch_60
        rw [if_pos (by decide)]
      | succ dd ih =>
        intro i N hi hN
        obtain ⟨N, rfl⟩ : ∃ q, N = q + 1 := ⟨N - 1, by omega⟩
        have eb : watB (watW d ρ q) (i + 1) = if watW d ρ q (i + 1) < watW d ρ q (watB (watW d ρ q) i) then i + 1 else watB (watW d ρ q) i := rfl
        have ih1 := ih (i + 1) N (by omega) (by omega)
        have w1 := wr (i + 1)
        have w2 := wr (watB (watW d ρ q) i)
        rw [one (i + 1) N _ _ (by omega), nIt (n := watW d ρ q (i + 1)) (by omega), nIt (n := watW d ρ q (watB (watW d ρ q) i)) (by omega)]
        by_cases c : watW d ρ q (i + 1) < watW d ρ q (watB (watW d ρ q) i)
        · rw [eb, if_pos c] at ih1
          rw [if_pos (show (watW d ρ q (i + 1) : Int) < watW d ρ q (watB (watW d ρ q) i) by omega)]
          exact ih1
        · rw [eb, if_neg c] at ih1
          rw [if_neg (show ¬ (watW d ρ q (i + 1) : Int) < watW d ρ q (watB (watW d ρ q) i) by omega)]
          exact ih1
    have l0 := loop 40 0 4999 (by omega) (by omega)
    have w0 := wr 0
    have := one 0 4999 0 8 (by omega)
    have e8 : (8 : Int32).toInt = 8 := rfl
    rw [e8, nIt (n := watW d ρ q 0) (by omega), if_pos (show (watW d ρ q 0 : Int) < 8 by omega), nI_0] at this
    rw [show nI (watB (watW d ρ q) 0) = 0 from nI_0] at l0
    exact Ok.of (this.trans l0) ⟨rfl, f1⟩
theorem q_watch_m (h : RELx n d t u sd ρ k nx H m tb9 G σ) (hn : n ≤ 512) : Ok (f_X12_watch x σ) (fun r s => r = watS d ρ tb9 (hdS σ) m x ∧ frm wQ wl0 σ s) := by
  have hT := h.tc.T7
  have hm := h.2.2.2.2.1
  have m20 := hm.2.1
  unfold f_X12_watch
  refine Ok.cle e_in ?_
  rw [hm.2.2.1, i0_eq, nIt (n := m) (by omega)]
  by_cases c : 0 ≤ x.toInt ∧ x.toInt ≤ m
  · obtain ⟨K, hK, rfl⟩ : ∃ q, q ≤ m ∧ x = nI q := ⟨x.toInt.toNat, by omega, nI_tn (by omega) (by omega)⟩
    rw [watS_in hK m20]
    refine Ok.f (fun e => if10.mp e c) (Ok.cl (w_glitterBits h hn hK) (fun r s1 h1 => ?_))
    obtain ⟨rfl, h274, f1⟩ := h1
    generalize gliP d ρ tb9 (hdS σ) K = q
    refine Ok.cle e_bits ?_
    rw [pcM_cnt (by omega)]
    have c7 := cntB_le (p := q) (n := 7)
    by_cases c0 : cntB q 7 = 0
    · rw [if_pos c0, c0]
      have : f_X12_watch_35 5000 (bset q 7) (nI 0) (-2) 0 0 s1 = some (-2, s1) := by
        show b_X12_watch_35 (f_X12_watch_35 4999) (bset q 7) (nI 0) (-2) 0 0 s1 = _
        unfold b_X12_watch_35
        rw [if_neg (by decide), if_neg (by decide)]
      exact Ok.of this ⟨rfl, f1⟩
    · rw [if_neg c0]
      have wr : ∀ i, watW d ρ q i ≤ 7 := fun i => by
        have := wat_le (d := d) (ρ := ρ) (q := q) (i := i)
        unfold watW
        split <;> omega
      -- one beat
      have one : ∀ (i N : Nat) (best few : Int32), i < 41 → f_X12_watch_35 (N + 1) (bset q 7) (nI (cntB q 7)) best few (nI i) s1 = if best.toInt < 0 ∨ (nI (watW d ρ q i)).toInt < few.toInt then f_X12_watch_35 N (bset q 7) (nI (cntB q 7)) (nI i) (nI (watW d ρ q i)) (nI (i + 1)) s1 else f_X12_watch_35 N (bset q 7) (nI (cntB q 7)) best few (nI (i + 1)) s1 := by
        intro i N best few hi
        have wl := wat_le (d := d) (ρ := ρ) (q := q) (i := i)
        have wc := wat_cnt (d := d) (ρ := ρ) (q := q) (i := i) hT
        have e96 : ∀ w, w = nI (watW d ρ q i) → f_X12_watch_96 (f_X12_watch_35 N) (bset q 7) (nI (cntB q 7)) best few (nI i) w s1 = if best.toInt < 0 ∨ (nI (watW d ρ q i)).toInt < few.toInt then f_X12_watch_35 N (bset q 7) (nI (cntB q 7)) (nI i) (nI (watW d ρ q i)) (nI (i + 1)) s1 else f_X12_watch_35 N (bset q 7) (nI (cntB q 7)) best few (nI (i + 1)) s1 := by
          intro w hw
          rw [hw]
          unfold f_X12_watch_96 f_X12_watch_113 f_X12_watch_121
          simp only [Bd]
          rw [nI_1]
          by_cases cb : best.toInt < 0
          · rw [if_pos cb, if_pos (Or.inl cb)]
          · rw [if_neg cb]
            by_cases cw : (nI (watW d ρ q i)).toInt < few.toInt
            · rw [if_pos cw, if_pos (Or.inr cw)]
            · rw [if_neg cw, if_neg (fun h => h.elim cb cw)]
        have e76 : ∀ v, v = nI (watV d ρ q i) → f_X12_watch_76 (f_X12_watch_35 N) (bset q 7) (nI (cntB q 7)) best few (nI i) v s1 = if best.toInt < 0 ∨ (nI (watW d ρ q i)).toInt < few.toInt then f_X12_watch_35 N (bset q 7) (nI (cntB q 7)) (nI i) (nI (watW d ρ q i)) (nI (i + 1)) s1 else f_X12_watch_35 N (bset q 7) (nI (cntB q 7)) best few (nI (i + 1)) s1 := by
          intro v hv
          rw [hv]
          unfold f_X12_watch_76
          rw [nI_sub wc (by omega), nIt (n := cntB q 7 - watV d ρ q i) (by omega), nIt (n := watV d ρ q i) (by omega)]
          by_cases cv : cntB q 7 - watV d ρ q i < watV d ρ q i
          · rw [if_pos (show ((cntB q 7 - watV d ρ q i : Nat) : Int) < watV d ρ q i by omega)]
            exact e96 _ (by unfold watW; rw [if_pos cv])
          · rw [if_neg (show ¬ ((cntB q 7 - watV d ρ q i : Nat) : Int) < watV d ρ q i by omega)]
            exact e96 _ (by unfold watW; rw [if_neg cv])
        show b_X12_watch_35 (f_X12_watch_35 N) (bset q 7) (nI (cntB q 7)) best few (nI i) s1 = _
        unfold b_X12_watch_35
        rw [nIt (n := i) (by omega), nIt (n := cntB q 7) (by omega), if_neg (show ¬ (40 : Int) < i by omega), if_pos (show (0 : Int) < cntB q 7 by omega), if_pos (show 0 ≤ (i : Int) ∧ (i : Int) < 41 by omega), if_pos (show 0 ≤ (i : Int) ∧ (i : Int) < 41 by omega), Int.toNat_natCast, h274 i hi]
        by_cases cf : firS d.1.1.1 (itS d none i ρ) < d.1.1.1
        · rw [if_neg (fun e => (cau_neg hT).mp e cf)]
          unfold cauS
          rw [if_pos cf]
          by_cases cq : q (firS d.1.1.1 (itS d none i ρ)) = true
          · have et : tb (bset q 7) (firS d.1.1.1 (itS d none i ρ)) = true := by rw [tb_bsW (by omega) (by omega), decide_eq_true (by omega), cq]; rfl
            rw [if_pos ((tb_sh1 (by omega)).mpr et)]
            exact e76 1 (by unfold watV; rw [if_pos ⟨cf, cq⟩]; rfl)
          · have et : ¬ tb (bset q 7) (firS d.1.1.1 (itS d none i ρ)) = true := by rw [tb_bsW (by omega) (by omega), Bool.eq_false_iff.mpr cq, Bool.and_false]; decide
            rw [if_neg (fun e => et ((tb_sh1 (by omega)).mp e))]
            exact e76 0 (by unfold watV; rw [if_neg (fun h => cq h.2)]; exact nI_0.symm)
        · rw [if_pos ((cau_neg hT).mpr cf)]
          exact e76 0 (by unfold watV; rw [if_neg (fun h => cf h.1)]; exact nI_0.symm)
      have loop : ∀ (dd i N : Nat), i + 1 + dd = 41 → dd < N → f_X12_watch_35 N (bset q 7) (nI (cntB q 7)) (nI (watB (watW d ρ q) i)) (nI (watW d ρ q (watB (watW d ρ q) i))) (nI (i + 1)) s1 = some (nI (watB (watW d ρ q) 40), s1) := by
        intro dd
        induction dd with
        | zero =>
          intro i N hi hN
          obtain ⟨N, rfl⟩ : ∃ q, N = q + 1 := ⟨N - 1, by omega⟩
          obtain rfl : i = 40 := by omega
          show b_X12_watch_35 (f_X12_watch_35 N) (bset q 7) _ _ _ (nI 41) s1 = _
          unfold b_X12_watch_35
          rw [if_pos (by decide)]
        | succ dd ih =>
          intro i N hi hN
          obtain ⟨N, rfl⟩ : ∃ q, N = q + 1 := ⟨N - 1, by omega⟩
          have eb : watB (watW d ρ q) (i + 1) = if watW d ρ q (i + 1) < watW d ρ q (watB (watW d ρ q) i) then i + 1 else watB (watW d ρ q) i := rfl
          have ih1 := ih (i + 1) N (by omega) (by omega)
          have w1 := wr (i + 1)
          have w2 := wr (watB (watW d ρ q) i)
          have wb := watB_le (w := watW d ρ q) (i := i)
          rw [one (i + 1) N _ _ (by omega), nIt (n := watW d ρ q (i + 1)) (by omega), nIt (n := watW d ρ q (watB (watW d ρ q) i)) (by omega), nIt (n := watB (watW d ρ q) i) (by omega)]
          by_cases c : watW d ρ q (i + 1) < watW d ρ q (watB (watW d ρ q) i)
          · rw [eb, if_pos c] at ih1
            rw [if_pos (Or.inr (show (watW d ρ q (i + 1) : Int) < watW d ρ q (watB (watW d ρ q) i) by omega))]
            exact ih1
          · rw [eb, if_neg c] at ih1
            rw [if_neg (show ¬ ((watB (watW d ρ q) i : Int) < 0 ∨ (watW d ρ q (i + 1) : Int) < watW d ρ q (watB (watW d ρ q) i)) by omega)]
            exact ih1
      have l0 := loop 40 0 4999 (by omega) (by omega)
      have := one 0 4999 (-2) 0 (by omega)
      rw [if_pos (Or.inl (by decide)), nI_0] at this
      rw [show nI (watB (watW d ρ q) 0) = 0 from nI_0] at l0
      exact Ok.of (this.trans l0) ⟨rfl, f1⟩
  · exact Ok.t (if10.mpr c) (Ok.ret ⟨(clo_no c).symm, frm.rf⟩)
theorem sim_watch (hn : n ≤ 512) : SIM n (f_X11_watch x) (f_X12_watch x) := sim_q (fun d t u sd ρ k nx H m tb G σ h => ⟨_, q_watch_c h hn, fun s hs hf => by
  have := q_watch_m (x := x) hs hn
  rw [hd_fr hf (fun _ => rfl)] at this
  exact this⟩)
end GLIT
/-! count -/
section COUNT
variable {σ s : HS} {n t u sd k nx m T : Nat} {ρ : Nat → Int32} {d : DAT} {b : Int} {H G : Nat → Nat → Int32} {tb9 : Nat → Nat} {x y z : Int32}
def wgtS (x : Int32) (w : Nat → Int32) : Nat → Int32
  | 0 => 0
  | n + 1 => if tb x n = true then wgtS x w n + w n else wgtS x w n
def wgtF (d : DAT) (e : Nat) : Int32 := Int32.ofInt (d.1.1.2.1 e)
theorem e_weightsOf_c (h : RELx n d t u sd ρ k nx H m tb9 G σ) : f_X11_weightsOf x σ = some (wgtS x (wgtF d) d.1.1.1, σ) := by
  have hT := h.tc.T7
  have loop : ∀ (dd q N : Nat), q + dd = d.1.1.1 → dd < N → f_X11_weightsOf_4 N x (wgtS x (wgtF d) q) (nI q) σ = some (wgtS x (wgtF d) d.1.1.1, σ) := by
    intro dd
    induction dd with
    | zero =>
      intro q N hq hN
      obtain ⟨N, rfl⟩ : ∃ q, N = q + 1 := ⟨N - 1, by omega⟩
      obtain rfl : q = d.1.1.1 := by omega
      show b_X11_weightsOf_4 (f_X11_weightsOf_4 N) x _ _ σ = _
      unfold b_X11_weightsOf_4
      rw [h.t0, if_pos (show t = 30 ∨ t = 43 from h.tk), h.tc.1.1, if_neg (Int.lt_irrefl _)]
    | succ dd ih =>
      intro q N hq hN
      obtain ⟨N, rfl⟩ : ∃ q, N = q + 1 := ⟨N - 1, by omega⟩
      have ih1 := ih (q + 1) N (by omega) (by omega)
      have es : wgtS x (wgtF d) (q + 1) = if tb x q = true then wgtS x (wgtF d) q + wgtF d q else wgtS x (wgtF d) q := rfl
      show b_X11_weightsOf_4 (f_X11_weightsOf_4 N) x _ _ σ = _
      unfold b_X11_weightsOf_4 f_X11_weightsOf_36
      rw [h.t0, if_pos (show t = 30 ∨ t = 43 from h.tk), h.tc.1.1, nIt (n := q) (by omega), nIt (n := d.1.1.1) (by omega), if_pos (show (q : Int) < d.1.1.1 by omega), nI_1, Int.toNat_natCast, ofI (h.tc.1.2.2 q (by omega)).1]
      simp only [Bd]
      by_cases c : tb x q = true
      · rw [if_pos ((tb_sh1 (by omega)).mpr c), if_pos (show t = 30 ∨ t = 43 from h.tk), if_pos (show 0 ≤ (q : Int) ∧ (q : Int) < 7 by omega)]
        rw [es, if_pos c] at ih1
        exact ih1
      · rw [if_neg (fun e => c ((tb_sh1 (by omega)).mp e))]
        rw [es, if_neg c] at ih1
        exact ih1
  exact loop d.1.1.1 0 5000 (by omega) (by omega)
theorem e_weightsOf_m (h : TM sd d s) : f_X12_weightsOf x s = some (wgtS x (wgtF d) d.1.1.1, s) := by
  have hT := h.T7
  have L := h.lv
  have loop : ∀ (dd q N : Nat), q + dd = d.1.1.1 → dd < N → f_X12_weightsOf_4 N x (wgtS x (wgtF d) q) (nI q) s = some (wgtS x (wgtF d) d.1.1.1, s) := by
    intro dd
    induction dd with
    | zero =>
      intro q N hq hN
      obtain ⟨N, rfl⟩ : ∃ q, N = q + 1 := ⟨N - 1, by omega⟩
      obtain rfl : q = d.1.1.1 := by omega
      show b_X12_weightsOf_4 (f_X12_weightsOf_4 N) x _ _ s = _
      unfold b_X12_weightsOf_4
      rw [if_pos L.sd0, L.tt, nIt (n := d.1.1.1) (by omega), if_neg (Int.lt_irrefl _)]
    | succ dd ih =>
      intro q N hq hN
      obtain ⟨N, rfl⟩ : ∃ q, N = q + 1 := ⟨N - 1, by omega⟩
      have ih1 := ih (q + 1) N (by omega) (by omega)
      have es : wgtS x (wgtF d) (q + 1) = if tb x q = true then wgtS x (wgtF d) q + wgtF d q else wgtS x (wgtF d) q := rfl
      have hs := h.2.1
      show b_X12_weightsOf_4 (f_X12_weightsOf_4 N) x _ _ s = _
      unfold b_X12_weightsOf_4 f_X12_weightsOf_43
      rw [if_pos L.sd0, L.tt, nIt (n := q) (by omega), if_pos (show (q : Int) < d.1.1.1 by omega), L.1, e7s h.2.1, nIt (n := 7 * sd + q) (by omega), Int.toNat_natCast]
      simp only [Bd]
      rw [nI_1, ofI (h.2.2.1.2.2 q (by omega)).1]
      by_cases c : tb x q = true
      · rw [if_pos ((tb_sh1 (by omega)).mpr c), if_pos (show 0 ≤ ((7 * sd + q : Nat) : Int) ∧ ((7 * sd + q : Nat) : Int) < 14 by omega)]
        rw [es, if_pos c] at ih1
        exact ih1
      · rw [if_neg (fun e => c ((tb_sh1 (by omega)).mp e))]
        rw [es, if_neg c] at ih1
        exact ih1
  exact loop d.1.1.1 0 5000 (by omega) (by omega)
def shF (s : HS) : Int32 := s.1 275 0 + s.1 275 1 + s.1 275 2
theorem e_slotsHeld (h : SLO d b G σ) : f_X11_slotsHeld σ = some (shF σ, σ) := by
  have st : ∀ (q N : Nat) (y : Int32), q < 3 → f_X11_slotsHeld_4 (N + 1) y (nI q) σ = f_X11_slotsHeld_4 N (y + σ.1 275 q) (nI (q + 1)) σ := by
    intro q N y hq
    obtain ⟨⟨h1, h2⟩, h3⟩ := h q hq
    show b_X11_slotsHeld_4 (f_X11_slotsHeld_4 N) y (nI q) σ = _
    unfold b_X11_slotsHeld_4 f_X11_slotsHeld_21
    rw [nIt (n := q) (by omega), if_pos (show (q : Int) < 3 by omega), if_pos (show 0 ≤ (q : Int) ∧ (q : Int) < 3 by omega), Int.toNat_natCast, h1]
    simp only [Bd]
    rw [nI_1]
    rcases h2 with h2 | h2
    · rw [h2, if_pos i0_eq, Int32.add_zero]
    · rw [h2, if_neg (show ¬ (1 : Int32).toInt = 0 by decide)]
  have en : ∀ (N : Nat) (y : Int32), f_X11_slotsHeld_4 (N + 1) y (nI 3) σ = some (y, σ) := by
    intro N y
    show b_X11_slotsHeld_4 (f_X11_slotsHeld_4 N) y (nI 3) σ = _
    unfold b_X11_slotsHeld_4
    rw [if_neg (by decide)]
  show f_X11_slotsHeld_4 (4996 + 1 + 1 + 1 + 1) 0 (nI 0) σ = _
  rw [st 0 _ _ (by omega), st 1 _ _ (by omega), st 2 _ _ (by omega), en, Int32.zero_add]
  rfl
theorem Ok.ite {α : Type} {P : Prop} {dP : Decidable P} {A B : Option (α × HS)} {v w : α} {F : HS → Prop} (k1 : P → Ok A (fun r s => r = v ∧ F s)) (k2 : ¬ P → Ok B (fun r s => r = w ∧ F s)) : Ok (if P then A else B) (fun r s => r = (if P then v else w) ∧ F s) := by
  by_cases c : P
  · rw [if_pos c, if_pos c]; exact k1 c
  · rw [if_neg c, if_neg c]; exact k2 c
def cnS (d : DAT) (ρ : Nat → Int32) (k m : Nat) (sz sh : Int32) (x : Int32) : Int32 :=
  if x.toInt = 0 then nI d.1.1.1 else if x.toInt = 1 then nI d.1.2.1 else if x.toInt = 2 then ρ 21 else if x.toInt = 3 then ρ 22 else if x.toInt = 4 then bset (fun e => decide ((ρ e).toInt = (0 : Int32).toInt)) d.1.1.1 else if x.toInt = 5 then bset (fun e => decide ((ρ e).toInt = (2 : Int32).toInt)) d.1.1.1 else if x.toInt = 6 then ρ 23 else if x.toInt = 7 then ρ 24 else if x.toInt = 8 then ρ 25 else if x.toInt = 9 then ρ 26 else if x.toInt = 10 then hgtS d ρ else if x.toInt = 11 then sz else if x.toInt = 12 then nI k else if x.toInt = 13 then nI m else if x.toInt = 14 then sh else if x.toInt = 15 then wgtS (bset (fun e => decide ((ρ e).toInt = (0 : Int32).toInt)) d.1.1.1) (wgtF d) d.1.1.1 else if x.toInt = 16 then wgtS (bset (fun e => decide ((ρ e).toInt = (2 : Int32).toInt)) d.1.1.1) (wgtF d) d.1.1.1 else if x.toInt = 17 then bset (fun e => decide ((ρ e).toInt = (1 : Int32).toInt)) d.1.1.1 else -1
theorem e_bits_c (h : RELx n d t u sd ρ k nx H m tb9 G σ) : f_X0_bitsOf 56 x σ = some (bset (fun e => decide ((ρ e).toInt = x.toInt)) d.1.1.1, σ) := by
  rw [e_bitsOf h.ar.1 h.tc.T7]
  exact congrArg (fun v => some (v, σ)) (bset_cg (fun e he => by rw [(h.ar.2.1 e he).1]))
theorem e_bits_m (h : TM sd d s) (hR : RRm ρ s) : f_X12_thingsSo x s = some (bset (fun e => decide ((ρ e).toInt = x.toInt)) d.1.1.1, s) := by
  have hT := h.T7
  rw [e_thingsSo h.lv]
  exact congrArg (fun v => some (v, s)) (bset_cg (fun e he => by rw [hR e (by omega)]))
theorem q_count_c (h : RELx n d t u sd ρ k nx H m tb9 G σ) (hn : n ≤ 512) : Ok (f_X11_count x σ) (fun r s => r = cnS d ρ k m (σ.1 2 1) (shF σ) x ∧ s = σ) := by
  unfold f_X11_count cnS
  have hA := h.ar
  have hW := h.rw
  refine Ok.ite (fun _ => Ok.t (by rw [h.t0]; exact h.tk) (Ok.ret ⟨by rw [h.t0]; exact h.tc.1.1, rfl⟩)) (fun _ => ?_)
  refine Ok.ite (fun _ => Ok.t (by rw [h.t0]; exact h.tk) (Ok.ret ⟨by rw [h.t0]; exact h.tc.2.1.1, rfl⟩)) (fun _ => ?_)
  refine Ok.ite (fun _ => Ok.ret ⟨hA.2.2.1 4 (by decide) (by decide), rfl⟩) (fun _ => ?_)
  refine Ok.ite (fun _ => Ok.ret ⟨hA.2.2.1 5 (by decide) (by decide), rfl⟩) (fun _ => ?_)
  refine Ok.ite (fun _ => Ok.cle (e_bits_c h) (Ok.ret ⟨rfl, rfl⟩)) (fun _ => ?_)
  refine Ok.ite (fun _ => Ok.cle (e_bits_c h) (Ok.ret ⟨rfl, rfl⟩)) (fun _ => ?_)
  refine Ok.ite (fun _ => Ok.ret ⟨hA.2.2.1 6 (by decide) (by decide), rfl⟩) (fun _ => ?_)
  refine Ok.ite (fun _ => Ok.ret ⟨hA.2.2.1 7 (by decide) (by decide), rfl⟩) (fun _ => ?_)
  refine Ok.ite (fun _ => Ok.ret ⟨hA.2.2.1 8 (by decide) (by decide), rfl⟩) (fun _ => ?_)
  refine Ok.ite (fun _ => ?_) (fun _ => ?_)
  · rw [hA.2.2.2.1]
    rcases hW.2.2.2.1 with e | e
    · rw [e, if_pos rfl]
      exact Ok.t (by decide) (Ok.ret ⟨rfl, rfl⟩)
    · rw [if_neg (show ¬ ρ 26 = -2 from fun e2 => by rw [e2] at e; exact absurd e.1 (by decide))]
      exact Ok.f (by omega) (Ok.ret ⟨rfl, rfl⟩)
  refine Ok.ite (fun _ => Ok.t (by rw [h.t0]; exact h.tk) (Ok.cle (by rw [h.t0]; exact e_heightBy hA h.tc hW (by omega) h.tk) (Ok.ret ⟨rfl, rfl⟩))) (fun _ => ?_)
  refine Ok.ite (fun _ => Ok.ret ⟨rfl, rfl⟩) (fun _ => ?_)
  refine Ok.ite (fun _ => Ok.ret ⟨h.2.2.2.1.2.2.1, rfl⟩) (fun _ => ?_)
  refine Ok.ite (fun _ => Ok.ret ⟨h.2.2.2.2.1.1, rfl⟩) (fun _ => ?_)
  refine Ok.ite (fun _ => Ok.cle (e_slotsHeld h.2.2.2.2.2) (Ok.ret ⟨rfl, rfl⟩)) (fun _ => ?_)
  refine Ok.ite (fun _ => Ok.cle (e_bits_c h) (Ok.cle (e_weightsOf_c h) (Ok.ret ⟨rfl, rfl⟩))) (fun _ => ?_)
  refine Ok.ite (fun _ => Ok.cle (e_bits_c h) (Ok.cle (e_weightsOf_c h) (Ok.ret ⟨rfl, rfl⟩))) (fun _ => ?_)
  exact Ok.ite (fun _ => Ok.cle (e_bits_c h) (Ok.ret ⟨rfl, rfl⟩)) (fun _ => Ok.ret ⟨rfl, rfl⟩)
theorem in_c {v : Int} (h : x.toInt = v) : x = Int32.ofInt v := ofI h
theorem q_count_m (h : RELx n d t u sd ρ k nx H m tb9 G σ) (hn : n ≤ 512) : Ok (f_X12_count x σ) (fun r s => r = cnS d ρ k m (σ.1 2 1) (shF σ) x ∧ frm wQ wl0 σ s) := by
  unfold f_X12_count cnS
  refine Ok.cv (w_copies h.tm h.nw) (fun s1 hs1 => ?_)
  obtain ⟨hR, -, -, hf0⟩ := hs1
  have hf : frm wQ wl0 σ s1 := hf0.sub cp_wQ
  have h1 := h.fr hf
  have M := h1.tm
  have L := M.lv
  have hW := h.rw
  refine Ok.ite (fun _ => Ok.t L.sd0 (Ok.ret ⟨by rw [L.at]; exact L.2.2.1, hf⟩)) (fun _ => ?_)
  refine Ok.ite (fun _ => Ok.t L.sd0 (Ok.ret ⟨by rw [L.at]; exact M.2.2.2.1.1, hf⟩)) (fun _ => ?_)
  refine Ok.ite (fun _ => Ok.ret ⟨hR 21 (by decide), hf⟩) (fun _ => ?_)
  refine Ok.ite (fun _ => Ok.ret ⟨hR 22 (by decide), hf⟩) (fun _ => ?_)
  refine Ok.ite (fun _ => Ok.cle (e_bits_m M hR) (Ok.ret ⟨rfl, hf⟩)) (fun _ => ?_)
  refine Ok.ite (fun _ => Ok.cle (e_bits_m M hR) (Ok.ret ⟨rfl, hf⟩)) (fun _ => ?_)
  refine Ok.ite (fun c => ?_) (fun _ => ?_)
  · rw [in_c c]
    exact Ok.t (by decide) (Ok.ret ⟨hR 23 (by decide), hf⟩)
  refine Ok.ite (fun c => ?_) (fun _ => ?_)
  · rw [in_c c]
    exact Ok.t (by decide) (Ok.ret ⟨hR 24 (by decide), hf⟩)
  refine Ok.ite (fun c => ?_) (fun _ => ?_)
  · rw [in_c c]
    exact Ok.t (by decide) (Ok.ret ⟨hR 25 (by decide), hf⟩)
  refine Ok.ite (fun _ => Ok.ret ⟨hR 26 (by decide), hf⟩) (fun _ => ?_)
  refine Ok.ite (fun _ => Ok.cle (e_heightNow M hR hW (by omega)) (Ok.ret ⟨rfl, hf⟩)) (fun _ => ?_)
  refine Ok.ite (fun _ => Ok.ret ⟨?_, hf⟩) (fun _ => ?_)
  · obtain ⟨q, q1, q2, q3, q4⟩ := h.1.1
    rw [hf.1 236 2 rfl, q2, q3]
  refine Ok.ite (fun _ => Ok.ret ⟨h1.2.2.2.1.2.2.2.2.1, hf⟩) (fun _ => ?_)
  refine Ok.ite (fun _ => Ok.ret ⟨h1.2.2.2.2.1.2.2.1, hf⟩) (fun _ => ?_)
  refine Ok.ite (fun _ => ?_) (fun _ => ?_)
  · unfold shF
    rw [hf.1 275 0 rfl]
    have S := h.2.2.2.2.2
    rcases (S 0 (by decide)).1.2 with a0 | a0 <;> rcases (S 1 (by decide)).1.2 with a1 | a1 <;> rcases (S 2 (by decide)).1.2 with a2 | a2 <;>
    · unfold f_X12_count_192 f_X12_count_206 f_X12_count_221
      rw [hf.1 275 1 rfl, hf.1 275 2 rfl, a0, a1, a2]
      exact ⟨_, _, rfl, rfl, hf⟩
  refine Ok.ite (fun _ => Ok.cle (e_bits_m M hR) (Ok.cle (e_weightsOf_m M) (Ok.ret ⟨rfl, hf⟩))) (fun _ => ?_)
  refine Ok.ite (fun _ => Ok.cle (e_bits_m M hR) (Ok.cle (e_weightsOf_m M) (Ok.ret ⟨rfl, hf⟩))) (fun _ => ?_)
  exact Ok.ite (fun _ => Ok.cle (e_bits_m M hR) (Ok.ret ⟨rfl, hf⟩)) (fun _ => Ok.ret ⟨rfl, hf⟩)
theorem sim_count (hn : n ≤ 512) : SIM n (f_X11_count x) (f_X12_count x) := sim_q (fun d t u sd ρ k nx H m tb G σ h => ⟨_, (q_count_c h hn).mono (fun r s hs => ⟨hs.1, by rw [hs.2]; exact frm.rf⟩), fun s hs hf => by
  have := q_count_m (x := x) hs hn
  have e1 : s.1 2 1 = σ.1 2 1 := hf.1 2 1 rfl
  have e2 : shF s = shF σ := by unfold shF; rw [hf.1 275 0 rfl, hf.1 275 1 rfl, hf.1 275 2 rfl]
  rw [e1, e2] at this
  exact this⟩)
end COUNT
/-! records kept and given back -/
section RECS
variable {σ s s2 : HS} {n t u sd k nx m T : Nat} {ρ ρ' : Nat → Int32} {d : DAT} {b : Int} {H H' G : Nat → Nat → Int32} {tb9 : Nat → Nat} {x y z : Int32}
def PSc (d : DAT) (k nx : Nat) (H : Nat → Nat → Int32) (s : HS) : Prop := s.1 12 1 = nI nx ∧ nx < 40 ∧ s.1 12 2 = nI k ∧ k ≤ 40 ∧ ∀ j, j < k → AR (76 + 4 * ((nx + 40 + j - k) % 40)) d.1.1.1 (H j) s
def PSm (k : Nat) (H : Nat → Nat → Int32) (s : HS) : Prop := s.1 236 54 = nI k ∧ k ≤ 40 ∧ ∀ j, j < k → ∀ i, i < 29 → s.1 268 (29 * j + i) = H j i
theorem PAS.c (h : PAS d b k nx H σ) : PSc d k nx H σ := ⟨h.1, h.2.1, h.2.2.1, h.2.2.2.1, fun j hj => (h.2.2.2.2.2 j hj).1⟩
theorem PAS.mm (h : PAS d b k nx H σ) : PSm k H σ := ⟨h.2.2.2.2.1, h.2.2.2.1, fun j hj => (h.2.2.2.2.2 j hj).2.1⟩
theorem PAS.w (h : PAS d b k nx H σ) : ∀ j, j < k → RW d b (H j) := fun j hj => (h.2.2.2.2.2 j hj).2.2
theorem PSc.fr {w : Nat → Nat → Bool} {wl : Nat → Bool} (h : PSc d k nx H σ) (hf : frm w wl σ s) (h1 : ∀ i k, 76 ≤ i → i ≤ 235 → w i k = false) (h3 : ∀ k, w 12 k = false) : PSc d k nx H s := by
  obtain ⟨a1, a2, a3, a4, a6⟩ := h
  refine ⟨by rw [hf.1 _ _ (h3 1)]; exact a1, a2, by rw [hf.1 _ _ (h3 2)]; exact a3, a4, fun j hj => ?_⟩
  have hm : (nx + 40 + j - k) % 40 < 40 := Nat.mod_lt _ (by decide)
  exact (a6 j hj).fr hf (fun i k x y => h1 i k (by omega) (by omega))
theorem PSm.fr {w : Nat → Nat → Bool} {wl : Nat → Bool} (h : PSm k H σ) (hf : frm w wl σ s) (h1 : ∀ k, w 268 k = false) (h3 : w 236 54 = false) : PSm k H s :=
  ⟨by rw [hf.1 _ _ h3]; exact h.1, h.2.1, fun j hj i hi => by rw [hf.1 _ _ (h1 _)]; exact h.2.2 j hj i hi⟩
def kpK (k : Nat) : Nat := if k < 40 then k + 1 else 40
def kpH (k : Nat) (H : Nat → Nat → Int32) (ρ : Nat → Int32) (j : Nat) : Nat → Int32 := if j + 1 = kpK k then ρ else if k < 40 then H j else H (j + 1)
theorem kpK_le : kpK k ≤ 40 := by unfold kpK; split <;> omega
theorem kpH_w (hH : ∀ j, j < k → RW d b (H j)) (hW : RW d b ρ) (hk : k ≤ 40) : ∀ j, j < kpK k → RW d b (kpH k H ρ j) := by
  intro j hj
  unfold kpH
  by_cases c : j + 1 = kpK k
  · rw [if_pos c]; exact hW
  · rw [if_neg c]
    unfold kpK at hj c
    by_cases c2 : k < 40
    · rw [if_pos c2] at hj c ⊢; exact hH j (by omega)
    · rw [if_neg c2] at hj c ⊢; exact hH (j + 1) (by omega)
def wKp (a k : Nat) : Bool := (decide (76 ≤ a) && decide (a ≤ 235)) || (a == 12 && (k == 1 || k == 2))
theorem wKp_no {a k : Nat} (h : a < 12 ∨ 12 < a ∧ a < 76 ∨ 235 < a) : wKp a k = false := by
  unfold wKp
  simp only [Bool.or_eq_false_iff, Bool.and_eq_false_iff, beq_eq_false_iff_ne, decide_eq_false_iff_not, ne_eq]
  omega
theorem wKp_ai {a i k : Nat} (h1 : 76 ≤ a) (h2 : a + 3 ≤ 235) (h : wAi a i k = true) : wKp i k = true := by
  unfold wAi at h
  simp only [Bool.or_eq_true, beq_iff_eq] at h
  unfold wKp
  rw [decide_eq_true (show 76 ≤ i by omega), decide_eq_true (show i ≤ 235 by omega)]
  rfl
theorem rem40 {q : Nat} (h : q ≤ 1000) : nI q - nI q / (40 : Int32) * (40 : Int32) = nI (q % 40) := pk_rem (a := q) (d := 40) (by omega) (by omega) (by omega)
theorem w_keep (hP : PSc d k nx H σ) (hA : AR 56 d.1.1.1 ρ σ) (hT : d.1.1.1 ≤ 7) : Okv (f_X5_keep 56 σ) (fun s => PSc d (kpK k) ((nx + 1) % 40) (kpH k H ρ) s ∧ frm wKp wl0 σ s) := by
  obtain ⟨a1, a2, a3, a4, a5⟩ := hP
  unfold f_X5_keep
  rw [a1, nIt (n := nx) (by omega), Int.toNat_natCast]
  refine Okv.t (by omega) (Okv.cv (w_copy (a := 76 + 4 * nx) hA hT (by omega)) (fun s1 h1 => ?_))
  obtain ⟨A1, f1⟩ := h1
  have w1 : ∀ i k, i < 76 + 4 * nx ∨ 76 + 4 * nx + 3 < i → wAi (76 + 4 * nx) i k = false := fun i k h => wAi_no (by omega)
  have e1 : s1.1 12 1 = nI nx := by rw [f1.1 12 1 (w1 _ _ (by omega))]; exact a1
  have e2 : s1.1 12 2 = nI k := by rw [f1.1 12 2 (w1 _ _ (by omega))]; exact a3
  have F1 : frm wKp wl0 σ s1 := f1.sub (fun i k h => wKp_ai (by omega) (by omega) h)
  have E1 : (((s1.1 12 1) + (1 : Int32)) - ((s1.1 12 1) + (1 : Int32)) / (40 : Int32) * (40 : Int32)) = nI ((nx + 1) % 40) := by
    rw [e1, nI_1, rem40 (by omega)]
  refine Okv.bd (Okv.bd ?_)
  rw [E1]
  generalize hs2 : hI s1 12 1 (nI ((nx + 1) % 40)) = s2
  have e3 : s2.1 12 2 = nI k := by rw [← hs2, rI_k (by decide)]; exact e2
  have F2 : frm wKp wl0 σ s2 := by rw [← hs2]; exact F1.I (by decide)
  have E2 : (if ((s2.1 12 2) + (1 : Int32)) < (40 : Int32) then ((s2.1 12 2) + (1 : Int32)) else 40) = nI (kpK k) := by
    rw [e3, nI_1]
    unfold kpK
    by_cases c : k + 1 < 40
    · rw [if_pos (Int32.lt_iff_toInt_lt.mpr (by rw [nIt (n := k + 1) (by omega)]; show ((k + 1 : Nat) : Int) < 40; omega)), if_pos (show k < 40 by omega)]
    · rw [if_neg (fun h => by have := Int32.lt_iff_toInt_lt.mp h; rw [nIt (n := k + 1) (by omega)] at this; have : ((k + 1 : Nat) : Int) < 40 := this; omega)]
      by_cases c2 : k < 40
      · rw [if_pos c2, show k + 1 = 40 by omega]; rfl
      · rw [if_neg c2]; rfl
  rw [E2]
  refine Okv.ret ⟨⟨?_, by omega, rI_s, kpK_le, fun j hj => ?_⟩, F2.I (by decide)⟩
  · rw [rI_k (by decide), ← hs2, rI_s]
  have hm : ((nx + 1) % 40 + 40 + j - kpK k) % 40 < 40 := Nat.mod_lt _ (by decide)
  -- the rows are as they were after the copy
  have fin : ∀ (p : Nat) (r : Nat → Int32), 76 ≤ p → AR p d.1.1.1 r s1 → AR p d.1.1.1 r (hI s2 12 2 (nI (kpK k))) := by
    intro p r hp hr
    have : frm (fun a _ => a == 12) wl0 s1 (hI s2 12 2 (nI (kpK k))) := by rw [← hs2]; exact (frm.rf.I (by decide)).I (by decide)
    exact hr.fr this (fun i k x y => by simp; omega)
  refine fin _ _ (by omega) ?_
  unfold kpH
  by_cases c : j + 1 = kpK k
  · rw [if_pos c, show ((nx + 1) % 40 + 40 + j - kpK k) % 40 = nx by omega]; exact A1
  · rw [if_neg c]
    unfold kpK at hj c ⊢
    by_cases c2 : k < 40
    · rw [if_pos c2] at hj c ⊢
      rw [if_pos c2]
      have ei : ((nx + 1) % 40 + 40 + j - (k + 1)) % 40 = (nx + 40 + j - k) % 40 := by omega
      have en : (nx + 40 + j - k) % 40 ≠ nx := by omega
      rw [ei]
      exact (a5 j (by omega)).fr f1 (fun i k' x y => w1 i k' (by omega))
    · rw [if_neg c2] at hj c ⊢
      rw [if_neg c2]
      obtain rfl : k = 40 := by omega
      have ei : ((nx + 1) % 40 + 40 + j - 40) % 40 = (nx + 40 + (j + 1) - 40) % 40 := by omega
      have en : (nx + 40 + (j + 1) - 40) % 40 ≠ nx := by omega
      rw [ei]
      exact (a5 (j + 1) (by omega)).fr f1 (fun i k' x y => w1 i k' (by omega))
def wRs (a k : Nat) : Bool := a == 266 || a == 268 || (a == 236 && k == 54)
theorem nI_29 {q : Nat} (hq : q ≤ 100) : (29 : Int32) * nI q = nI (29 * q) := Int32.toInt_inj.mp (by
  rw [Int32.toInt_mul, nIt (n := q) (by omega), nIt (n := 29 * q) (by omega)]
  show Int.bmod (29 * (q : Int)) (2 ^ 32) = _
  rw [Int.bmod_def]
  omega)
theorem rs268 : ∀ i k, ((fun (a _ : Nat) => a == 268) i k) = true → wRs i k = true := fun i k h => by
  have : i = 268 := by simpa using h
  subst this
  rfl
theorem rs266 : ∀ i k, ((fun (a _ : Nat) => a == 266) i k) = true → wRs i k = true := fun i k h => by
  have : i = 266 := by simpa using h
  subst this
  rfl
theorem w_records (hP : PSm k H σ) (hNw : NWm ρ σ) (hR : RRm ρ' σ) : Okv (f_X12_records σ) (fun s => PSm (kpK k) (kpH k H ρ) s ∧ NWm ρ' s ∧ frm wRs wl0 σ s) := by
  obtain ⟨a1, a2, a3⟩ := hP
  -- the last row written, the new one kept
  have put : ∀ (q : Nat) (L : Nat → Nat → Int32) (s : HS), q < 40 → frm wRs wl0 σ s → NWm ρ s → s.1 236 54 = nI q → (∀ j, j < q → ∀ i, i < 29 → s.1 268 (29 * j + i) = L j i) → Okv (f_X12_records_49 s) (fun s2 => (s2.1 236 54 = nI (q + 1) ∧ (∀ j, j < q → ∀ i, i < 29 → s2.1 268 (29 * j + i) = L j i) ∧ ∀ i, i < 29 → s2.1 268 (29 * q + i) = ρ i) ∧ NWm ρ' s2 ∧ frm wRs wl0 σ s2) := by
    intro q L s hq hf hn h5 hL
    have loop : ∀ (dd i N : Nat) (s1 : HS), i + dd = 29 → dd < N → frm (fun a _ => a == 268) wl0 s s1 → (∀ j, j < q → ∀ i, i < 29 → s1.1 268 (29 * j + i) = L j i) → (∀ j, j < i → s1.1 268 (29 * q + j) = ρ j) → Okv (f_X12_records_51 N (nI i) s1) (fun s2 => (s2.1 236 54 = nI (q + 1) ∧ (∀ j, j < q → ∀ i, i < 29 → s2.1 268 (29 * j + i) = L j i) ∧ ∀ i, i < 29 → s2.1 268 (29 * q + i) = ρ i) ∧ NWm ρ' s2 ∧ frm wRs wl0 σ s2) := by
      intro dd
      induction dd with
      | zero =>
        intro i N s1 hi hN h1 h2 h3
        obtain ⟨N, rfl⟩ : ∃ q, N = q + 1 := ⟨N - 1, by omega⟩
        obtain rfl : i = 29 := by omega
        have e5 : s1.1 236 54 = nI q := by rw [h1.1 236 54 rfl]; exact h5
        have F1 : frm wRs wl0 σ s1 := hf.tr (h1.sub rs268)
        show Okv (b_X12_records_51 (f_X12_records_51 N) (nI 29) s1) _
        unfold b_X12_records_51
        rw [e5, show nI q + (1 : Int32) = nI (q + 1) from nI_1 q]
        generalize hs2 : hI s1 236 54 (nI (q + 1)) = s2
        have F2 : frm wRs wl0 σ s2 := by rw [← hs2]; exact F1.I rfl
        have R2 : RRm ρ' s2 := hR.fr F2 (fun _ => rfl)
        refine Okv.f (by decide) (Okv.bd ?_)
        refine Okv.cv (w_keepsRow R2) (fun s3 h3' => Okv.ret ⟨⟨?_, fun j hj i hi => ?_, fun i hi => ?_⟩, h3'.1, F2.tr (h3'.2.sub rs266)⟩)
        · rw [h3'.2.1 236 54 rfl, ← hs2, rI_s]
        · rw [h3'.2.1 268 _ rfl, ← hs2, rI_i (by decide)]; exact h2 j hj i hi
        · rw [h3'.2.1 268 _ rfl, ← hs2, rI_i (by decide)]; exact h3 i hi
      | succ dd ih =>
        intro i N s1 hi hN h1 h2 h3
        obtain ⟨N, rfl⟩ : ∃ q, N = q + 1 := ⟨N - 1, by omega⟩
        have e5 : s1.1 236 54 = nI q := by rw [h1.1 236 54 rfl]; exact h5
        have e6 : s1.1 266 i = ρ i := by rw [h1.1 266 i rfl]; exact hn i (by omega)
        show Okv (b_X12_records_51 (f_X12_records_51 N) (nI i) s1) _
        unfold b_X12_records_51
        rw [e5, nI_29 (by omega), nI_add, nIt (n := i) (by omega), nIt (n := 29 * q + i) (by omega), Int.toNat_natCast, Int.toNat_natCast, e6]
        refine Okv.t (by omega) (Okv.t (by omega) (Okv.t (by omega) (Okv.bd (Okv.bd ?_))))
        rw [nI_1]
        refine ih (i + 1) N _ (by omega) (by omega) (h1.I rfl) (fun j hj i' hi' => ?_) (fun j hj => ?_)
        · rw [rI_k (by omega)]; exact h2 j hj i' hi'
        · by_cases c : j = i
          · rw [c, rI_s]
          · rw [rI_k (by omega)]; exact h3 j (by omega)
    unfold f_X12_records_49
    exact loop 29 0 5000 s (by omega) (by omega) frm.rf hL (fun j hj => absurd hj (by omega))
  unfold f_X12_records
  rw [a1, nIt (n := k) (by omega)]
  by_cases c : k = 40
  · subst c
    refine Okv.t rfl ?_
    -- the rows moved down by one
    have loop : ∀ (dd i N : Nat) (s1 : HS), i + dd = 1131 → dd < N → frm (fun a _ => a == 268) wl0 σ s1 → (∀ j, j < i → s1.1 268 j = σ.1 268 (j + 29)) → (∀ j, i ≤ j → s1.1 268 j = σ.1 268 j) → Okv (f_X12_records_11 N (nI i) s1) (fun s => PSm (kpK 40) (kpH 40 H ρ) s ∧ NWm ρ' s ∧ frm wRs wl0 σ s) := by
      intro dd
      induction dd with
      | zero =>
        intro i N s1 hi hN h1 h2 h3
        obtain ⟨N, rfl⟩ : ∃ q, N = q + 1 := ⟨N - 1, by omega⟩
        obtain rfl : i = 1131 := by omega
        have e5 : s1.1 236 54 = nI 40 := by rw [h1.1 236 54 rfl]; exact a1
        have F1 : frm wRs wl0 σ s1 := h1.sub rs268
        show Okv (b_X12_records_11 (f_X12_records_11 N) (nI 1131) s1) _
        unfold b_X12_records_11
        rw [e5, show nI 40 - (1 : Int32) = nI 39 from rfl]
        refine Okv.f (by decide) (Okv.bd ((put 39 (fun j => H (j + 1)) _ (by omega) (F1.I rfl) (fun i hi => by rw [rI_i (by decide), h1.1 266 i rfl]; exact hNw i hi) rI_s (fun j hj i hi => ?_)).mono (fun s2 h2' => ?_)))
        · rw [rI_i (by decide), h2 _ (by omega), show 29 * j + i + 29 = 29 * (j + 1) + i by omega]
          exact a3 (j + 1) (by omega) i hi
        · obtain ⟨⟨q1, q2, q3⟩, q4, q5⟩ := h2'
          refine ⟨⟨q1, by decide, fun j hj i hi => ?_⟩, q4, q5⟩
          have hj2 : j < 40 := hj
          unfold kpH
          show _ = (if j + 1 = 40 then ρ else if 40 < 40 then H j else H (j + 1)) i
          by_cases c : j + 1 = 40
          · obtain rfl : j = 39 := by omega
            rw [if_pos c]; exact q3 i hi
          · rw [if_neg c, if_neg (Nat.lt_irrefl 40)]; exact q2 j (by omega) i hi
      | succ dd ih =>
        intro i N s1 hi hN h1 h2 h3
        obtain ⟨N, rfl⟩ : ∃ q, N = q + 1 := ⟨N - 1, by omega⟩
        show Okv (b_X12_records_11 (f_X12_records_11 N) (nI i) s1) _
        unfold b_X12_records_11
        rw [show nI i + (29 : Int32) = nI (i + 29) from nI_add i 29, nIt (n := i) (by omega), nIt (n := i + 29) (by omega), Int.toNat_natCast, Int.toNat_natCast]
        refine Okv.t (by omega) (Okv.t (by omega) (Okv.t (by omega) (Okv.bd (Okv.bd ?_))))
        rw [nI_1]
        refine ih (i + 1) N _ (by omega) (by omega) (h1.I rfl) (fun j hj => ?_) (fun j hj => ?_)
        · by_cases c : j = i
          · rw [c, rI_s]; exact h3 _ (by omega)
          · rw [rI_k (by omega)]; exact h2 j (by omega)
        · rw [rI_k (by omega)]; exact h3 j (by omega)
    exact loop 1131 0 5000 σ (by omega) (by omega) frm.rf (fun j hj => absurd hj (by omega)) (fun j _ => rfl)
  · refine Okv.f (by omega) ((put k H σ (by omega) frm.rf hNw a1 a3).mono (fun s2 h2' => ?_))
    obtain ⟨⟨q1, q2, q3⟩, q4, q5⟩ := h2'
    have ek : kpK k = k + 1 := if_pos (by omega)
    refine ⟨⟨by rw [ek]; exact q1, kpK_le, fun j hj i hi => ?_⟩, q4, q5⟩
    unfold kpH
    rw [ek] at hj ⊢
    by_cases c : j + 1 = k + 1
    · obtain rfl : j = k := by omega
      rw [if_pos c]; exact q3 i hi
    · rw [if_neg c, if_pos (show k < 40 by omega)]; exact q2 j (by omega) i hi
end RECS
/-! calls that go on: thrown in, used, set, beaten, undone, held, restored -/
section GOON
variable {σ s s2 : HS} {n t u sd k nx m T k' nx' m' : Nat} {ρ ρ' : Nat → Int32} {d : DAT} {b : Int} {H H' G G' : Nat → Nat → Int32} {tb9 : Nat → Nat} {x y z : Int32}
/-- what the class writes, what the reference writes -/
def wSc (a k : Nat) : Bool := wQ a k || (decide (56 ≤ a) && decide (a ≤ 59)) || wKp a k
def wSm (a k : Nat) : Bool := wQ a k || wRs a k
theorem wSc_no {a k : Nat} (h : wQ a k = false) (h2 : a < 12 ∨ 12 < a ∧ a < 56 ∨ 59 < a ∧ a < 76 ∨ 235 < a) : wSc a k = false := by
  unfold wSc
  rw [h, wKp_no (by omega), Bool.false_or, Bool.or_false, Bool.and_eq_false_iff, decide_eq_false_iff_not, decide_eq_false_iff_not]
  omega
theorem kp_wSc : ∀ i k, wKp i k = true → wSc i k = true := fun i k h => by unfold wSc; rw [h, Bool.or_true]
theorem ai_wSc : ∀ i k, wAi 56 i k = true → wSc i k = true := fun i k h => by
  unfold wAi at h
  simp only [Bool.or_eq_true, beq_iff_eq] at h
  unfold wSc
  rw [decide_eq_true (show 56 ≤ i by omega), decide_eq_true (show i ≤ 59 by omega), Bool.and_self, Bool.or_true, Bool.true_or]
theorem bt_wSc : ∀ i k, wBt 56 i k = true → wSc i k = true := fun i k h => by
  unfold wBt at h
  simp only [Bool.or_eq_true, beq_iff_eq] at h
  rcases h with ((h | h) | h) | h
  · exact ai_wSc i k h
  · subst h; rfl
  · subst h; rfl
  · subst h; rfl
theorem q_wSm : ∀ i k, wQ i k = true → wSm i k = true := fun i k h => by unfold wSm; rw [h]; rfl
theorem rs_wSm : ∀ i k, wRs i k = true → wSm i k = true := fun i k h => by unfold wSm; rw [h, Bool.or_true]
theorem wSm_no {a k : Nat} (h : wQ a k = false) (h2 : a ≠ 266 ∧ a ≠ 268 ∧ a ≠ 236) : wSm a k = false := by
  unfold wSm wRs
  simp only [Bool.or_eq_false_iff, Bool.and_eq_false_iff, beq_eq_false_iff_ne]
  exact ⟨h, ⟨h2.1, h2.2.1⟩, Or.inl h2.2.2⟩
/-- class and reference gone on alike -/
theorem RELx.done (h : RELx n d t u sd ρ k nx H m tb9 G σ) (hc : frm wSc wl0 σ s) (hm : frm wSm wl0 s s2) (hA : AR 56 d.1.1.1 ρ' s) (hPc : PSc d k' nx' H' s) (hN : NWm ρ' s2) (hPm : PSm k' H' s2) (hW : RW d (60 * ((n + 1 : Nat) : Int)) ρ') (hH : ∀ j, j < k' → RW d (60 * ((n + 1 : Nat) : Int)) (H' j)) : RELx (n + 1) d t u sd ρ' k' nx' H' m tb9 G s2 := by
  obtain ⟨h1, h2, h3, h4, h5, h6⟩ := h
  have q1 : ∀ i k, 30 ≤ i → i ≤ 55 → wSc i k = false := fun i k x y => wSc_no (wQ_no (by omega)) (by omega)
  have q2 : ∀ i k, 245 ≤ i → i ≤ 262 → wSc i k = false := fun i k x y => wSc_no (wQ_no (by omega)) (by omega)
  have q3 : ∀ i k, 30 ≤ i → i ≤ 55 → wSm i k = false := fun i k x y => wSm_no (wQ_no (by omega)) (by omega)
  have q4 : ∀ i k, 245 ≤ i → i ≤ 262 → wSm i k = false := fun i k x y => wSm_no (wQ_no (by omega)) (by omega)
  have z1 := (h1.fr hc rfl rfl (fun _ => rfl) (fun _ => rfl) rfl rfl).fr hm rfl rfl (fun _ => rfl) (fun _ => rfl) rfl rfl
  have z2 := (h2.fr hc q1 rfl q2).fr hm q3 rfl q4
  have z5 := (h5.fr hc (fun i k x y => wSc_no (wQ_no (by omega)) (by omega)) (fun i k x y => wSc_no (wQ_no (by omega)) (by omega)) rfl).fr hm (fun i k x y => wSm_no (wQ_no (by omega)) (by omega)) (fun i k x y => wSm_no (wQ_no (by omega)) (by omega)) rfl
  have z6 := ((h6.fr hc (fun i k x y => wSc_no (wQ_no (by omega)) (by omega)) (fun i k x y => wSc_no (wQ_no (by omega)) (by omega)) (fun _ => rfl)).fr hm (fun i k x y => wSm_no (wQ_no (by omega)) (by omega)) (fun i k x y => wSm_no (wQ_no (by omega)) (by omega)) (fun _ => rfl)).mono (show 60 * (n : Int) ≤ 60 * ((n + 1 : Nat) : Int) by omega)
  have z3 : PSc d k' nx' H' s2 := hPc.fr hm (fun i k x y => wSm_no (wQ_no (by omega)) (by omega)) (fun _ => rfl)
  have z4 : AR 56 d.1.1.1 ρ' s2 := hA.fr hm (fun i k x y => wSm_no (wQ_no (by omega)) (by omega))
  exact ⟨z1, z2, ⟨z4, hN, hW⟩, ⟨z3.1, z3.2.1, z3.2.2.1, z3.2.2.2.1, hPm.1, fun j hj => ⟨z3.2.2.2.2 j hj, hPm.2.2 j hj, hH j hj⟩⟩, z5, z6⟩
/-- a call that either answers alone, or goes on from a kept row -/
theorem sim_gen {fc fm : HS → Option (Int32 × HS)} (h : ∀ d t u sd ρ k nx H m tb G σ, RELx n d t u sd ρ k nx H m tb G σ → ∃ r s s2, fc σ = some (r, s) ∧ fm s = some (r, s2) ∧ REL (n + 1) s2) : SIM n fc fm := by
  intro σ hR
  obtain ⟨d, t, u, sd, ρ, k, nx, H, m, tb, G, hR⟩ := hR
  exact h d t u sd ρ k nx H m tb G σ hR
theorem RELx.same (h : RELx n d t u sd ρ k nx H m tb9 G σ) : REL (n + 1) σ := ⟨d, t, u, sd, ρ, k, nx, H, m, tb9, G, h.next⟩
/-- kept, then gone on: both sides -/
theorem RELx.kept (h : RELx n d t u sd ρ k nx H m tb9 G σ) {fc fm : HS → Option (Int32 × HS)} {r : Int32} (hc : Ok (fc σ) (fun r1 s => r1 = r ∧ AR 56 d.1.1.1 ρ' s ∧ PSc d (kpK k) ((nx + 1) % 40) (kpH k H ρ) s ∧ frm wSc wl0 σ s)) (hm : ∀ s, frm wSc wl0 σ s → TM sd d s → NWm ρ s → PSm k H s → Ok (fm s) (fun r2 s2 => r2 = r ∧ NWm ρ' s2 ∧ PSm (kpK k) (kpH k H ρ) s2 ∧ frm wSm wl0 s s2)) (hW : RW d (60 * ((n + 1 : Nat) : Int)) ρ') : ∃ r s s2, fc σ = some (r, s) ∧ fm s = some (r, s2) ∧ REL (n + 1) s2 := by
  obtain ⟨r1, s, e1, rfl, a1, a2, a3⟩ := hc
  have q1 : ∀ i k, 245 ≤ i → i ≤ 262 → wSc i k = false := fun i k x y => wSc_no (wQ_no (by omega)) (by omega)
  obtain ⟨r2, s2, e2, rfl, b1, b2, b3⟩ := hm s a3 (h.tm.fr a3 rfl q1) (h.nw.fr a3 (fun _ => rfl)) (h.2.2.2.1.mm.fr a3 (fun _ => rfl) rfl)
  exact ⟨r2, s, s2, e1, e2, d, t, u, sd, ρ', kpK k, (nx + 1) % 40, kpH k H ρ, m, tb9, G, h.done a3 b3 a1 a2 b1 b2 hW (kpH_w (fun j hj => (h.2.2.2.1.w j hj).mono (by omega)) (h.rw.mono (by omega)) h.2.2.2.1.2.2.2.1)⟩
theorem q_keep (h : RELx n d t u sd ρ k nx H m tb9 G σ) : Okv (f_X5_keep 56 σ) (fun s => AR 56 d.1.1.1 ρ s ∧ PSc d (kpK k) ((nx + 1) % 40) (kpH k H ρ) s ∧ frm wKp wl0 σ s) :=
  (w_keep h.2.2.2.1.c h.ar h.tc.T7).mono (fun s hs => ⟨h.ar.fr hs.2 (fun i k x y => wKp_no (by omega)), hs.1, hs.2⟩)
theorem PSc.air {s : HS} (h : PSc d k nx H σ) (hf : frm (wAi 56) wl0 σ s) : PSc d k nx H s := h.fr hf (fun i k x y => wAi_no (by omega)) (fun _ => rfl)
theorem sim_throwIn : SIM n (f_X11_throwIn x y) (f_X12_throwIn x y) := sim_gen (fun d t u sd ρ k nx H m tb G σ h => by
  have hT := h.tc.T7
  have L := h.tm.lv
  have no : f_X11_throwIn x y σ = some (0, σ) → f_X12_throwIn x y σ = some (0, σ) → ∃ r s s2, f_X11_throwIn x y σ = some (r, s) ∧ f_X12_throwIn x y s = some (r, s2) ∧ REL (n + 1) s2 := fun e1 e2 => ⟨0, σ, σ, e1, e2, h.same⟩
  have ec : f_X10_hasThing (σ.2.2 0) x σ = _ := e_hasThing (x := x) (by rw [h.t0]; exact h.tc.1.1) hT
  have em : f_X12_isThing x σ = _ := e_isThing (x := x) L
  have tk : (σ.2.2 0) = 30 ∨ (σ.2.2 0) = 43 := by rw [h.t0]; exact h.tk
  by_cases c : 0 ≤ x.toInt ∧ x.toInt < d.1.1.1
  · obtain ⟨e, he, rfl⟩ := in_T c (by omega)
    have u1 : upA σ 56 e = upR ρ e := h.ar.up he
    rw [if_pos c] at ec em
    by_cases cu : (ρ e).toInt = 0
    · refine no ?_ ?_
      · unfold f_X11_throwIn
        rw [if_pos tk, ec]
        simp only [Cl]
        rw [if_neg (show ¬ (1 : Int32).toInt = 0 by decide), e_isUp (by omega), u1, if_pos (show upR ρ e = true from decide_eq_true cu)]
        simp only [Cl]
        rw [if_neg (show ¬ (1 : Int32).toInt = 0 by decide)]
      · unfold f_X12_throwIn
        rw [em]
        simp only [Cl]
        rw [if_neg (show ¬ (1 : Int32).toInt = 0 by decide), nIt (n := e) (by omega), if_pos (show 0 ≤ (e : Int) ∧ (e : Int) < 29 by omega), Int.toNat_natCast, h.nw e (by omega), if_pos cu]
    · by_cases cy : 0 ≤ y.toInt ∧ y.toInt ≤ 9
      · obtain ⟨q, hq, rfl⟩ : ∃ q : Nat, q ≤ 9 ∧ y = nI q := ⟨y.toInt.toNat, by omega, nI_tn cy.1 (by omega)⟩
        refine h.kept (ρ' := putR ρ e q) (r := 1) ?_ (fun s hf hM hN hP => ?_) ((h.rw.mono (by omega)).put hT he hq)
        · unfold f_X11_throwIn
          refine Ok.t tk (Ok.cle ec (Ok.f (by decide) (Ok.cle (e_isUp (by omega)) ?_)))
          rw [u1, if_neg (show ¬ upR ρ e = true from fun h => cu (of_decide_eq_true h))]
          refine Ok.t rfl (Ok.cle e_isHeight (Ok.f (fun e => if10.mp e cy) (Ok.cv (q_keep h) (fun s1 h1 => Ok.cve (e_putUp (by omega)) (Ok.ret ⟨rfl, ?_, ?_, ?_⟩)))))
          · exact (h1.1.w hT he).l hT he
          · exact h1.2.1.air ((frm.rf.I (by unfold wAi; simp)).I (by unfold wAi; simp))
          · exact ((h1.2.2.sub kp_wSc).I rfl).I rfl
        · unfold f_X12_throwIn
          have em2 : f_X12_isThing (nI e) s = _ := e_isThing (x := nI e) hM.lv
          rw [if_pos c] at em2
          refine Ok.cle em2 (Ok.f (by decide) ?_)
          rw [nIt (n := e) (by omega), Int.toNat_natCast, hN e (by omega)]
          refine Ok.t (by omega) (Ok.f cu (Ok.cle e_in (Ok.f (fun e => if10.mp e cy) (Ok.cv (w_copies hM hN) (fun s1 h1 => Ok.t (by omega) (Ok.bd ?_))))))
          rw [n7_add, nIt (n := 7 + e) (by omega), Int.toNat_natCast]
          refine Ok.t (by omega) (Ok.bd ?_)
          have f1 := h1.2.2.2.sub cp_wQ
          have F : frm wQ wl0 s (hI (hI s1 267 e 0) 267 (7 + e) (nI q)) := (f1.I rfl).I rfl
          refine Ok.cv (w_records (ρ' := putR ρ e q) (hP.fr F (fun _ => rfl) rfl) (hN.fr F (fun _ => rfl)) (h1.1.w.w)) (fun s3 h3 => Ok.ret ⟨rfl, h3.2.1, h3.1, (F.sub q_wSm).tr (h3.2.2.sub rs_wSm)⟩)
      · have ey : f_X11_isHeight y σ = some (0, σ) := by rw [e_isHeight, if_neg cy]
        have ey2 : f_X12_in y 0 9 σ = some (0, σ) := by rw [e_in]; exact congrArg (fun v => some (v, σ)) (if_neg cy)
        refine no ?_ ?_
        · unfold f_X11_throwIn
          rw [if_pos tk, ec]
          simp only [Cl]
          rw [if_neg (show ¬ (1 : Int32).toInt = 0 by decide), e_isUp (by omega), u1, if_neg (show ¬ upR ρ e = true from fun h => cu (of_decide_eq_true h))]
          simp only [Cl]
          rw [if_pos i0_eq, ey]
          rfl
        · unfold f_X12_throwIn
          rw [em]
          simp only [Cl]
          rw [if_neg (show ¬ (1 : Int32).toInt = 0 by decide), nIt (n := e) (by omega), if_pos (show 0 ≤ (e : Int) ∧ (e : Int) < 29 by omega), Int.toNat_natCast, h.nw e (by omega), if_neg cu, ey2]
          rfl
  · rw [if_neg c] at ec em
    refine no ?_ ?_
    · unfold f_X11_throwIn
      rw [if_pos tk, ec]
      rfl
    · unfold f_X12_throwIn
      rw [em]
      rfl)
end GOON
/-! calls that go on, further -/
section GOON2
variable {σ s s2 : HS} {n t u sd k nx m T k' nx' m' : Nat} {ρ ρ' : Nat → Int32} {d : DAT} {b : Int} {H H' G G' : Nat → Nat → Int32} {tb9 : Nat → Nat} {x y z : Int32}
theorem RELx.no (h : RELx n d t u sd ρ k nx H m tb9 G σ) {fc fm : HS → Option (Int32 × HS)} {r : Int32} (e1 : fc σ = some (r, σ)) (e2 : fm σ = some (r, σ)) : ∃ r s s2, fc σ = some (r, s) ∧ fm s = some (r, s2) ∧ REL (n + 1) s2 := ⟨r, σ, σ, e1, e2, h.same⟩
theorem tk0 (h : RELx n d t u sd ρ k nx H m tb9 G σ) : (σ.2.2 0) = 30 ∨ (σ.2.2 0) = 43 := by rw [h.t0]; exact h.tk
theorem sim_use : SIM n (f_X11_use x) (f_X12_use x) := sim_gen (fun d t u sd ρ k nx H m tb G σ h => by
  have hT := h.tc.T7
  have hP := h.tc.2.1.2.1
  have L := h.tm.lv
  have ec : f_X10_hasPattern (σ.2.2 0) x σ = _ := e_hasPattern (x := x) (by rw [h.t0]; exact h.tc.2.1.1) hP
  have em : ∀ s, TM sd d s → f_X12_isPattern x s = _ := fun s M => e_isPattern (x := x) M.lv M.2.2.2.1.1 hP
  by_cases c : 0 ≤ x.toInt ∧ x.toInt < d.1.2.1
  · obtain ⟨p, hp, rfl⟩ := in_T c (by omega)
    rw [if_pos c] at ec
    refine h.kept (ρ' := useR ρ p) (r := 1) ?_ (fun s hf hM hN hP9 => ?_) ((h.rw.mono (by omega)).use hp hT hP)
    · unfold f_X11_use
      refine Ok.t (tk0 h) (Ok.cle ec (Ok.f (by decide) (Ok.cv (q_keep h) (fun s1 h1 => Ok.cve e_takeUp (Ok.ret ⟨rfl, h1.1.use hT (by omega), ?_, ?_⟩)))))
      · exact h1.2.1.air ((frm.rf.I (by unfold wAi; simp)).I (by unfold wAi; simp))
      · exact ((h1.2.2.sub kp_wSc).I rfl).I rfl
    · unfold f_X12_use
      have em2 := em s hM
      rw [if_pos c] at em2
      refine Ok.cle em2 (Ok.f (by decide) (Ok.cv (w_copies hM hN) (fun s1 h1 => ?_)))
      have f1 := h1.2.2.2.sub cp_wQ
      have F : frm wQ wl0 s (hI (hI s1 267 26 (nI p)) 267 27 (s1.1 267 21)) := (f1.I rfl).I rfl
      have e : f_X12_uses (nI p) s1 = some (hI (hI s1 267 26 (nI p)) 267 27 (s1.1 267 21)) := by
        unfold f_X12_uses
        simp only [Bd]
        rw [rI_k (by decide)]
      have R2 : RRm (useR ρ p) (hI (hI s1 267 26 (nI p)) 267 27 (s1.1 267 21)) := by
        rw [h1.1 21 (by decide)]; exact h1.1.w.w
      exact Ok.cve e (Ok.cv (w_records (hP9.fr F (fun _ => rfl) rfl) (hN.fr F (fun _ => rfl)) R2) (fun s3 h3 => Ok.ret ⟨rfl, h3.2.1, h3.1, (F.sub q_wSm).tr (h3.2.2.sub rs_wSm)⟩))
  · have em1 := em σ h.tm
    rw [if_neg c] at ec em1
    refine h.no (r := 0) ?_ ?_
    · unfold f_X11_use
      rw [if_pos (tk0 h), ec]
      rfl
    · unfold f_X12_use
      rw [em1]
      rfl)
theorem RW.set (h : RW d b ρ) (hT : d.1.1.1 ≤ 7) (hx : 0 ≤ x.toInt ∧ x.toInt ≤ 9) : RW d b (upF ρ 28 x) := by
  obtain ⟨w1, w2, w3, w4, w5, w6⟩ := h
  refine ⟨fun j hj => ?_, ?_, ?_, ?_, ?_, ?_⟩
  · rw [upF_n (by omega), upF_n (by omega)]; exact w1 j hj
  · rw [upF_n (by decide)]; exact w2
  · rw [upF_n (by decide), upF_n (by decide)]; exact w3
  · rw [upF_n (by decide)]; exact w4
  · rw [upF_s]; omega
  · rw [upF_n (by decide)]; exact w6
theorem sim_set : SIM n (f_X11_set x) (f_X12_set x) := sim_gen (fun d t u sd ρ k nx H m tb G σ h => by
  have hT := h.tc.T7
  have ein : ∀ s, f_X12_in x 0 9 s = some (if 0 ≤ x.toInt ∧ x.toInt ≤ 9 then 1 else 0, s) := fun s => e_in
  by_cases c : 0 ≤ x.toInt ∧ x.toInt ≤ 9
  · have e11 : σ.1 56 11 = ρ 28 := h.ar.2.2.2.2.2
    by_cases c2 : (ρ 28).toInt = x.toInt
    · refine h.no (r := 0) ?_ ?_
      · unfold f_X11_set
        rw [e_isHeight, if_pos c]
        simp only [Cl]
        rw [if_neg (show ¬ (1 : Int32).toInt = 0 by decide), e11, if_pos c2]
      · unfold f_X12_set
        rw [ein, if_pos c]
        simp only [Cl]
        rw [if_neg (show ¬ (1 : Int32).toInt = 0 by decide), h.nw 28 (by decide), if_pos c2]
    · refine h.kept (ρ' := upF ρ 28 x) (r := 1) ?_ (fun s hf hM hN hP9 => ?_) ((h.rw.mono (by omega)).set hT c)
      · unfold f_X11_set
        refine Ok.cle e_isHeight (Ok.f (fun e => if10.mp e c) (Ok.f (by rw [e11]; exact c2) (Ok.cv (q_keep h) (fun s1 h1 => Ok.bd (Ok.ret ⟨rfl, h1.1.h hT, ?_, ?_⟩)))))
        · exact h1.2.1.air (frm.rf.I (by unfold wAi; simp))
        · exact (h1.2.2.sub kp_wSc).I rfl
      · unfold f_X12_set
        refine Ok.cle (ein s) (Ok.f (fun e => if10.mp e c) (Ok.f (by rw [hN 28 (by decide)]; exact c2) (Ok.cv (w_copies hM hN) (fun s1 h1 => Ok.bd ?_))))
        have F : frm wQ wl0 s (hI s1 267 28 x) := (h1.2.2.2.sub cp_wQ).I rfl
        exact Ok.cv (w_records (hP9.fr F (fun _ => rfl) rfl) (hN.fr F (fun _ => rfl)) h1.1.w) (fun s3 h3 => Ok.ret ⟨rfl, h3.2.1, h3.1, (F.sub q_wSm).tr (h3.2.2.sub rs_wSm)⟩)
  · refine h.no (r := 0) ?_ ?_
    · unfold f_X11_set
      rw [e_isHeight, if_neg c]
      rfl
    · unfold f_X12_set
      rw [ein, if_neg c]
      rfl)
theorem sim_beats (hn : n ≤ 512) : SIM n (f_X11_beats x) (f_X12_beats x) := sim_gen (fun d t u sd ρ k nx H m tb G σ h => by
  have hT := h.tc.T7
  have e4 : σ.1 56 4 = ρ 21 := h.ar.2.2.1 4 (by decide) (by decide)
  by_cases c : 0 ≤ x.toInt ∧ x.toInt ≤ 60
  · obtain ⟨q, hq, rfl⟩ : ∃ q : Nat, q ≤ 60 ∧ x = nI q := ⟨x.toInt.toNat, by omega, nI_tn c.1 (by omega)⟩
    by_cases c0 : q = 0
    · subst c0
      refine h.no (r := ρ 21) ?_ ?_
      · unfold f_X11_beats f_X11_beats_50
        rw [if_neg (by decide), if_neg (by decide), if_neg (by decide), e4]
      · unfold f_X12_beats
        rw [e_isLong, if_pos c]
        simp only [Cl]
        rw [if_neg (show ¬ (1 : Int32).toInt = 0 by decide), if_pos (show (nI 0).toInt = 0 from rfl), h.nw 21 (by decide)]
    · have hR : RW d (60 * (n : Int) + q) (itS d (some (seeI d)) q ρ) := RW.it h.ok h.tc.ln (by omega) h.rw
      refine h.kept (ρ' := itS d (some (seeI d)) q ρ) (r := itS d (some (seeI d)) q ρ 21) ?_ (fun s hf hM hN hP9 => ?_) (hR.mono (by omega))
      · unfold f_X11_beats f_X11_beats_50
        rw [nIt (n := q) (by omega)]
        refine Ok.f (by omega) (Ok.f (by omega) (Ok.t (by omega) (Ok.cv (q_keep h) (fun s1 h1 => ?_))))
        have h1t : s1.2.2 0 = t := by rw [h1.2.2.2.2]; exact h.t0
        have C1 : TC t d s1 := h.tc.fr h1.2.2 (fun i k x y => wKp_no (by rcases h.tk with rfl | rfl <;> omega))
        have sc : s1.1 t 11 = seeI d := ofI C1.2.2.1.2
        have g := w_goOn (b := 60 * (n : Int)) C1 h.ok h.tk (show aAi 56 by unfold aAi; omega) (SDr.see0 h.ok) (n := q) (by omega) h1.1 h.rw (by omega)
        rw [h1t, sc]
        refine Ok.t h.tk (Ok.t h.tk (Ok.cv g (fun s3 h3 => Ok.ret ⟨h3.1.2.2.1 4 (by decide) (by decide), h3.1, ?_, (h1.2.2.sub kp_wSc).tr (h3.2.sub bt_wSc)⟩)))
        exact h1.2.1.fr h3.2 (fun i k x y => by unfold wBt wAi; simp; omega) (fun _ => rfl)
      · unfold f_X12_beats
        refine Ok.cle e_isLong (Ok.f (fun e => if10.mp e c) ?_)
        rw [nIt (n := q) (by omega)]
        refine Ok.f (by omega) (Ok.cv (w_copies hM hN) (fun s1 h1 => ?_))
        have f1 := h1.2.2.2.sub cp_wQ
        have M1 : TM sd d s1 := hM.fr f1 rfl (fun i k x y => wQ_no (by omega))
        refine Ok.cv (w_goes (b := 60 * (n : Int)) M1 h.ok h.tc.ln (n := q) (by omega) h1.1 h.rw (by omega) h1.2.1) (fun s2 h2 => ?_)
        have F : frm wQ wl0 s s2 := f1.tr (h2.2.sub bm_wQ)
        exact Ok.cv (w_records (hP9.fr F (fun _ => rfl) rfl) (hN.fr F (fun _ => rfl)) h2.1) (fun s3 h3 => Ok.ret ⟨h3.2.1 21 (by decide), h3.2.1, h3.1, (F.sub q_wSm).tr (h3.2.2.sub rs_wSm)⟩)
  · refine h.no (r := -1) ?_ ?_
    · unfold f_X11_beats
      by_cases c1 : x.toInt < 0
      · rw [if_pos c1]
      · rw [if_neg c1, if_pos (show 60 < x.toInt by omega)]
    · unfold f_X12_beats
      rw [e_isLong, if_neg c]
      rfl)
end GOON2
/-! undone, held, restored, told, fed -/
section GOON3
variable {σ s s2 : HS} {n t u sd k nx m T k' nx' m' : Nat} {ρ ρ' : Nat → Int32} {d : DAT} {b : Int} {H H' G G' : Nat → Nat → Int32} {tb9 : Nat → Nat} {x y z x1 x2 x3 x4 x5 : Int32}
theorem AR.c12 {a k : Nat} {v : Int32} (h : AR a T ρ s) (ha : 12 < a) : AR a T ρ (hI s 12 k v) := h.fr (wl := wl0) (frm.rf.I (w := fun a _ => a == 12) rfl) (fun i k x y => by simp; omega)
/-- both sides gone on, the class first -/
theorem RELx.both (h : RELx n d t u sd ρ k nx H m tb9 G σ) {fc fm : HS → Option (Int32 × HS)} {r : Int32} (hc : Ok (fc σ) (fun r1 s => r1 = r ∧ AR 56 d.1.1.1 ρ' s ∧ PSc d k' nx' H' s ∧ frm wSc wl0 σ s)) (hm : ∀ s, frm wSc wl0 σ s → NWm ρ s → PSm k H s → Ok (fm s) (fun r2 s2 => r2 = r ∧ NWm ρ' s2 ∧ PSm k' H' s2 ∧ frm wSm wl0 s s2)) (hW : RW d (60 * ((n + 1 : Nat) : Int)) ρ') (hH : ∀ j, j < k' → RW d (60 * ((n + 1 : Nat) : Int)) (H' j)) : ∃ r s s2, fc σ = some (r, s) ∧ fm s = some (r, s2) ∧ REL (n + 1) s2 := by
  obtain ⟨r1, s, e1, rfl, a1, a2, a3⟩ := hc
  obtain ⟨r2, s2, e2, rfl, b1, b2, b3⟩ := hm s a3 (h.nw.fr a3 (fun _ => rfl)) (h.2.2.2.1.mm.fr a3 (fun _ => rfl) rfl)
  exact ⟨r2, s, s2, e1, e2, d, t, u, sd, ρ', k', nx', H', m, tb9, G, h.done a3 b3 a1 a2 b1 b2 hW hH⟩
theorem sim_undo : SIM n f_X11_undo f_X12_undo := sim_gen (fun d t u sd ρ k nx H m tb G σ h => by
  have hT := h.tc.T7
  obtain ⟨p1, p2, p3, p4, p5⟩ := h.2.2.2.1.c
  have pm := h.2.2.2.1.mm
  by_cases c : k = 0
  · subst c
    refine h.no (r := 0) ?_ ?_
    · unfold f_X11_undo f_X5_giveBack
      rw [p3, if_pos (show (nI 0).toInt = 0 from rfl)]
      rfl
    · unfold f_X12_undo
      rw [pm.1, if_pos (show (nI 0).toInt = 0 from rfl)]
  · obtain ⟨k, rfl⟩ : ∃ q, k = q + 1 := ⟨k - 1, by omega⟩
    have hm40 : (nx + 39) % 40 < 40 := Nat.mod_lt _ (by decide)
    refine h.both (ρ' := H k) (k' := k) (nx' := (nx + 39) % 40) (H' := H) (r := 1) ?_ (fun s hf hN hP => ?_) ((h.2.2.2.1.w k (by omega)).mono (by omega)) (fun j hj => (h.2.2.2.1.w j (by omega)).mono (by omega))
    · unfold f_X11_undo f_X5_giveBack
      rw [p3, p1, nIt (n := k + 1) (by omega), show nI nx + (40 : Int32) - (1 : Int32) = nI (nx + 39) by rw [show (40 : Int32) = nI 40 from rfl, nI_add, show (1 : Int32) = nI 1 from rfl, nI_sub (by omega) (by omega)]; exact congrArg nI (by omega), rem40 (by omega)]
      generalize hs1 : hI σ 12 1 (nI ((nx + 39) % 40)) = s1
      have F1 : frm (fun a k => a == 12 && k == 1) wl0 σ s1 := by rw [← hs1]; exact frm.rf.I rfl
      have e1 : s1.1 12 1 = nI ((nx + 39) % 40) := by rw [← hs1, rI_s]
      have A1 : AR (76 + 4 * ((nx + 39) % 40)) d.1.1.1 (H k) s1 := by
        have := p5 k (by omega)
        rw [show (nx + 40 + k - (k + 1)) % 40 = (nx + 39) % 40 by omega] at this
        exact this.fr F1 (fun i k x y => by simp; omega)
      refine Ok.cl (P := fun r s => r = 1 ∧ AR 56 d.1.1.1 (H k) s ∧ PSc d k ((nx + 39) % 40) H s ∧ frm wSc wl0 σ s) (Ok.f (by omega) (Ok.bd ?_)) (fun r s hs => ?_)
      · rw [e1, nIt (n := (nx + 39) % 40) (by omega), Int.toNat_natCast]
        refine Ok.t (by omega) (Ok.cv (w_copy (a := 56) A1 hT (by omega)) (fun s3 h3 => Ok.bd ?_))
        have e2 : s3.1 12 2 = nI (k + 1) := by rw [h3.2.1 12 2 rfl, ← hs1, rI_k (by decide)]; exact p3
        have e3 : s3.1 12 1 = nI ((nx + 39) % 40) := by rw [h3.2.1 12 1 rfl, e1]
        rw [e2, nI_mm (by omega)]
        have F3 : frm wSc wl0 σ (hI s3 12 2 (nI k)) := ((F1.sub (fun i k h => by
          have : i = 12 ∧ k = 1 := by simpa using h
          obtain ⟨rfl, rfl⟩ := this
          rfl)).tr (h3.2.sub ai_wSc)).I rfl
        refine Ok.ret ⟨rfl, ?_, ⟨?_, hm40, rI_s, by omega, fun j hj => ?_⟩, F3⟩
        · exact h3.1.c12 (by decide)
        · rw [rI_k (by decide)]; exact e3
        · have := p5 j (by omega)
          have hm2 : (nx + 40 + j - (k + 1)) % 40 < 40 := Nat.mod_lt _ (by decide)
          rw [show ((nx + 39) % 40 + 40 + j - k) % 40 = (nx + 40 + j - (k + 1)) % 40 by omega]
          exact ((this.fr F1 (fun i k x y => by simp; omega)).fr h3.2 (fun i k x y => wAi_no (by omega))).c12 (by omega)
      · obtain ⟨rfl, hs⟩ := hs
        exact Ok.t (by decide) (Ok.ret ⟨rfl, hs⟩)
    · unfold f_X12_undo
      rw [hP.1, nIt (n := k + 1) (by omega), nI_mm (by omega)]
      refine Ok.f (by omega) (Ok.bd ?_)
      have loop : ∀ (dd i N : Nat) (s1 : HS), i + dd = 29 → dd < N → frm wRs wl0 s s1 → s1.1 236 54 = nI k → (∀ j, s1.1 268 j = s.1 268 j) → (∀ j, j < i → s1.1 266 j = H k j) → Ok (f_X12_undo_21 N (nI i) s1) (fun r2 s2 => r2 = 1 ∧ NWm (H k) s2 ∧ PSm k H s2 ∧ frm wSm wl0 s s2) := by
        intro dd
        induction dd with
        | zero =>
          intro i N s1 hi hF h1 h2 h3 h4
          obtain ⟨N, rfl⟩ : ∃ q, N = q + 1 := ⟨N - 1, by omega⟩
          obtain rfl : i = 29 := by omega
          show Ok (b_X12_undo_21 (f_X12_undo_21 N) (nI 29) s1) _
          unfold b_X12_undo_21
          exact Ok.f (by decide) (Ok.ret ⟨rfl, h4, ⟨h2, by omega, fun j hj i hi => by rw [h3]; exact hP.2.2 j (by omega) i hi⟩, h1.sub rs_wSm⟩)
        | succ dd ih =>
          intro i N s1 hi hF h1 h2 h3 h4
          obtain ⟨N, rfl⟩ : ∃ q, N = q + 1 := ⟨N - 1, by omega⟩
          show Ok (b_X12_undo_21 (f_X12_undo_21 N) (nI i) s1) _
          unfold b_X12_undo_21
          rw [h2, nI_29 (by omega), nI_add, nIt (n := i) (by omega), nIt (n := 29 * k + i) (by omega), Int.toNat_natCast, Int.toNat_natCast, h3, hP.2.2 k (by omega) i (by omega)]
          refine Ok.t (by omega) (Ok.t (by omega) (Ok.t (by omega) (Ok.bd (Ok.bd ?_))))
          rw [nI_1]
          refine ih (i + 1) N _ (by omega) (by omega) (h1.I rfl) (by rw [rI_i (by decide)]; exact h2) (fun j => by rw [rI_i (by decide)]; exact h3 j) (fun j hj => ?_)
          by_cases c : j = i
          · rw [c, rI_s]
          · rw [rI_k (by omega)]; exact h4 j (by omega)
      exact loop 29 0 5000 _ (by omega) (by omega) (frm.rf.I rfl) rI_s (fun j => by rw [rI_i (by decide)]) (fun j hj => absurd hj (by omega)))
theorem sim_restore : SIM n (f_X11_restore x) (f_X12_restore x) := sim_gen (fun d t u sd ρ k nx H m tb G σ h => by
  have hT := h.tc.T7
  have ein : ∀ s, f_X12_in x 0 2 s = some (if 0 ≤ x.toInt ∧ x.toInt ≤ 2 then 1 else 0, s) := fun s => e_in
  by_cases c : 0 ≤ x.toInt ∧ x.toInt ≤ 2
  · obtain ⟨q, hq, rfl⟩ : ∃ q : Nat, q ≤ 2 ∧ x = nI q := ⟨x.toInt.toNat, by omega, nI_tn c.1 (by omega)⟩
    obtain ⟨⟨g1, g2⟩, g3⟩ := h.2.2.2.2.2 q (by omega)
    rcases g2 with g2 | g2
    · refine h.no (r := 0) ?_ ?_
      · unfold f_X11_restore
        rw [nIt (n := q) (by omega), if_neg (by omega), if_pos (show (q : Int) < 3 by omega), if_pos (show 0 ≤ (q : Int) ∧ (q : Int) < 3 by omega), Int.toNat_natCast, g1, g2, if_pos i0_eq]
      · unfold f_X12_restore
        rw [ein, if_pos c]
        simp only [Cl]
        rw [if_neg (show ¬ (1 : Int32).toInt = 0 by decide), nIt (n := q) (by omega), if_pos (show 0 ≤ (q : Int) ∧ (q : Int) < 3 by omega), Int.toNat_natCast, g2, if_pos i0_eq]
    · obtain ⟨A, B, W⟩ := g3 g2
      refine h.both (ρ' := G q) (k' := 0) (nx' := nx) (H' := H) (r := 1) ?_ (fun s hf hN hP => ?_) (W.mono (by omega)) (fun j hj => absurd hj (by omega))
      · unfold f_X11_restore f_X5_clear
        rw [nIt (n := q) (by omega), Int.toNat_natCast, g1, g2]
        refine Ok.f (by omega) (Ok.t (by omega) (Ok.t (by omega) (Ok.f (by decide) (Ok.t (by omega) (Ok.cv (w_copy (a := 56) A hT (by omega)) (fun s1 h1 => Ok.cv (P := fun s2 => s2 = hI s1 12 2 0) (Okv.bd (Okv.ret rfl)) (fun s2 h2 => ?_)))))))
        subst h2
        refine Ok.ret ⟨rfl, h1.1.c12 (by decide), ⟨?_, h.2.2.2.1.2.1, rI_s, by decide, fun j hj => absurd hj (by omega)⟩, (h1.2.sub ai_wSc).I rfl⟩
        rw [rI_k (by decide), h1.2.1 12 1 rfl]; exact h.2.2.2.1.1
      · unfold f_X12_restore
        have e275 : s.1 275 q = 1 := by rw [hf.1 275 q rfl]; exact g2
        refine Ok.cle (ein s) (Ok.f (fun e => if10.mp e c) ?_)
        rw [nIt (n := q) (by omega), Int.toNat_natCast, e275]
        refine Ok.t (by omega) (Ok.f (by decide) ?_)
        have B2 : ∀ i, i < 29 → s.1 276 (29 * q + i) = G q i := fun i hi => by rw [hf.1 276 _ rfl]; exact B i hi
        have loop : ∀ (dd i N : Nat) (s1 : HS), i + dd = 29 → dd < N → frm wRs wl0 s s1 → (∀ j, j < i → s1.1 266 j = G q j) → Ok (f_X12_restore_22 N (nI q) (nI i) s1) (fun r2 s2 => r2 = 1 ∧ NWm (G q) s2 ∧ PSm 0 H s2 ∧ frm wSm wl0 s s2) := by
          intro dd
          induction dd with
          | zero =>
            intro i N s1 hi hF h1 h4
            obtain ⟨N, rfl⟩ : ∃ q, N = q + 1 := ⟨N - 1, by omega⟩
            obtain rfl : i = 29 := by omega
            show Ok (b_X12_restore_22 (f_X12_restore_22 N) (nI q) (nI 29) s1) _
            unfold b_X12_restore_22
            exact Ok.f (by decide) (Ok.bd (Ok.ret ⟨rfl, fun i hi => by rw [rI_i (by decide)]; exact h4 i hi, ⟨rI_s, by decide, fun j hj => absurd hj (by omega)⟩, ((h1.I rfl).sub rs_wSm)⟩))
          | succ dd ih =>
            intro i N s1 hi hF h1 h4
            obtain ⟨N, rfl⟩ : ∃ q, N = q + 1 := ⟨N - 1, by omega⟩
            show Ok (b_X12_restore_22 (f_X12_restore_22 N) (nI q) (nI i) s1) _
            unfold b_X12_restore_22
            rw [nI_29 (by omega), nI_add, nIt (n := i) (by omega), nIt (n := 29 * q + i) (by omega), Int.toNat_natCast, Int.toNat_natCast, h1.1 276 _ rfl, B2 i (by omega)]
            refine Ok.t (by omega) (Ok.t (by omega) (Ok.t (by omega) (Ok.bd (Ok.bd ?_))))
            rw [nI_1]
            refine ih (i + 1) N _ (by omega) (by omega) (h1.I rfl) (fun j hj => ?_)
            by_cases c : j = i
            · rw [c, rI_s]
            · rw [rI_k (by omega)]; exact h4 j (by omega)
        exact loop 29 0 5000 _ (by omega) (by omega) frm.rf (fun j hj => absurd hj (by omega))
  · refine h.no (r := 0) ?_ ?_
    · unfold f_X11_restore
      by_cases c1 : x.toInt < 0
      · rw [if_pos c1]
      · rw [if_neg c1, if_neg (show ¬ x.toInt < 3 by omega)]
    · unfold f_X12_restore
      rw [ein, if_neg c]
      rfl)
end GOON3
/-! held, told, forgotten, fed -/
section GOON4
variable {σ s s2 : HS} {n t u sd k nx m T k' nx' m' : Nat} {ρ ρ' : Nat → Int32} {d : DAT} {b : Int} {H H' G G' : Nat → Nat → Int32} {tb9 : Nat → Nat} {x y z x1 x2 x3 x4 x5 : Int32}
def wHc (q a k : Nat) : Bool := wAi (64 + 4 * q) a k || (a == 26 && k == q)
def wHm (a _k : Nat) : Bool := a == 275 || a == 276
theorem wHc_no {q a k : Nat} (hq : q ≤ 2) (h : a < 26 ∨ 26 < a ∧ a < 64 ∨ 75 < a) : wHc q a k = false := by
  unfold wHc
  rw [wAi_no (by omega), Bool.false_or, Bool.and_eq_false_iff, beq_eq_false_iff_ne]
  omega
theorem wHm_no {a k : Nat} (h : a < 275 ∨ 276 < a) : wHm a k = false := by
  unfold wHm
  rw [Bool.or_eq_false_iff, beq_eq_false_iff_ne, beq_eq_false_iff_ne]
  omega
theorem sim_hold : SIM n (f_X11_hold x) (f_X12_hold x) := sim_gen (fun d t u sd ρ k nx H m tb G σ h => by
  have hT := h.tc.T7
  have ein : ∀ s, f_X12_in x 0 2 s = some (if 0 ≤ x.toInt ∧ x.toInt ≤ 2 then 1 else 0, s) := fun s => e_in
  by_cases c : 0 ≤ x.toInt ∧ x.toInt ≤ 2
  · obtain ⟨q, hq, rfl⟩ : ∃ q : Nat, q ≤ 2 ∧ x = nI q := ⟨x.toInt.toNat, by omega, nI_tn c.1 (by omega)⟩
    have hc : Ok (f_X11_hold (nI q) σ) (fun r s => r = 1 ∧ AR (64 + 4 * q) d.1.1.1 ρ s ∧ s.1 26 q = 1 ∧ frm (wHc q) wl0 σ s) := by
      unfold f_X11_hold
      rw [nIt (n := q) (by omega), Int.toNat_natCast]
      refine Ok.f (by omega) (Ok.t (by omega) (Ok.t (by omega) (Ok.cv (w_copy (a := 64 + 4 * q) h.ar hT (by omega)) (fun s1 h1 => Ok.t (by omega) (Ok.bd (Ok.ret ⟨rfl, ?_, rI_s, ?_⟩))))))
      · exact h1.1.fr (wl := wl0) (frm.rf.I (w := fun a _ => a == 26) rfl) (fun i k x y => by simp; omega)
      · exact (h1.2.sub (fun i k h => by unfold wHc; rw [h]; rfl)).I (by unfold wHc; simp)
    obtain ⟨r1, s, e1, rfl, A, h26, fc⟩ := hc
    have hm : Ok (f_X12_hold (nI q) s) (fun r s2 => r = 1 ∧ s2.1 275 q = 1 ∧ (∀ i, i < 29 → s2.1 276 (29 * q + i) = ρ i) ∧ (∀ i, i ≠ q → s2.1 275 i = s.1 275 i) ∧ (∀ i, (i < 29 * q ∨ 29 * q + 29 ≤ i) → s2.1 276 i = s.1 276 i) ∧ frm wHm wl0 s s2) := by
      unfold f_X12_hold
      refine Ok.cle (ein s) (Ok.f (fun e => if10.mp e c) ?_)
      rw [nIt (n := q) (by omega), Int.toNat_natCast]
      refine Ok.t (by omega) (Ok.bd ?_)
      have N : NWm ρ s := h.nw.fr fc (fun k => wHc_no hq (by omega))
      have loop : ∀ (dd i N : Nat) (s1 : HS), i + dd = 29 → dd < N → frm wHm wl0 s s1 → s1.1 275 q = 1 → (∀ j, j < i → s1.1 276 (29 * q + j) = ρ j) → (∀ i, i ≠ q → s1.1 275 i = s.1 275 i) → (∀ i, (i < 29 * q ∨ 29 * q + 29 ≤ i) → s1.1 276 i = s.1 276 i) → Ok (f_X12_hold_20 N (nI q) (nI i) s1) (fun r s2 => r = 1 ∧ s2.1 275 q = 1 ∧ (∀ i, i < 29 → s2.1 276 (29 * q + i) = ρ i) ∧ (∀ i, i ≠ q → s2.1 275 i = s.1 275 i) ∧ (∀ i, (i < 29 * q ∨ 29 * q + 29 ≤ i) → s2.1 276 i = s.1 276 i) ∧ frm wHm wl0 s s2) := by
        intro dd
        induction dd with
        | zero =>
          intro i N s1 hi hF h1 h2 h3 h4 h5
          obtain ⟨N, rfl⟩ : ∃ q, N = q + 1 := ⟨N - 1, by omega⟩
          obtain rfl : i = 29 := by omega
          show Ok (b_X12_hold_20 (f_X12_hold_20 N) (nI q) (nI 29) s1) _
          unfold b_X12_hold_20
          exact Ok.f (by decide) (Ok.ret ⟨rfl, h2, h3, h4, h5, h1⟩)
        | succ dd ih =>
          intro i N' s1 hi hF h1 h2 h3 h4 h5
          obtain ⟨N', rfl⟩ : ∃ q, N' = q + 1 := ⟨N' - 1, by omega⟩
          show Ok (b_X12_hold_20 (f_X12_hold_20 N') (nI q) (nI i) s1) _
          unfold b_X12_hold_20
          rw [nI_29 (by omega), nI_add, nIt (n := i) (by omega), nIt (n := 29 * q + i) (by omega), Int.toNat_natCast, Int.toNat_natCast, h1.1 266 _ rfl, N i (by omega)]
          refine Ok.t (by omega) (Ok.t (by omega) (Ok.t (by omega) (Ok.bd (Ok.bd ?_))))
          rw [nI_1]
          refine ih (i + 1) N' _ (by omega) (by omega) (h1.I rfl) (by rw [rI_i (by decide)]; exact h2) (fun j hj => ?_) (fun j hj => by rw [rI_i (by decide)]; exact h4 j hj) (fun j hj => by rw [rI_k (by omega)]; exact h5 j hj)
          by_cases c : j = i
          · rw [c, rI_s]
          · rw [rI_k (by omega)]; exact h3 j (by omega)
      exact loop 29 0 5000 _ (by omega) (by omega) (frm.rf.I rfl) rI_s (fun j hj => absurd hj (by omega)) (fun i hi => by rw [rI_k hi]) (fun i hi => by rw [rI_i (by decide)])
    obtain ⟨r2, s2, e2, rfl, b1, b2, b3, b4, fm⟩ := hm
    refine ⟨1, s, s2, e1, e2, d, t, u, sd, ρ, k, nx, H, m, tb, (fun j => if j = q then ρ else G j), ?_⟩
    obtain ⟨h1, h2, h3, h4, h5, h6⟩ := h.next
    have p2 : ∀ i k, 30 ≤ i → i ≤ 55 → wHc q i k = false := fun i k x y => wHc_no hq (by omega)
    have p3 : ∀ i k, 245 ≤ i → i ≤ 262 → wHc q i k = false := fun i k x y => wHc_no hq (by omega)
    refine ⟨(h1.fr fc (wHc_no hq (by omega)) (wHc_no hq (by omega)) (fun _ => wHc_no hq (by omega)) (fun _ => wHc_no hq (by omega)) (wHc_no hq (by omega)) (wHc_no hq (by omega))).fr fm rfl rfl (fun _ => rfl) (fun _ => rfl) rfl rfl, (h2.fr fc p2 (wHc_no hq (by omega)) p3).fr fm (fun i k x y => wHm_no (by omega)) rfl (fun i k x y => wHm_no (by omega)), (h3.fr fc (fun i k x y => wHc_no hq (by omega)) (fun k => wHc_no hq (by omega))).fr fm (fun i k x y => wHm_no (by omega)) (fun _ => rfl), (h4.fr fc (fun i k x y => wHc_no hq (by omega)) (fun k => wHc_no hq (by omega)) (fun k => wHc_no hq (by omega)) (wHc_no hq (by omega))).fr fm (fun i k x y => wHm_no (by omega)) (fun _ => rfl) (fun _ => rfl) rfl, (h5.fr fc (fun i k x y => wHc_no hq (by omega)) (fun i k x y => wHc_no hq (by omega)) (wHc_no hq (by omega))).fr fm (fun i k x y => wHm_no (by omega)) (fun i k x y => wHm_no (by omega)) rfl, fun j hj => ?_⟩
    have g := h6 j hj
    show (s2.1 26 j = s2.1 275 j ∧ (s2.1 275 j = 0 ∨ s2.1 275 j = 1)) ∧ (s2.1 275 j = 1 → AR (64 + 4 * j) d.1.1.1 (if j = q then ρ else G j) s2 ∧ (∀ i, i < 29 → s2.1 276 (29 * j + i) = (if j = q then ρ else G j) i) ∧ RW d _ (if j = q then ρ else G j))
    by_cases cj : j = q
    · subst cj
      rw [if_pos rfl, fm.1 26 j rfl, b1]
      exact ⟨⟨h26, Or.inr rfl⟩, fun _ => ⟨A.fr fm (fun i k x y => wHm_no (by omega)), b2, h3.2.2⟩⟩
    · rw [if_neg cj, fm.1 26 j rfl, b3 j cj, fc.1 275 j (wHc_no hq (by omega)), fc.1 26 j (by unfold wHc; rw [wAi_no (by omega), Bool.false_or, Bool.and_eq_false_iff, beq_eq_false_iff_ne, beq_eq_false_iff_ne]; omega)]
      refine ⟨g.1, fun e => ⟨((g.2 e).1.fr fc (fun i k x y => ?_)).fr fm (fun i k x y => wHm_no (by omega)), fun i hi => ?_, (g.2 e).2.2⟩⟩
      · unfold wHc
        rw [wAi_no (by omega), Bool.false_or, Bool.and_eq_false_iff, beq_eq_false_iff_ne]; omega
      · rw [b4 _ (by omega), fc.1 276 _ (wHc_no hq (by omega))]; exact (g.2 e).2.1 i hi
  · refine h.no (r := 0) ?_ ?_
    · unfold f_X11_hold
      by_cases c1 : x.toInt < 0
      · rw [if_pos c1]
      · rw [if_neg c1, if_neg (show ¬ x.toInt < 3 by omega)]
    · unfold f_X12_hold
      rw [ein, if_neg c]
      rfl)
def wTlC (a k : Nat) : Bool := (a == 14 && k == 2) || a == 15 || a == 16
def wTlM (a k : Nat) : Bool := (a == 236 && k == 60) || a == 272 || a == 273
theorem wTc_no {a k : Nat} (h : a < 14 ∨ 16 < a) : wTlC a k = false := by
  unfold wTlC
  simp only [Bool.or_eq_false_iff, Bool.and_eq_false_iff, beq_eq_false_iff_ne]
  omega
theorem wTm_no {a k : Nat} (h : a ≠ 236) (h2 : a < 272 ∨ 273 < a) : wTlM a k = false := by
  unfold wTlM
  simp only [Bool.or_eq_false_iff, Bool.and_eq_false_iff, beq_eq_false_iff_ne]
  omega
/-- what was told gone on, all else still -/
theorem RELx.told (h : RELx n d t u sd ρ k nx H m tb9 G σ) (fc : frm wTlC wl0 σ s) (fm : frm wTlM wl0 s s2) {tb' : Nat → Nat} (hH : HEA m' tb' s2) : REL (n + 1) s2 := by
  obtain ⟨h1, h2, h3, h4, h5, h6⟩ := h.next
  refine ⟨d, t, u, sd, ρ, k, nx, H, m', tb', G, (h1.fr fc rfl rfl (fun _ => rfl) (fun _ => rfl) rfl rfl).fr fm rfl rfl (fun _ => rfl) (fun _ => rfl) rfl rfl, (h2.fr fc (fun i k x y => wTc_no (by omega)) rfl (fun i k x y => wTc_no (by omega))).fr fm (fun i k x y => wTm_no (by omega) (by omega)) rfl (fun i k x y => wTm_no (by omega) (by omega)), (h3.fr fc (fun i k x y => wTc_no (by omega)) (fun _ => rfl)).fr fm (fun i k x y => wTm_no (by omega) (by omega)) (fun _ => rfl), (h4.fr fc (fun i k x y => wTc_no (by omega)) (fun _ => rfl) (fun _ => rfl) rfl).fr fm (fun i k x y => wTm_no (by omega) (by omega)) (fun _ => rfl) (fun _ => rfl) rfl, hH, (h6.fr fc (fun i k x y => wTc_no (by omega)) (fun i k x y => wTc_no (by omega)) (fun _ => rfl)).fr fm (fun i k x y => wTm_no (by omega) (by omega)) (fun i k x y => wTm_no (by omega) (by omega)) (fun _ => rfl)⟩
theorem sim_forget : SIM n f_X11_forget f_X12_forget := sim_gen (fun d t u sd ρ k nx H m tb G σ h => by
  obtain ⟨a1, a2, a3, a4⟩ := h.2.2.2.2.1
  have e : (hI σ 14 2 0).1 236 60 = nI m := by rw [rI_i (by decide)]; exact a3
  refine ⟨nI m, hI σ 14 2 0, hI (hI σ 14 2 0) 236 60 0, ?_, ?_, h.told (frm.rf.I rfl) (frm.rf.I rfl) (m' := 0) (tb' := tb) ⟨?_, by decide, rI_s, fun i hi => absurd hi (by omega)⟩⟩
  · unfold f_X11_forget
    simp only [Bd]
    rw [a1]
  · unfold f_X12_forget
    simp only [Bd]
    rw [e]
  · rw [rI_i (by decide)]; exact rI_s)
theorem sim_tell (hy : y = 0 ∨ y = 1) : SIM n (f_X11_tell x y) (f_X12_tell x y) := sim_gen (fun d t u sd ρ k nx H m tb G σ h => by
  obtain ⟨a1, a2, a3, a4⟩ := h.2.2.2.2.1
  have ein : ∀ s, f_X12_in x 0 40 s = some (if 0 ≤ x.toInt ∧ x.toInt ≤ 40 then 1 else 0, s) := fun s => e_in
  have hy2 : 0 ≤ y.toInt ∧ y.toInt ≤ 1 := by rcases hy with rfl | rfl <;> decide
  by_cases c : 0 ≤ x.toInt ∧ x.toInt ≤ 40
  · obtain ⟨q, hq, rfl⟩ : ∃ q : Nat, q ≤ 40 ∧ x = nI q := ⟨x.toInt.toNat, by omega, nI_tn c.1 (by omega)⟩
    by_cases cm : m = 20
    · subst cm
      refine h.no (r := -1) ?_ ?_
      · unfold f_X11_tell f_X2_add
        rw [if_neg (by omega), if_neg (by omega), a1, if_neg (by decide)]
        rfl
      · unfold f_X12_tell
        rw [a3, if_pos (show (nI 20).toInt = 20 from rfl)]
    · let s1 : HS := hI (hI (hI σ 15 m (nI q)) 16 m y) 14 2 (nI (m + 1))
      have fc : frm wTlC wl0 σ s1 := ((frm.rf.I rfl).I rfl).I rfl
      let s3 : HS := hI (hI (hI s1 272 m (nI q)) 273 m y) 236 60 (nI (m + 1))
      have fm : frm wTlM wl0 s1 s3 := ((frm.rf.I rfl).I rfl).I rfl
      have e3 : s1.1 236 60 = nI m := by rw [fc.1 236 60 rfl]; exact a3
      refine ⟨nI m, s1, s3, ?_, ?_, h.told fc fm (m' := m + 1) (tb' := fun i => if i = m then q else tb i) ⟨?_, by omega, rI_s, fun i hi => ?_⟩⟩
      · unfold f_X11_tell f_X2_add
        rw [if_neg (by omega), if_neg (by omega), a1, nIt (n := m) (by omega), if_pos (show (m : Int) < 20 by omega), if_pos (show 0 ≤ (m : Int) ∧ (m : Int) < 20 by omega), Int.toNat_natCast]
        simp only [Bd, Cl]
        rw [if_pos hy2, rI_i (show (14 : Nat) ≠ 15 by decide), a1, nIt (n := m) (by omega), if_pos (show 0 ≤ (m : Int) ∧ (m : Int) < 20 by omega), Int.toNat_natCast, rI_i (show (14 : Nat) ≠ 16 by decide), rI_i (show (14 : Nat) ≠ 15 by decide), a1, rI_s, nI_1, nI_mm (by omega)]
      · unfold f_X12_tell
        rw [e3, nIt (n := m) (by omega), if_neg (show ¬ (m : Int) = 20 by omega), ein, if_pos c]
        simp only [Bd, Cl]
        rw [if_neg (show ¬ (1 : Int32).toInt = 0 by decide), e3, nIt (n := m) (by omega), if_pos (show 0 ≤ (m : Int) ∧ (m : Int) < 20 by omega), Int.toNat_natCast, if_pos hy2, rI_i (show (236 : Nat) ≠ 272 by decide), e3, nIt (n := m) (by omega), if_pos (show 0 ≤ (m : Int) ∧ (m : Int) < 20 by omega), Int.toNat_natCast, rI_i (show (236 : Nat) ≠ 273 by decide), rI_i (show (236 : Nat) ≠ 272 by decide), e3, rI_s, nI_1, nI_mm (by omega)]
      · rw [fm.1 14 2 rfl]; exact rI_s
      · have e15 : s3.1 15 i = if i = m then nI q else σ.1 15 i := by
          rw [fm.1 15 i rfl]
          show (hI (hI (hI σ 15 m (nI q)) 16 m y) 14 2 (nI (m + 1))).1 15 i = _
          rw [rI_i (by decide), rI_i (by decide)]
          by_cases ci : i = m
          · rw [ci, rI_s, if_pos rfl]
          · rw [rI_k ci, if_neg ci]
        have e16 : s3.1 16 i = if i = m then y else σ.1 16 i := by
          rw [fm.1 16 i rfl]
          show (hI (hI (hI σ 15 m (nI q)) 16 m y) 14 2 (nI (m + 1))).1 16 i = _
          rw [rI_i (by decide)]
          by_cases ci : i = m
          · rw [ci, rI_s, if_pos rfl]
          · rw [rI_k ci, rI_i (by decide), if_neg ci]
        have e272 : s3.1 272 i = if i = m then nI q else σ.1 272 i := by
          show (hI (hI (hI s1 272 m (nI q)) 273 m y) 236 60 (nI (m + 1))).1 272 i = _
          rw [rI_i (by decide), rI_i (by decide)]
          by_cases ci : i = m
          · rw [ci, rI_s, if_pos rfl]
          · rw [rI_k ci, if_neg ci, fc.1 272 i rfl]
        have e273 : s3.1 273 i = if i = m then y else σ.1 273 i := by
          show (hI (hI (hI s1 272 m (nI q)) 273 m y) 236 60 (nI (m + 1))).1 273 i = _
          rw [rI_i (by decide)]
          by_cases ci : i = m
          · rw [ci, rI_s, if_pos rfl]
          · rw [rI_k ci, rI_i (by decide), if_neg ci, fc.1 273 i rfl]
        show s3.1 15 i = nI (if i = m then q else tb i) ∧ (if i = m then q else tb i) ≤ 40 ∧ s3.1 272 i = nI (if i = m then q else tb i) ∧ s3.1 16 i = s3.1 273 i ∧ (s3.1 273 i = 0 ∨ s3.1 273 i = 1)
        rw [e15, e16, e272, e273]
        by_cases ci : i = m
        · simp only [if_pos ci]
          exact ⟨trivial, hq, trivial, trivial, hy⟩
        · simp only [if_neg ci]
          exact a4 i (by omega)
  · refine ⟨-1, σ, σ, ?_, ?_, h.same⟩
    · unfold f_X11_tell
      by_cases c1 : x.toInt < 0
      · rw [if_pos c1]
      · rw [if_neg c1, if_pos (show 40 < x.toInt by omega)]
    · unfold f_X12_tell
      by_cases c1 : (σ.1 236 60).toInt = 20
      · rw [if_pos c1]
      · rw [if_neg c1, ein, if_neg c]
        rfl)
theorem a255 (z : Int32) : 0 ≤ (z &&& 255).toInt ∧ (z &&& 255).toInt ≤ 255 := by
  have h : (z &&& 255).toBitVec.toNat ≤ 255 := by rw [Int32.toBitVec_and, BitVec.toNat_and]; exact Nat.and_le_right
  have e : (z &&& 255).toInt = (z &&& 255).toBitVec.toInt := rfl
  rw [e, BitVec.toInt_eq_toNat_of_lt (by omega)]
  omega
def P255 (σ : HS) : Prop := ∀ k, 0 ≤ (σ.1 3 k).toInt ∧ (σ.1 3 k).toInt ≤ 255
theorem P255.bb (h : P255 σ) {j : Nat} {a c : Int32} : P255 (hI σ 3 j (gC1 a c)) := fun i => by
  by_cases e : i = j
  · rw [e, rI_s]; exact a255 _
  · rw [rI_k e]; exact h i
theorem P255.o (h : P255 σ) {j : Nat} {v : Int32} : P255 (hI σ 2 j v) := fun i => by rw [rI_i (by decide)]; exact h i
theorem P255.p4 (h : P255 σ) : P255 (put4 gC1 3 2 1 m x σ) := (((((((h.bb).o).bb).o).bb).o).bb).o
theorem P255.p20 (h : P255 σ) : P255 (put20 gC1 3 2 1 m x1 x2 x3 x4 x5 σ) := ((((h.p4).p4).p4).p4).p4
theorem BYT.cc (h : BYT σ) (hp : P255 σ) : CC σ := by
  obtain ⟨m, hm, h1, -, -⟩ := h
  exact ⟨by rw [h1, nIt (by omega)]; omega, hp⟩
theorem RELx.fed (h : RELx n d t u sd ρ k nx H m tb9 G σ) (fc : frm wFdC wl0 σ s) (fm : frm wFdM wl0 s s2) (hB : BYT s2) (hp : P255 s) : REL (n + 1) s2 := by
  obtain ⟨⟨-, -, k1, k2⟩, h2, h3, h4, h5, h6⟩ := h.next
  have wc : ∀ {a k}, 3 < a → wFdC a k = false := fun {a k} h => by
    unfold wFdC
    simp only [Bool.or_eq_false_iff, Bool.and_eq_false_iff, beq_eq_false_iff_ne]
    omega
  have wm : ∀ {a k}, a < 236 ∨ 237 < a → wFdM a k = false := fun {a k} h => by
    unfold wFdM
    simp only [Bool.or_eq_false_iff, Bool.and_eq_false_iff, beq_eq_false_iff_ne]
    omega
  refine ⟨d, t, u, sd, ρ, k, nx, H, m, tb9, G, ⟨hB, hB.cc (fun i => by rw [fm.1 3 i rfl]; exact hp i), fun i hi => by rw [fm.2.1 243 rfl, fc.2.1 243 rfl]; exact k1 i hi, by rw [fm.1 1 1 rfl, fm.1 236 17 rfl, fc.1 1 1 rfl, fc.1 236 17 rfl]; exact k2⟩, (h2.fr fc (fun i k x y => wc (by omega)) rfl (fun i k x y => wc (by omega))).fr fm (fun i k x y => wm (by omega)) rfl (fun i k x y => wm (by omega)), (h3.fr fc (fun i k x y => wc (by omega)) (fun _ => rfl)).fr fm (fun i k x y => wm (by omega)) (fun _ => rfl), (h4.fr fc (fun i k x y => wc (by omega)) (fun _ => rfl) (fun _ => rfl) rfl).fr fm (fun i k x y => wm (by omega)) (fun _ => rfl) (fun _ => rfl) rfl, (h5.fr fc (fun i k x y => wc (by omega)) (fun i k x y => wc (by omega)) rfl).fr fm (fun i k x y => wm (by omega)) (fun i k x y => wm (by omega)) rfl, (h6.fr fc (fun i k x y => wc (by omega)) (fun i k x y => wc (by omega)) (fun _ => rfl)).fr fm (fun i k x y => wm (by omega)) (fun i k x y => wm (by omega)) (fun _ => rfl)⟩
theorem sim_feed : SIM n (f_X11_feed x1 x2 x3 x4 x5) (f_X12_feed x1 x2 x3 x4 x5) := sim_gen (fun d t u sd ρ k nx H m tb G σ h => by
  obtain ⟨r, s, s2, e1, e2, b1, f1, f2⟩ := h.1.1.feed (x1 := x1) (x2 := x2) (x3 := x3) (x4 := x4) (x5 := x5)
  have p0 : P255 σ := h.1.2.1.2
  refine ⟨r, s, s2, e1, e2, h.fed f1 f2 b1 ?_⟩
  obtain ⟨m9, hm, q1, -, -⟩ := h.1.1
  have e := e1
  rw [e_feed_c q1 hm] at e
  by_cases c : 2000 < m9 + 20
  · rw [if_pos c] at e
    have : σ = s := congrArg Prod.snd (Option.some.inj e)
    rw [← this]; exact p0
  · rw [if_neg c] at e
    have : _ = s := congrArg Prod.snd (Option.some.inj e)
    rw [← this]; exact p0.p20)
theorem sim_back : SIM n (f_X11_back x) (f_X12_back x) := sim_gen (fun d t u sd ρ k nx H m tb G σ h => by
  obtain ⟨r, s, s2, e1, e2, b1, f1, f2⟩ := h.1.1.back (x := x)
  have p0 : P255 σ := h.1.2.1.2
  refine ⟨r, s, s2, e1, e2, h.fed f1 f2 b1 ?_⟩
  have e := e1
  unfold f_X11_back at e
  by_cases c1 : x.toInt < 0
  · rw [if_pos c1] at e
    have : σ = s := congrArg Prod.snd (Option.some.inj e)
    rw [← this]; exact p0
  · rw [if_neg c1] at e
    by_cases c2 : (σ.1 2 1).toInt < x.toInt
    · rw [if_pos c2] at e
      have : σ = s := congrArg Prod.snd (Option.some.inj e)
      rw [← this]; exact p0
    · rw [if_neg c2] at e
      simp only [Bd] at e
      have : _ = s := congrArg Prod.snd (Option.some.inj e)
      rw [← this]; exact p0.o)
end GOON4
/-! read, the relation kept -/
section BRD2
variable {σ s s2 : HS} {n t u sd k nx m T : Nat} {ρ : Nat → Int32} {d : DAT} {b : Int} {H G : Nat → Nat → Int32} {tb9 : Nat → Nat}
/-- the class's read, then the reference's: answers, places and tapes alike; accepted texts alike -/
theorem BYT.read2 {t u sd : Nat} (ht : txk t) (hu : txk u) (htu : t ≠ u) (hsd : sd ≤ 1) (h : BYT σ) (hT : TXr t u σ) (hC : CC σ) (hlv : σ.1 236 18 = nI (1 - sd)) (hK : KEY σ) : ∃ r s s2, f_X11_read σ = some (r, s) ∧ f_X12_read s = some (r, s2) ∧ BYT s2 ∧ s2.1 1 1 = s2.1 236 17 ∧ (∀ a k, 236 ≤ a → s.1 a k = σ.1 a k) ∧ (∀ a k, a < 236 → s2.1 a k = s.1 a k) ∧ s2.2.2 = s.2.2 ∧ (∀ a, wlRc a = false → s.2.1 a = σ.2.1 a) ∧ (∀ a, wlRM a = false → s2.2.1 a = s.2.1 a) ∧ (r ≠ 0 → frm (wRc u) wlRc σ s ∧ frm (wRMr sd) wlRM s s2) ∧ (r = 0 → TXr u t s2 ∧ ACc u s ∧ ACm sd s2 ∧ ∃ d : DAT, TC u d s2 ∧ TM sd d s2 ∧ DOK d) ∧ (∀ a k, (wRc u a k || wBA a k) = false → s.1 a k = σ.1 a k) := by
  obtain ⟨m, hm, h1, h2, hb⟩ := h
  have en : nC σ = m := by unfold nC; rw [h1, nIt (by omega), Int.toNat_natCast]
  have w1 := w_read ht hu hT hC
  rw [en] at w1
  obtain ⟨r, s, er, c1, c2, c3, c4, c5, c6, c7⟩ := w1
  have up : ∀ a k, 236 ≤ a → s.1 a k = σ.1 a k := fun a k ha => c5 a k (wRc_hi hu ha)
  have enT : nT2 s = m := by unfold nT2; rw [up 236 2 (by omega), h2, nIt (by omega), Int.toNat_natCast]
  have w2 := mr_read (σ := s) (sd := sd) hsd (by rw [up 236 18 (by omega)]; exact hlv) (by rw [up 236 2 (by omega), h2, nIt (by omega)]; omega) (fun k hk => by rw [c4 243 rfl]; exact hK k hk)
  rw [enT, ← readS_cg (b := bC σ) (b' := bT s) (n := m) (fun i hi => by
    unfold bC bT
    rw [up 237 i (by omega)]; exact hb i hi)] at w2
  obtain ⟨r', s2, er2, d1, d2, d3, σb, d4, d5, d6, d7⟩ := w2
  have eq : r' = r := Int32.toInt_inj.mp (d4.trans c2.symm)
  subst eq
  have dn : ∀ a k, a < 236 → s2.1 a k = s.1 a k := fun a k ha => d2.1 a k (wRM_lo ha)
  refine ⟨r', s, s2, er, er2, ⟨0, by omega, ?_, ?_, fun i hi => absurd hi (by omega)⟩, ?_, up, dn, d2.2.2, c4, d2.2.1, fun hr => ?_, fun hr => ?_, c5⟩
  · rw [dn 2 1 (by omega)]; exact c1
  · exact d1
  · rw [dn 1 1 (by omega)]
    exact Int32.toInt_inj.mp (c3.trans d5.symm)
  · have : r'.toInt ≠ 0 := fun e => hr (Int32.toInt_inj.mp e)
    exact ⟨c6 this, d3 this⟩
  · have hr : r'.toInt = 0 := by rw [hr]; rfl
    obtain ⟨x1, x2, S, x3, x4, x5, x6, x7, p, x8, x9⟩ := c7 hr
    obtain ⟨y1, y2, S', y3, y4, y5, y6, y7, y8⟩ := d7 hr
    have hi : u + 12 < 56 := by rcases hu with rfl | rfl <;> decide
    have es : S' = S := by rw [x3] at y3; exact (Except.ok.inj y3).symm
    subst es
    refine ⟨by unfold TXr; rw [d2.2.2]; exact x1, x2, y2, S'.2.2.2, ⟨⟨?_, x5.2.1, fun e he => ?_⟩, ⟨?_, x6.2.1, fun p hp => ⟨?_, (x6.2.2 p hp).2.1, fun i hi => ?_⟩⟩, ⟨?_, ?_⟩, ⟨p, x8, fun k hk => ?_⟩⟩, ⟨y2.1, hsd, y5, y6, y7, y8⟩, read_ok (fun t h => vl_rg h) x3 x4⟩
    · rw [dn _ _ (by omega)]; exact x5.1
    · rw [dn _ _ (by omega), dn _ _ (by omega), dn _ _ (by omega)]; exact x5.2.2 e he
    · rw [dn _ _ (by omega)]; exact x6.1
    · rw [dn _ _ (by omega)]; exact (x6.2.2 p hp).1
    · rw [dn _ _ (by have := x6.2.1; omega)]; exact (x6.2.2 p hp).2.2 i hi
    · rw [dn _ _ (by omega)]; exact x7.1
    · rw [dn _ _ (by omega)]; exact x7.2
    · obtain ⟨q, q1, q2, q3⟩ := x9 k hk
      exact ⟨q, by rw [dn _ _ (by omega)]; exact q1, q2, q3.same (fun z _ _ => dn _ _ (by omega))⟩
theorem hf_no {sd a k : Nat} (hsd : sd ≤ 1) (h : ((a = 245 ∨ a = 249 ∨ a = 252 ∨ a = 253) ∧ k = sd) ∨ ((a = 246 ∨ a = 247 ∨ a = 248) ∧ 7 * sd ≤ k ∧ k < 7 * sd + 7) ∨ (a = 250 ∧ 5 * sd ≤ k ∧ k < 5 * sd + 5) ∨ (a = 251 ∧ 40 * sd ≤ k ∧ k < 40 * sd + 40) ∨ ((a = 254 ∨ a = 255) ∧ 4 * sd ≤ k ∧ k < 4 * sd + 4) ∨ ((256 ≤ a ∧ a ≤ 260) ∧ 130 * sd ≤ k ∧ k < 130 * sd + 130) ∨ ((a = 261 ∨ a = 262) ∧ 420 * sd ≤ k ∧ k < 420 * sd + 420)) : wRMr (1 - sd) a k = false := by
  have ha : 245 ≤ a ∧ a ≤ 262 := by omega
  have e1 : wr LC a k = false := by
    unfold wr LC
    rw [if_neg (by omega), if_neg (by omega)]
    simp
    omega
  have e2 : wPm (1 - sd) a k = false := by
    unfold wPm
    simp only [Bool.or_eq_false_iff, Bool.and_eq_false_iff, Bool.or_eq_false_iff, beq_eq_false_iff_ne, decide_eq_false_iff_not, ne_eq]
    rcases (show sd = 0 ∨ sd = 1 by omega) with rfl | rfl
    · refine ⟨⟨⟨⟨⟨⟨⟨⟨?_, ?_⟩, ?_⟩, ?_⟩, ?_⟩, ?_⟩, ?_⟩, ?_⟩, ?_⟩ <;> omega
    · refine ⟨⟨⟨⟨⟨⟨⟨⟨?_, ?_⟩, ?_⟩, ?_⟩, ?_⟩, ?_⟩, ?_⟩, ?_⟩, ?_⟩ <;> omega
  unfold wRMr wRd0
  rw [e1, e2, (beq_eq_false_iff_ne.mpr (show a ≠ 236 by omega)), (beq_eq_false_iff_ne.mpr (show a ≠ 238 by omega))]
  rfl
theorem TM.half {wl : Nat → Bool} (h : TM sd d σ) (hf : frm (wRMr (1 - sd)) wl σ s) : TM sd d s := by
  obtain ⟨h0, h1, h2, h3, h4, p, q, h5, h6, h7⟩ := h
  have e18 : wRMr (1 - sd) 236 18 = false := by unfold wRMr wRd0 wPm wr LC; simp
  refine ⟨by rw [hf.1 _ _ e18]; exact h0, h1, ⟨?_, h2.2.1, fun e he => ?_⟩, ⟨?_, h3.2.1, fun p hp => ⟨?_, (h3.2.2 p hp).2.1, fun i hi => ?_⟩⟩, ⟨?_, ?_⟩, p, q, h5, h6, fun k hk => ?_⟩
  · rw [hf.1 _ _ (hf_no h1 (by omega))]; exact h2.1
  · have := h2.2.1
    rw [hf.1 _ _ (hf_no (a := 246) h1 (by omega)), hf.1 _ _ (hf_no (a := 247) h1 (by omega)), hf.1 _ _ (hf_no (a := 248) h1 (by omega))]; exact h2.2.2 e he
  · rw [hf.1 _ _ (hf_no h1 (by omega))]; exact h3.1
  · have := h3.2.1
    rw [hf.1 _ _ (hf_no h1 (by omega))]; exact (h3.2.2 p hp).1
  · have := h3.2.1
    have := (h3.2.2 p hp).2.1
    rw [hf.1 _ _ (hf_no h1 (by omega))]; exact (h3.2.2 p hp).2.2 i hi
  · rw [hf.1 _ _ (hf_no h1 (by omega))]; exact h4.1
  · rw [hf.1 _ _ (hf_no h1 (by omega))]; exact h4.2
  · exact (h7 k hk).mono (Nat.le_refl _) (Nat.le_refl _) (fun a x y => hf.1 _ _ (hf_no h1 (by omega))) (fun a k x y z => hf.1 _ _ (hf_no h1 (by omega))) (fun a k x y z w => hf.1 _ _ (hf_no h1 (by omega)))
theorem rc_no {u a k : Nat} (hu : txk u) (h : a = 3 ∨ 8 ≤ a ∧ a < 30 ∨ 56 ≤ a) : wRc u a k = false := by
  have hi : u + 12 < 56 ∧ 30 ≤ u := by rcases hu with rfl | rfl <;> decide
  unfold wRc wP wCut
  simp
  omega
theorem rc_tx {t u a k : Nat} (ht : txk t) (hu : txk u) (htu : t ≠ u) (h1 : t ≤ a) (h2 : a ≤ t + 12) : wRc u a k = false := by
  rcases ht with rfl | rfl <;> rcases hu with rfl | rfl
  · exact absurd rfl htu
  · unfold wRc wP wCut; simp; omega
  · unfold wRc wP wCut; simp; omega
  · exact absurd rfl htu
theorem rm_lo {sd a k : Nat} (h : a < 236) : wRMr sd a k = false := by
  unfold wRMr wRd0 wPm wr LC
  rw [if_neg (by omega), if_neg (by omega)]
  simp
  omega
theorem rm_hi {sd a k : Nat} (h : 264 ≤ a) (h2 : a < 1000 ∧ a ≠ 267) : wRMr sd a k = false := by
  unfold wRMr wRd0 wPm wr LC
  rw [if_neg (by omega), if_neg (by omega)]
  simp
  omega
theorem sim_read : SIM n f_X11_read f_X12_read := sim_gen (fun d t u sd ρ k nx H m tb G σ h => by
  obtain ⟨⟨c1, c2, c3, c4⟩, ⟨b1, b2, b3, b4, b5, b6, b7⟩, c5, c6, c7, c8⟩ := h.next
  have hsd : sd ≤ 1 := b6.2.1
  have e1s : 1 - (1 - sd) = sd := by omega
  obtain ⟨r, s, s2, e1, e2, q1, q2, q3, q4, q5, q6, q7, q8, q9, q10⟩ := c1.read2 (sd := 1 - sd) b1 b2 b3 (by omega) b4 c2 (by rw [e1s]; exact b6.1) c3
  refine ⟨r, s, s2, e1, e2, ?_⟩
  have P3 : ∀ k, s2.1 3 k = σ.1 3 k := fun k => by rw [q4 3 k (by omega)]; exact q10 3 k (by rw [rc_no b2 (by omega)]; rfl)
  have tap : TAP s2 := ⟨q1, q1.cc (fun k => by rw [P3 k]; exact c2.2 k), fun i hi => by rw [q7 243 rfl, q6 243 rfl]; exact c3 i hi, q2⟩
  by_cases cr : r = 0
  · obtain ⟨y1, y2, y3, d', y4, y5, y6⟩ := q9 cr
    have hT := y4.T7
    have hP := y4.2.1.2.1
    obtain ⟨z1, z2, z3, z4⟩ := y2
    obtain ⟨a1, a2, a3, a4, a5, a6⟩ := z1
    obtain ⟨g1, g2, g3, g4, g5, g6, g7⟩ := y3
    have hi : u + 12 < 56 ∧ 30 ≤ u := by rcases b2 with rfl | rfl <;> decide
    have su : ∀ i k, i < 236 → s.1 i k = s2.1 i k := fun i k x => (q4 i k x).symm
    have eT : (s2.1 245 (1 - sd)).toInt.toNat = d'.1.1.1 := by rw [y5.2.2.1.1, nItn (by omega)]
    have eP : (s2.1 249 (1 - sd)).toInt.toNat = d'.1.2.1 := by rw [y5.2.2.2.1.1, nItn (by omega)]
    let ρ0 : Nat → Int32 := rowB s2 (1 - sd) d'.1.1.1 d'.1.2.1
    have r28 : ρ0 28 = -1 := rfl
    have r26 : ρ0 26 = if 0 < d'.1.2.1 then 0 else -2 := rfl
    have r7 : ∀ e, e < d'.1.1.1 → ρ0 (7 + e) = s2.1 248 (7 * (1 - sd) + e) := fun e he => by
      show (if 7 + e = 28 then (-1 : Int32) else if 7 + e = 26 then (if 0 < d'.1.2.1 then 0 else -2) else if 7 ≤ 7 + e ∧ 7 + e < 7 + d'.1.1.1 then s2.1 248 (7 * (1 - sd) + (7 + e - 7)) else 0) = _
      rw [if_neg (by omega), if_neg (by omega), if_pos (by omega), show 7 + e - 7 = e by omega]
    have r0 : ∀ i, (i < 7 ∨ 14 ≤ i) → i ≠ 26 → i ≠ 28 → ρ0 i = 0 := fun i h h2 h3 => by
      show (if i = 28 then (-1 : Int32) else if i = 26 then (if 0 < d'.1.2.1 then 0 else -2) else if 7 ≤ i ∧ i < 7 + d'.1.1.1 then s2.1 248 (7 * (1 - sd) + (i - 7)) else 0) = _
      rw [if_neg h3, if_neg h2, if_neg (by omega)]
    have hA : AR 56 d'.1.1.1 ρ0 s2 := by
      refine ⟨?_, fun e he => ⟨?_, ?_, ?_⟩, fun k x y => ?_, ?_, ?_, ?_⟩
      · rw [q4 56 0 (by omega), a1, su u 0 (by omega)]; exact y4.1.1
      · rw [q4 57 e (by omega), (a2 e (by omega)).1, r0 e (by omega) (by omega) (by omega)]
      · rw [q4 58 e (by omega), (a2 e (by omega)).2.1, su (u + 3) e (by omega), r7 e he]
        exact Int32.toInt_inj.mp ((y4.1.2.2 e he).2.2.trans (y5.2.2.1.2.2 e he).2.2.symm)
      · rw [q4 59 e (by omega), (a2 e (by omega)).2.2, r0 (14 + e) (by omega) (by omega) (by omega)]
      · rw [q4 56 k (by omega), a3 k x y, r0 (17 + k) (by omega) (by omega) (by omega)]
      · rw [q4 56 9 (by omega), a4, su u 4 (by omega), y4.2.1.1, nIt (by omega), r26]
        by_cases cP : 0 < d'.1.2.1
        · rw [if_pos (by omega), if_pos cP, if_neg (by decide)]
        · rw [if_neg (by omega), if_neg cP, if_pos rfl]
      · rw [q4 56 10 (by omega), a5, r0 27 (by omega) (by omega) (by omega)]
      · rw [q4 56 11 (by omega), a6, r28]
    have hN : NWm ρ0 s2 := fun i hi => by
      have := (g7 i hi).2
      rw [eT, eP] at this
      exact this
    have hW : RW d' (60 * ((n + 1 : Nat) : Int)) ρ0 := by
      refine ⟨fun e he => ⟨?_, fun _ => ?_⟩, ?_, ?_, ?_, ?_, ?_⟩
      · rw [r0 e (by omega) (by omega) (by omega)]; decide
      · rw [r7 e he, (y5.2.2.1.2.2 e he).2.2]; exact (y6.1 e he).2.2
      · rw [r0 21 (by omega) (by omega) (by omega), i0_eq]; omega
      · rw [r0 21 (by omega) (by omega) (by omega), r0 27 (by omega) (by omega) (by omega), i0_eq]; omega
      · rw [r26]
        by_cases cP : 0 < d'.1.2.1
        · rw [if_pos cP, i0_eq]; exact Or.inr ⟨by omega, by omega⟩
        · rw [if_neg cP]; exact Or.inl rfl
      · rw [r28]; decide
      · rw [r0 22 (by omega) (by omega) (by omega)]; decide
    have o12 : s2.1 12 1 = nI nx := by
      rw [q4 12 1 (by omega), q10 12 1 (by rw [rc_no b2 (by omega)]; rfl)]; exact c6.1
    refine ⟨d', u, t, 1 - sd, ρ0, 0, nx, H, 0, tb, G, tap, ⟨b2, b1, fun e => b3 e.symm, y1, y4, y5, y6⟩, ⟨hA, hN, hW⟩, ⟨o12, c6.2.1, by rw [q4 12 2 (by omega)]; exact z2, by decide, g4, fun j hj => absurd hj (by omega)⟩, ⟨by rw [q4 14 2 (by omega)]; exact z3, by decide, g5, fun i hi => absurd hi (by omega)⟩, fun j hj => ⟨⟨?_, ?_⟩, fun e => ?_⟩⟩
    · rw [q4 26 j (by omega), z4 j hj, g6 j hj]
    · exact Or.inl (g6 j hj)
    · rw [g6 j hj] at e; exact absurd e (by decide)
  · obtain ⟨f1, f2⟩ := q8 cr
    have lo : ∀ i k, i < 236 → wRMr (1 - sd) i k = false := fun i k h => rm_lo h
    have u12 : ∀ i k, 56 ≤ i → wRc u i k = false := fun i k h => rc_no b2 (by omega)
    refine ⟨d, t, u, sd, ρ, k, nx, H, m, tb, G, tap, ⟨b1, b2, b3, ?_, ?_, ?_, b7⟩, ⟨?_, ?_, c5.2.2⟩, ?_, ?_, ?_⟩
    · unfold TXr
      rw [f2.2.2, f1.2.2]; exact b4
    · exact (b5.fr f1 (fun i k x y => rc_tx b1 b2 b3 x y)).fr f2 (fun i k x y => lo i k (by rcases b1 with rfl | rfl <;> omega))
    · exact (b6.fr f1 (u12 _ _ (by omega)) (fun i k x y => u12 i k (by omega))).half f2
    · exact (c5.1.fr f1 (fun i k x y => u12 i k (by omega))).fr f2 (fun i k x y => lo i k (by omega))
    · exact (c5.2.1.fr f1 (fun k => u12 _ _ (by omega))).fr f2 (fun k => rm_hi (by omega) (by omega))
    · exact (c6.fr f1 (fun i k x y => u12 i k (by omega)) (fun k => u12 _ _ (by omega)) (fun k => rc_no b2 (by omega)) (u12 _ _ (by omega))).fr f2 (fun i k x y => lo i k (by omega)) (fun k => rm_hi (by omega) (by omega)) (fun k => lo _ _ (by omega)) (by unfold wRMr wRd0 wPm wr LC; simp)
    · exact (c7.fr f1 (fun i k x y => rc_no b2 (by omega)) (fun i k x y => u12 i k (by omega)) (u12 _ _ (by omega))).fr f2 (fun i k x y => lo i k (by omega)) (fun i k x y => rm_hi (by omega) (by omega)) (by unfold wRMr wRd0 wPm wr LC; simp)
    · exact (c8.fr f1 (fun i k x y => u12 i k (by omega)) (fun i k x y => u12 i k (by omega)) (fun k => rc_no b2 (by omega))).fr f2 (fun i k x y => lo i k (by omega)) (fun i k x y => rm_hi (by omega) (by omega)) (fun k => lo _ _ (by omega)))
end BRD2
/-! into: that the class answers -/
section INTOC
variable {σ s s2 : HS} {n t u sd k nx m T : Nat} {ρ : Nat → Int32} {d : DAT} {b : Int} {H G : Nat → Nat → Int32} {tb9 : Nat → Nat} {x y z : Int32}
def flV (x y : Int32) : Int32 := if (x ^^^ y).toInt < 0 then (if (x - x / y * y).toInt = 0 then x - x / y * y else x - x / y * y + y) else x - x / y * y
theorem e_flV (hy : y.toInt ≠ 0) : f_J9_floorMod_7cf53 x y σ = some (flV x y, σ) := by
  unfold f_J9_floorMod_7cf53 flV
  rw [if_neg hy]
  simp only [Bd]
  split
  · split <;> rfl
  · rfl
theorem flV_rg : ∀ q, q < 10 → ∀ L, L < 16 → 0 < L → 0 ≤ (flV (-(nI q)) (nI L)).toInt ∧ (flV (-(nI q)) (nI L)).toInt < (L : Int) := by decide +kernel
theorem w_land3 {p L : Nat} (hL : 1 ≤ L ∧ L ≤ 8) (ha : (L : Int) ≤ al p) : Ok (f_X3_landingBits p (nI L) σ) (fun _ s => s = σ) := by
  have loop : ∀ (dd q N : Nat) (y : Int32), q + dd = 10 → dd < N → Ok (f_X3_landingBits_4 p N (nI L) y (nI q) σ) (fun _ s => s = σ) := by
    intro dd
    induction dd with
    | zero =>
      intro q N y hq hN
      obtain ⟨N, rfl⟩ : ∃ q, N = q + 1 := ⟨N - 1, by omega⟩
      show Ok (b_X3_landingBits_4 p (f_X3_landingBits_4 p N) (nI L) y (nI q) σ) _
      unfold b_X3_landingBits_4
      rw [nIt (n := q) (by omega)]
      exact Ok.t (by omega) (Ok.ret rfl)
    | succ dd ih =>
      intro q N y hq hN
      obtain ⟨N, rfl⟩ : ∃ q, N = q + 1 := ⟨N - 1, by omega⟩
      show Ok (b_X3_landingBits_4 p (f_X3_landingBits_4 p N) (nI L) y (nI q) σ) _
      unfold b_X3_landingBits_4 f_X3_landingBits_38
      have fr := flV_rg q (by omega) L (by omega) (by omega)
      rw [nIt (n := q) (by omega), nIt (n := L) (by omega)]
      refine Ok.f (by omega) (Ok.t (by omega) (Ok.cle (e_flV (by rw [nIt (by omega)]; omega)) (Ok.t (by omega) (Ok.bd (Ok.i (fun _ => Ok.bd ?_) (fun _ => Ok.bd (Ok.bd ?_)))))))
      · rw [nI_1]; exact ih (q + 1) N _ (by omega) (by omega)
      · rw [nI_1]; exact ih (q + 1) N _ (by omega) (by omega)
  exact loop 9 1 5000 0 (by omega) (by omega)
theorem e_two (h : RELx n d t u sd ρ k nx H m tb9 G σ) : Ok (f_X0_twoLandAlike 56 σ) (fun _ s => s = σ) := by
  have hT := h.tc.T7
  unfold f_X0_twoLandAlike
  exact Ok.cle (e_landingBits h.ar.1 hT) (Ok.cle e_bitCount (Ok.cle (e_howManyUp h.ar.1 hT) (Ok.i (fun _ => Ok.ret rfl) (fun _ => Ok.ret rfl))))
theorem w_fill2 {p N : Nat} {v : Int32} (hN : (Int32.ofNat (al p)).toInt = N) (hN2 : (al p : Int) = N) (h1 : N ≤ 2000) : Okv (f_J7_fill_53178 p v σ) (fun s => frm (fun a _ => a == p) wl0 σ s ∧ ∀ i, i < N → s.1 p i = v) := by
  unfold f_J7_fill_53178
  refine Okv.bd ?_
  have loop : ∀ (d k M : Nat) (s : HS), k + d = N → d < M → frm (fun a _ => a == p) wl0 σ s → (∀ i, i < k → s.1 p i = v) → Okv (f_J7_fill_53178_5 p M v (nI k) (Int32.ofNat (al p)) s) (fun s => frm (fun a _ => a == p) wl0 σ s ∧ ∀ i, i < N → s.1 p i = v) := by
    intro d
    induction d with
    | zero =>
      intro k M s hk hM hf hz
      obtain ⟨M, rfl⟩ : ∃ q, M = q + 1 := ⟨M - 1, by omega⟩
      show Okv (b_J7_fill_53178_5 p (f_J7_fill_53178_5 p M) v (nI k) (Int32.ofNat (al p)) s) _
      unfold b_J7_fill_53178_5
      rw [nIt (by omega), hN]
      exact Okv.f (by omega) (Okv.ret ⟨hf, fun i hi => hz i (by omega)⟩)
    | succ d ih =>
      intro k M s hk hM hf hz
      obtain ⟨M, rfl⟩ : ∃ q, M = q + 1 := ⟨M - 1, by omega⟩
      show Okv (b_J7_fill_53178_5 p (f_J7_fill_53178_5 p M) v (nI k) (Int32.ofNat (al p)) s) _
      unfold b_J7_fill_53178_5
      rw [nIt (by omega), hN, hN2, Int.toNat_natCast]
      refine Okv.t (by omega) (Okv.t (by omega) (Okv.bd (Okv.bd ?_)))
      rw [nI_1]
      refine ih (k + 1) M _ (by omega) (by omega) (hf.I (by simp)) (fun i hi => ?_)
      by_cases c : i = k
      · rw [c, rI_s]
      · rw [rI_k c]; exact hz i (by omega)
  rw [nI0]
  exact loop N 0 5000 σ (by omega) (by omega) frm.rf (fun i hi => absurd hi (by omega))
/-- what the search holds: c met, each with one it came from -/
def wFi (a k : Nat) : Bool := (a == 17 && (k == 1 || k == 5)) || a == 18 || a == 19 || a == 20 || a == 21
theorem fi_wQ (i k : Nat) (h : wFi i k = true) : wQ i k = true := by
  unfold wFi at h
  simp only [Bool.or_eq_true, Bool.and_eq_true, beq_iff_eq] at h
  rcases h with (((⟨h, h2⟩ | h) | h) | h) | h <;> subst h <;> rfl
def MET (s : HS) : Prop := ∀ i, i < 1024 → s.1 19 i = -1 ∨ ∃ j, j < 1024 ∧ s.1 19 i = nI j ∧ s.1 19 j ≠ -1
def FI (c : Nat) (s : HS) : Prop := s.1 17 1 = nI c ∧ c ≤ 1024 ∧ MET s ∧ ∀ i, i < c → ∃ j, j < 1024 ∧ s.1 18 i = nI j ∧ s.1 19 j ≠ -1
theorem m1_nI {j : Nat} (h : j < 1024) : nI j ≠ -1 := fun e => by
  have := congrArg Int32.toInt e
  rw [nIt (by omega)] at this
  exact absurd this (by show ¬ ((j : Int) = -1); omega)
theorem w_meet {c a p : Nat} {v : Int32} (h : FI c s) (ha : a < 1024) (hp : p < 1024) (hx : p = a ∨ s.1 19 p ≠ -1) : Okv (f_X7_meet (nI a) (nI p) v s) (fun s2 => ∃ c', c ≤ c' ∧ FI c' s2 ∧ frm wFi wl0 s s2 ∧ s2.1 17 5 = s.1 17 5 ∧ ∀ i, s.1 19 i ≠ -1 → s2.1 19 i ≠ -1) := by
  obtain ⟨h1, h2, h3, h4⟩ := h
  unfold f_X7_meet
  rw [nIt (n := a) (by omega), Int.toNat_natCast, h1, nIt (n := c) (by omega)]
  refine Okv.t (by omega) (Okv.i (fun e => ?_) (fun _ => Okv.ret ⟨c, Nat.le_refl _, ⟨h1, h2, h3, h4⟩, frm.rf, rfl, fun i hi => hi⟩))
  have e1 : s.1 19 a = -1 := Int32.toInt_inj.mp e
  refine Okv.i (fun hc => ?_) (fun _ => Okv.ret ⟨c, Nat.le_refl _, ⟨h1, h2, h3, h4⟩, frm.rf, rfl, fun i hi => hi⟩)
  refine Okv.t (by omega) (Okv.bd (Okv.t (by omega) (Okv.bd ?_)))
  have e17 : (hI (hI s 19 a (nI p)) 20 a v).1 17 1 = nI c := by rw [rI_i (by decide), rI_i (by decide)]; exact h1
  rw [e17, nIt (n := c) (by omega), Int.toNat_natCast]
  refine Okv.t (by omega) (Okv.bd (Okv.bd ?_))
  have e17b : (hI (hI (hI s 19 a (nI p)) 20 a v) 18 c (nI a)).1 17 1 = nI c := by rw [rI_i (by decide)]; exact e17
  rw [e17b, nI_1]
  have k19 : ∀ i, (hI (hI (hI (hI s 19 a (nI p)) 20 a v) 18 c (nI a)) 17 1 (nI (c + 1))).1 19 i = if i = a then nI p else s.1 19 i := fun i => by
    rw [rI_i (by decide), rI_i (by decide), rI_i (by decide)]
    by_cases ci : i = a
    · rw [ci, rI_s, if_pos rfl]
    · rw [rI_k ci, if_neg ci]
  have k19' : ∀ i, s.1 19 i ≠ -1 → (hI (hI (hI (hI s 19 a (nI p)) 20 a v) 18 c (nI a)) 17 1 (nI (c + 1))).1 19 i ≠ -1 := fun i hi => by
    rw [k19]
    by_cases ci : i = a
    · rw [if_pos ci]; exact m1_nI hp
    · rw [if_neg ci]; exact hi
  refine Okv.ret ⟨c + 1, by omega, ⟨rI_s, by omega, fun i hi => ?_, fun i hi => ?_⟩, (((frm.rf.I rfl).I rfl).I rfl).I rfl, ?_, k19'⟩
  · rw [k19 i]
    by_cases ci : i = a
    · rw [if_pos ci]
      refine Or.inr ⟨p, hp, rfl, ?_⟩
      rcases hx with hx | hx
      · rw [k19, if_pos hx]; exact m1_nI hp
      · exact k19' p hx
    · rw [if_neg ci]
      rcases h3 i hi with g | ⟨j, g1, g2, g3⟩
      · exact Or.inl g
      · exact Or.inr ⟨j, g1, g2, k19' j g3⟩
  · rw [rI_i (by decide)]
    by_cases ci : i = c
    · rw [ci, rI_s]
      exact ⟨a, ha, rfl, by rw [k19, if_pos rfl]; exact m1_nI hp⟩
    · rw [rI_k ci, rI_i (by decide), rI_i (by decide)]
      obtain ⟨j, g1, g2, g3⟩ := h4 i (by omega)
      exact ⟨j, g1, g2, k19' j g3⟩
  · rw [rI_k (by decide), rI_i (by decide), rI_i (by decide), rI_i (by decide)]
theorem sh1_rg : ∀ a, a < 1024 → ∃ q, q < 512 ∧ (nI a) >>> ((1 : Int32) &&& 31) = nI q := by
  intro a ha
  have : ∀ a, a < 1024 → (nI a) >>> ((1 : Int32) &&& 31) = nI (a / 2) := by decide +kernel
  exact ⟨a / 2, by omega, this a ha⟩
theorem or_rg : ∀ q, q < 512 → ∀ y, y < 9 → (0 ≤ ((nI q) ||| ((1 : Int32) <<< ((nI (y + 1) - (1 : Int32)) &&& 31))).toInt ∧ ((nI q) ||| ((1 : Int32) <<< ((nI (y + 1) - (1 : Int32)) &&& 31))).toInt < 1024) := by decide +kernel
def FIq (σ : HS) (c : Nat) (s : HS) : Prop := ∃ c', c ≤ c' ∧ FI c' s ∧ frm wFi wl0 σ s ∧ s.1 17 5 = σ.1 17 5 ∧ ∀ i, σ.1 19 i ≠ -1 → s.1 19 i ≠ -1
theorem FIq.tr {c : Nat} {s1 : HS} {c1 : Nat} (h : FIq σ c s) (hc : FI c1 s) (k : ∀ c2, FI c2 s → FIq s c2 s1) : FIq σ c s1 := by
  obtain ⟨c', g1, g2, g3, g4, g5⟩ := h
  obtain ⟨c3, f1, f2, f3, f4, f5⟩ := k c' g2
  exact ⟨c3, by omega, f2, g3.tr f3, f4.trans g4, fun i hi => f5 i (g5 i hi)⟩
theorem w_goOnFrom {c a : Nat} (h : FI c s) (ha : a < 1024) (hx : s.1 19 a ≠ -1) : Okv (f_X7_goOnFrom (nI a) s) (FIq s c) := by
  unfold f_X7_goOnFrom
  obtain ⟨q, hq, eq⟩ := sh1_rg a ha
  refine Okv.bd ?_
  rw [eq]
  refine Okv.i (fun _ => Okv.cv (w_meet h (by omega) ha (Or.inr hx)) (fun s1 h1 => Okv.ret h1)) (fun _ => ?_)
  have loop : ∀ (dd y N : Nat) (s1 : HS), y + dd = 9 → dd < N → FIq s c s1 → Okv (f_X7_goOnFrom_20 N (nI a) (nI q) (nI (y + 1)) s1) (FIq s c) := by
    intro dd
    induction dd with
    | zero =>
      intro y N s1 hy hN h1
      obtain ⟨N, rfl⟩ : ∃ q, N = q + 1 := ⟨N - 1, by omega⟩
      show Okv (b_X7_goOnFrom_20 (f_X7_goOnFrom_20 N) (nI a) (nI q) (nI (y + 1)) s1) _
      unfold b_X7_goOnFrom_20
      rw [nIt (n := y + 1) (by omega)]
      exact Okv.t (by omega) (Okv.ret h1)
    | succ dd ih =>
      intro y N s1 hy hN h1
      obtain ⟨N, rfl⟩ : ∃ q, N = q + 1 := ⟨N - 1, by omega⟩
      show Okv (b_X7_goOnFrom_20 (f_X7_goOnFrom_20 N) (nI a) (nI q) (nI (y + 1)) s1) _
      unfold b_X7_goOnFrom_20 f_X7_goOnFrom_50
      rw [nIt (n := y + 1) (by omega)]
      refine Okv.f (by omega) (Okv.bd (Okv.i (fun _ => ?_) (fun _ => Okv.bd ?_)))
      · have rg := or_rg q hq y (by omega)
        generalize hv : ((nI q) ||| ((1 : Int32) <<< ((nI (y + 1) - (1 : Int32)) &&& 31))) = v at rg
        obtain ⟨w, hw, rfl⟩ : ∃ w : Nat, w < 1024 ∧ v = nI w := ⟨v.toInt.toNat, by omega, nI_tn rg.1 (by omega)⟩
        obtain ⟨c1, g1, g2, g3, g4, g5⟩ := h1
        refine Okv.cv (w_meet (v := nI (y + 1)) g2 (by omega) ha (Or.inr (g5 a hx))) (fun s3 h3 => Okv.bd ?_)
        rw [nI_1]
        exact ih (y + 1) N s3 (by omega) (by omega) (FIq.tr ⟨c1, g1, g2, g3, g4, g5⟩ g2 (fun c2 h2 => by
          obtain ⟨c3, f1, f2, f3, f4, f5⟩ := h3
          have : c2 = c1 := by
            have e := h2.1.symm.trans g2.1
            have e2 := congrArg Int32.toInt e
            rw [nIt (by have := h2.2.1; omega), nIt (by have := g2.2.1; omega)] at e2
            omega
          subst this
          exact ⟨c3, f1, f2, f3, f4, f5⟩))
      · rw [nI_1]; exact ih (y + 1) N s1 (by omega) (by omega) h1
  exact loop 9 0 5000 s (by omega) (by omega) ⟨c, Nat.le_refl _, h, frm.rf, rfl, fun i hi => hi⟩
end INTOC
/-! into: that the class answers, further -/
section INTOC2
variable {σ s s2 : HS} {n t u sd k nx m T : Nat} {ρ : Nat → Int32} {d : DAT} {b : Int} {H G : Nat → Nat → Int32} {tb9 : Nat → Nat} {x y z : Int32}
/-- after the search: what it wrote, how deep -/
def FND (σ : HS) (r : Int32) (s : HS) : Prop := frm wFi wl0 σ s ∧ 0 ≤ (s.1 17 5).toInt ∧ (s.1 17 5).toInt ≤ 12
theorem w_find111 {c a e : Nat} (h : FI c s) (ha : a < 1024) (hf : frm wFi wl0 σ s) (h5 : s.1 17 5 = nI e) (he : e ≤ 12) : Ok (f_X7_find_111 (nI a) s) (FND σ) := by
  unfold f_X7_find_111
  rw [nIt (n := a) (by omega), Int.toNat_natCast, h5]
  refine Ok.t (by omega) (Ok.i (fun _ => Ok.ret ⟨hf, by rw [h5, nIt (by omega)]; omega, by rw [h5, nIt (by omega)]; omega⟩) (fun c0 => Ok.bd ?_))
  have hm : s.1 19 a ≠ -1 := fun e => c0 (by rw [e]; rfl)
  have loop : ∀ (dd a N : Nat) (y5 : Int32) (s1 : HS), y5.toInt = (dd : Int) - 1 → dd ≤ 12 → dd < N → a < 1024 → s1.1 19 a ≠ -1 → MET s1 → frm wFi wl0 σ s1 → s1.1 17 5 = nI e → Ok (f_X7_find_134 N (nI a) y5 s1) (FND σ) := by
    intro dd
    induction dd with
    | zero =>
      intro a N y5 s1 hy hd hN ha hm hM hf h5
      obtain ⟨N, rfl⟩ : ∃ q, N = q + 1 := ⟨N - 1, by omega⟩
      show Ok (b_X7_find_134 (f_X7_find_134 N) (nI a) y5 s1) _
      unfold b_X7_find_134
      exact Ok.t (by omega) (Ok.ret ⟨hf, by rw [h5, nIt (by omega)]; omega, by rw [h5, nIt (by omega)]; omega⟩)
    | succ dd ih =>
      intro a N y5 s1 hy hd hN ha hm hM hf h5
      obtain ⟨N, rfl⟩ : ∃ q, N = q + 1 := ⟨N - 1, by omega⟩
      obtain rfl : y5 = nI dd := Int32.toInt_inj.mp (by rw [nIt (by omega)]; omega)
      obtain ⟨j, j1, j2, j3⟩ : ∃ j, j < 1024 ∧ s1.1 19 a = nI j ∧ s1.1 19 j ≠ -1 := by
        rcases hM a ha with g | g
        · exact absurd g hm
        · exact g
      show Ok (b_X7_find_134 (f_X7_find_134 N) (nI a) (nI dd) s1) _
      unfold b_X7_find_134
      rw [nIt (n := dd) (by omega), nIt (n := a) (by omega), Int.toNat_natCast, Int.toNat_natCast]
      refine Ok.f (by omega) (Ok.t (by omega) (Ok.t (by omega) (Ok.bd (Ok.t (by omega) (Ok.bd (Ok.bd ?_))))))
      rw [rI_i (show (19 : Nat) ≠ 21 by decide), j2]
      have k19 : ∀ i v, (hI s1 21 dd v).1 19 i = s1.1 19 i := fun i v => rI_i (by decide)
      refine ih j N _ _ (by cases dd with
        | zero => rfl
        | succ q => rw [show nI (q + 1) + (-1 : Int32) = nI q by rw [← nI_1 q, Int32.add_assoc]; exact Int32.add_zero _, nIt (by omega)]; omega) (by omega) (by omega) j1 (by rw [k19]; exact j3) (fun i hi => ?_) (hf.I rfl) (by rw [rI_i (by decide)]; exact h5)
      rcases hM i hi with g | ⟨q, g1, g2, g3⟩
      · exact Or.inl (by rw [k19]; exact g)
      · exact Or.inr ⟨q, g1, by rw [k19]; exact g2, by rw [k19]; exact g3⟩
  refine loop e a 5000 _ s ?_ he (by omega) ha hm h.2.2.1 hf h5
  cases e with
  | zero => rfl
  | succ q => rw [nI_mm (by omega), nIt (by omega)]; omega
theorem w_find {c a e q : Nat} (h : FI c s) (hq : q ≤ c) (ha : a < 1024) (hf : frm wFi wl0 σ s) (h5 : s.1 17 5 = nI e) (he : e ≤ 12) : ∀ N, 12 - e < N → Ok (f_X7_find_51 N (nI a) (nI q) s) (FND σ) := by
  obtain ⟨z, hz⟩ : ∃ z, e + z = 12 := ⟨12 - e, by omega⟩
  induction z generalizing e q c s with
  | zero =>
    intro N hN
    obtain ⟨N, rfl⟩ : ∃ q, N = q + 1 := ⟨N - 1, by omega⟩
    show Ok (b_X7_find_51 (f_X7_find_51 N) (nI a) (nI q) s) _
    unfold b_X7_find_51
    rw [h5, nIt (n := e) (by omega)]
    exact Ok.f (by omega) (w_find111 h ha hf h5 he)
  | succ z ih =>
    intro N hN
    obtain ⟨N, rfl⟩ : ∃ q, N = q + 1 := ⟨N - 1, by omega⟩
    show Ok (b_X7_find_51 (f_X7_find_51 N) (nI a) (nI q) s) _
    unfold b_X7_find_51
    rw [h5, nIt (n := e) (by omega), nIt (n := a) (by omega), Int.toNat_natCast]
    refine Ok.t (by omega) (Ok.t (by omega) (Ok.i (fun _ => Ok.bd ?_) (fun _ => w_find111 h ha hf h5 he)))
    rw [h.1]
    have lay : ∀ (dd q M c' : Nat) (s1 : HS), q + dd = c → dd < M → FI c' s1 → c ≤ c' → frm wFi wl0 σ s1 → s1.1 17 5 = nI e → Ok (f_X7_find_76 (f_X7_find_51 N) M (nI a) (nI q) (nI c) s1) (FND σ) := by
      intro dd
      induction dd with
      | zero =>
        intro q M c' s1 hq hM g hc hf1 h51
        obtain ⟨M, rfl⟩ : ∃ q, M = q + 1 := ⟨M - 1, by omega⟩
        have := h.2.1
        show Ok (b_X7_find_76 (f_X7_find_51 N) (f_X7_find_76 (f_X7_find_51 N) M) (nI a) (nI q) (nI c) s1) _
        unfold b_X7_find_76
        rw [nIt (n := q) (by omega), nIt (n := c) (by omega), h51, nI_1 e]
        have eq : q = c := by omega
        refine Ok.f (by omega) (Ok.bd ?_)
        have g2 : FI c' (hI s1 17 5 (nI (e + 1))) := ⟨by rw [rI_k (by decide)]; exact g.1, g.2.1, fun i hi => by
          rcases g.2.2.1 i hi with w | ⟨j, w1, w2, w3⟩
          · exact Or.inl (by rw [rI_i (by decide)]; exact w)
          · exact Or.inr ⟨j, w1, by rw [rI_i (by decide)]; exact w2, by rw [rI_i (by decide)]; exact w3⟩, fun i hi => by
          obtain ⟨j, w1, w2, w3⟩ := g.2.2.2 i hi
          exact ⟨j, w1, by rw [rI_i (by decide)]; exact w2, by rw [rI_i (by decide)]; exact w3⟩⟩
        rw [eq]
        exact ih (e := e + 1) g2 (by omega) (hf1.I rfl) rI_s (by omega) (by omega) N (by omega)
      | succ dd ih2 =>
        intro q M c' s1 hq hM g hc hf1 h51
        obtain ⟨M, rfl⟩ : ∃ q, M = q + 1 := ⟨M - 1, by omega⟩
        have := h.2.1
        obtain ⟨j, w1, w2, w3⟩ := g.2.2.2 q (by omega)
        show Ok (b_X7_find_76 (f_X7_find_51 N) (f_X7_find_76 (f_X7_find_51 N) M) (nI a) (nI q) (nI c) s1) _
        unfold b_X7_find_76
        rw [nIt (n := q) (by omega), nIt (n := c) (by omega), Int.toNat_natCast, w2]
        refine Ok.t (by omega) (Ok.t (by omega) (Ok.cv (w_goOnFrom g w1 w3) (fun s2 h2 => Ok.bd ?_)))
        rw [nI_1]
        obtain ⟨c3, f1, f2, f3, f4, f5⟩ := h2
        exact ih2 (q + 1) M c3 s2 (by omega) (by omega) f2 (by omega) (hf1.tr f3) (f4.trans h51)
    have := h.2.1
    exact lay (c - q) q 5000 c s (by omega) (by omega) h (Nat.le_refl _) hf h5
theorem q_find (hx : x.toInt < 1024) : Ok (f_X7_find x y σ) (fun r s => frm wQ wl0 σ s ∧ (r.toInt ≠ 0 → (s.1 17 5).toInt ≤ 12)) := by
  unfold f_X7_find
  have no : Ok (some ((0 : Int32), σ)) (fun r s => frm wQ wl0 σ s ∧ (r.toInt ≠ 0 → (s.1 17 5).toInt ≤ 12)) := Ok.ret ⟨frm.rf, fun h => absurd rfl h⟩
  refine Ok.i (fun _ => no) (fun c1 => Ok.i (fun c2 => Ok.i (fun _ => no) (fun c3 => Ok.i (fun c4 => ?_) (fun _ => no))) (fun _ => no))
  obtain ⟨a, ha, rfl⟩ : ∃ a : Nat, a < 1024 ∧ x = nI a := ⟨x.toInt.toNat, by omega, nI_tn (by omega) (by omega)⟩
  obtain ⟨e, he, rfl⟩ : ∃ a : Nat, a < 1024 ∧ y = nI a := ⟨y.toInt.toNat, by omega, nI_tn (by omega) (by omega)⟩
  refine Ok.cv (w_fill2 (p := 19) (N := 1024) rfl rfl (by omega)) (fun s1 h1 => Ok.bd ?_)
  have F0 : FI 0 (hI s1 17 1 0) := ⟨rI_s, by omega, fun i hi => Or.inl (by rw [rI_i (by decide)]; exact h1.2 i hi), fun i hi => absurd hi (by omega)⟩
  have f0 : frm wFi wl0 σ (hI s1 17 1 0) := (h1.1.sub (fun i k h => by
    have : i = 19 := by simpa using h
    subst this; rfl)).I rfl
  refine Ok.cv (w_meet (v := 0) F0 ha ha (Or.inl rfl)) (fun s3 h3 => Ok.bd ?_)
  obtain ⟨c3, g1, g2, g3, g4, g5⟩ := h3
  have F1 : FI c3 (hI s3 17 5 0) := ⟨by rw [rI_k (by decide)]; exact g2.1, g2.2.1, fun i hi => by
      rcases g2.2.2.1 i hi with w | ⟨j, w1, w2, w3⟩
      · exact Or.inl (by rw [rI_i (by decide)]; exact w)
      · exact Or.inr ⟨j, w1, by rw [rI_i (by decide)]; exact w2, by rw [rI_i (by decide)]; exact w3⟩, fun i hi => by
      obtain ⟨j, w1, w2, w3⟩ := g2.2.2.2 i hi
      exact ⟨j, w1, by rw [rI_i (by decide)]; exact w2, by rw [rI_i (by decide)]; exact w3⟩⟩
  refine (w_find (σ := σ) (e := 0) (q := 0) F1 (by omega) he ((f0.tr g3).I rfl) rI_s (by omega) 5000 (by omega)).mono (fun r s h => ⟨h.1.sub fi_wQ, fun _ => h.2.2⟩)
theorem q_into_c (h : RELx n d t u sd ρ k nx H m tb9 G σ) : Ok (f_X11_into x y σ) (fun _ s => frm wQ wl0 σ s) := by
  have hP := h.tc.2.1.2.1
  have h87 : ∀ s, frm wQ wl0 σ s → Ok (f_X11_into_87 y s) (fun _ s => frm wQ wl0 σ s) := fun s hs => by
    unfold f_X11_into_87 f_X11_into_88
    exact Ok.t rfl (Ok.i (fun _ => Ok.ret hs) (fun _ => Ok.ret hs))
  unfold f_X11_into
  refine Ok.t (tk0 h) (Ok.cle (e_hasPattern (by rw [h.t0]; exact h.tc.2.1.1) hP) ?_)
  by_cases c : 0 ≤ x.toInt ∧ x.toInt < d.1.2.1
  · refine Ok.f (fun e => if10.mp e c) (Ok.i (fun _ => Ok.ret frm.rf) (fun cy => ?_))
    obtain ⟨p, hp, rfl⟩ := in_T c (by omega)
    have hc := h.tc.hc h.tk h.ok hp
    rw [h.t0, nIt (n := p) (by omega), Int.toNat_natCast, (h.tc.2.1.2.2 p hp).1]
    have hL := (h.tc.2.1.2.2 p hp).2.1
    refine Ok.t h.tk (Ok.t (by omega) (Ok.t h.tk (Ok.t (by omega) (Ok.bd (Ok.cle (e_close hc) (Ok.i (fun _ => Ok.ret frm.rf) (fun _ => Ok.cl (e_two h) (fun r s hs => ?_))))))))
    subst hs
    refine Ok.i (fun _ => Ok.cle (e_landBits h) (Ok.cl (w_land3 hL hc.2.2.2) (fun r2 s hs => ?_))) (fun _ => h87 s frm.rf)
    subst hs
    have rl : (lanS d ρ).toInt < 1024 := by
      unfold lanS
      rw [bset_N (by omega), nIt (by have := bsN_lt (p := lanP ρ d.1.1.1) (n := 10); omega)]
      have := bsN_lt (p := lanP ρ d.1.1.1) (n := 10)
      omega
    refine Ok.cl (q_find rl) (fun r3 s3 hs3 => Ok.i (fun _ => h87 s3 hs3.1) (fun c3 => ?_))
    unfold f_X11_into_88
    refine Ok.f (by decide) (Ok.i (fun _ => Ok.ret hs3.1) (fun cn => Ok.i (fun cl => Ok.t (by have := hs3.2 c3; omega) (Ok.ret hs3.1)) (fun _ => Ok.ret hs3.1)))
  · exact Ok.t (if10.mpr c) (Ok.ret frm.rf)
end INTOC2
/-! into: that the reference answers -/
section INTOM
variable {σ s s2 : HS} {n t u sd k nx m T p : Nat} {ρ : Nat → Int32} {d : DAT} {b : Int} {H G : Nat → Nat → Int32} {tb9 : Nat → Nat} {x y z : Int32}
def nexV (x y : Int32) : Int32 := if (x &&& (1 : Int32)).toInt = 0 then (if y.toInt = 0 then x >>> ((1 : Int32) &&& 31) else -1) else if y.toInt = 0 then -1 else if ((x >>> (y &&& 31)) &&& (1 : Int32)).toInt = 1 then -1 else (x >>> ((1 : Int32) &&& 31)) ||| ((1 : Int32) <<< ((y - (1 : Int32)) &&& 31))
theorem e_nextOf : f_X12_nextOf x y σ = some (nexV x y, σ) := by
  unfold f_X12_nextOf nexV
  split
  · split <;> rfl
  · split
    · rfl
    · split <;> rfl
theorem nex_rg : ∀ q, q < 1024 → ∀ y, y < 10 → (nexV (nI q) (nI y)).toInt < 0 ∨ (0 ≤ (nexV (nI q) (nI y)).toInt ∧ (nexV (nI q) (nI y)).toInt < 1024) := by decide +kernel
theorem aim_z : ∀ L, L < 16 → 0 < L → ∀ q, q < 10 → ((nI L * (9 : Int32)) - nI q) - ((nI L * (9 : Int32)) - nI q) / nI L * nI L = nI ((9 * L - q) % L) := by decide +kernel
theorem w_aimOf (hM : TM sd d σ) (hD : DOK d) (hp : p < d.1.2.1) : Ok (f_X12_aimOf (nI p) σ) (fun _ s => s = σ) := by
  have hl := hM.lp hp
  have loop : ∀ (dd q N : Nat) (y : Int32), q + dd = 10 → dd < N → Ok (f_X12_aimOf_4 N (nI p) y (nI q) σ) (fun _ s => s = σ) := by
    intro dd
    induction dd with
    | zero =>
      intro q N y hq hN
      obtain ⟨N, rfl⟩ : ∃ q, N = q + 1 := ⟨N - 1, by omega⟩
      show Ok (b_X12_aimOf_4 (f_X12_aimOf_4 N) (nI p) y (nI q) σ) _
      unfold b_X12_aimOf_4
      rw [nIt (n := q) (by omega)]
      exact Ok.t (by omega) (Ok.ret rfl)
    | succ dd ih =>
      intro q N y hq hN
      obtain ⟨N, rfl⟩ : ∃ q, N = q + 1 := ⟨N - 1, by omega⟩
      have eL : d.1.2.2.1 p = LnP d p := rfl
      show Ok (b_X12_aimOf_4 (f_X12_aimOf_4 N) (nI p) y (nI q) σ) _
      unfold b_X12_aimOf_4 f_X12_aimOf_51
      rw [nIt (n := q) (by omega)]
      refine Ok.f (by omega) (Ok.cle (e_lengthOf hM hp) (Ok.cle (e_lengthOf hM hp) ?_))
      rw [eL, nIt (n := LnP d p) (by omega), aim_z _ (by omega) (by omega) q (by omega)]
      have hm := Nat.mod_lt (9 * LnP d p - q) (show 0 < LnP d p by omega)
      refine Ok.f (by omega) (Ok.bd (Ok.cle (e_hAt hM hD hp (by omega)) (Ok.bd (Ok.i (fun _ => Ok.bd ?_) (fun _ => Ok.bd (Ok.bd ?_))))))
      · rw [nI_1]; exact ih (q + 1) N _ (by omega) (by omega)
      · rw [nI_1]; exact ih (q + 1) N _ (by omega) (by omega)
  exact loop 9 1 5000 0 (by omega) (by omega)
/-- how far off each set is: 99 for not at all, else by one step more than some next one -/
def FAR (f : Nat → Int32) : Prop := ∀ q, q < 1024 → f q = 99 ∨ f q = 0 ∨ ∃ w, 1 ≤ w ∧ w ≤ 12 ∧ f q = nI w ∧ ∃ y, y ≤ 9 ∧ ∃ r, r < 1024 ∧ nexV (nI q) (nI y) = nI r ∧ f r = nI (w - 1)
theorem n99 {w : Nat} (h : w ≤ 12) : nI w ≠ 99 := fun e => by
  have := congrArg Int32.toInt e
  rw [nIt (by omega)] at this
  have : (w : Int) = 99 := this
  omega
theorem n00 {w : Nat} (h : w ≤ 12) (h2 : 1 ≤ w) : nI w ≠ 0 := fun e => by
  have := congrArg Int32.toInt e
  rw [nIt (by omega)] at this
  have : (w : Int) = 0 := this
  omega
theorem FAR.put {f g : Nat → Int32} {q v r y : Nat} (h : FAR f) (hq : q < 1024) (h99 : f q = 99) (h1 : 1 ≤ v) (h2 : v ≤ 12) (hy : y ≤ 9) (hr : r < 1024) (e : nexV (nI q) (nI y) = nI r) (er : f r = nI (v - 1)) (hg : ∀ i, g i = if i = q then nI v else f i) : FAR g := fun i hi => by
  have ne : ∀ r' w, w ≤ 12 → f r' = nI w → r' ≠ q := fun r' w hw e2 e3 => by rw [e3, h99] at e2; exact n99 hw e2.symm
  by_cases c : i = q
  · subst c
    refine Or.inr (Or.inr ⟨v, h1, h2, by rw [hg, if_pos rfl], y, hy, r, hr, e, ?_⟩)
    rw [hg, if_neg (ne r (v - 1) (by omega) er)]; exact er
  · rw [hg i, if_neg c]
    rcases h i hi with g0 | g0 | ⟨w, w1, w2, w3, y', y1, r', r1, r2, r3⟩
    · exact Or.inl g0
    · exact Or.inr (Or.inl g0)
    · exact Or.inr (Or.inr ⟨w, w1, w2, w3, y', y1, r', r1, r2, by rw [hg, if_neg (ne r' (w - 1) (by omega) r3)]; exact r3⟩)
def w270 (a _k : Nat) : Bool := a == 270
theorem w270_Q (i k : Nat) (h : w270 i k = true) : wQ i k = true := by
  have : i = 270 := by unfold w270 at h; simpa using h
  subst this; rfl
theorem w_fillsFar : Okv (f_X12_fillsFar x σ) (fun s => FAR (s.1 270) ∧ frm w270 wl0 σ s) := by
  -- one more far
  have go34 : ∀ (dv v N : Nat) (s : HS), v + dv = 13 → dv < N → 1 ≤ v → FAR (s.1 270) → frm w270 wl0 σ s → Okv (f_X12_fillsFar_34 N (nI v) s) (fun s => FAR (s.1 270) ∧ frm w270 wl0 σ s) := by
    intro dv
    induction dv with
    | zero =>
      intro v N s hv hN h1 hF hf
      obtain ⟨N, rfl⟩ : ∃ q, N = q + 1 := ⟨N - 1, by omega⟩
      show Okv (b_X12_fillsFar_34 (f_X12_fillsFar_34 N) (nI v) s) _
      unfold b_X12_fillsFar_34
      rw [nIt (n := v) (by omega)]
      exact Okv.t (by omega) (Okv.ret ⟨hF, hf⟩)
    | succ dv ih =>
      intro v N s hv hN h1 hF hf
      obtain ⟨N, rfl⟩ : ∃ q, N = q + 1 := ⟨N - 1, by omega⟩
      have go42 : ∀ (dq q M : Nat) (s : HS), q + dq = 1024 → dq < M → FAR (s.1 270) → frm w270 wl0 σ s → Okv (f_X12_fillsFar_42 (f_X12_fillsFar_34 N) M (nI v) (nI q) s) (fun s => FAR (s.1 270) ∧ frm w270 wl0 σ s) := by
        intro dq
        induction dq with
        | zero =>
          intro q M s hq hM hF hf
          obtain ⟨M, rfl⟩ : ∃ q, M = q + 1 := ⟨M - 1, by omega⟩
          show Okv (b_X12_fillsFar_42 (f_X12_fillsFar_34 N) (f_X12_fillsFar_42 (f_X12_fillsFar_34 N) M) (nI v) (nI q) s) _
          unfold b_X12_fillsFar_42
          rw [nIt (n := q) (by omega)]
          refine Okv.f (by omega) (Okv.bd ?_)
          rw [nI_1]
          exact ih (v + 1) N s (by omega) (by omega) (by omega) hF hf
        | succ dq ihq =>
          intro q M s hq hM hF hf
          obtain ⟨M, rfl⟩ : ∃ q, M = q + 1 := ⟨M - 1, by omega⟩
          have nxt : ∀ s, FAR (s.1 270) → frm w270 wl0 σ s → Okv (f_X12_fillsFar_109 (f_X12_fillsFar_34 N) (f_X12_fillsFar_42 (f_X12_fillsFar_34 N) M) (nI v) (nI q) s) (fun s => FAR (s.1 270) ∧ frm w270 wl0 σ s) := fun s hF hf => by
            unfold f_X12_fillsFar_109
            refine Okv.bd ?_
            rw [nI_1]
            exact ihq (q + 1) M s (by omega) (by omega) hF hf
          have go52 : ∀ (dy y K : Nat) (s : HS), y + dy = 10 → dy < K → FAR (s.1 270) → frm w270 wl0 σ s → Okv (f_X12_fillsFar_52 (f_X12_fillsFar_34 N) (f_X12_fillsFar_42 (f_X12_fillsFar_34 N) M) K (nI v) (nI q) (nI y) s) (fun s => FAR (s.1 270) ∧ frm w270 wl0 σ s) := by
            intro dy
            induction dy with
            | zero =>
              intro y K s hy hK hF hf
              obtain ⟨K, rfl⟩ : ∃ q, K = q + 1 := ⟨K - 1, by omega⟩
              show Okv (b_X12_fillsFar_52 (f_X12_fillsFar_34 N) (f_X12_fillsFar_42 (f_X12_fillsFar_34 N) M) (f_X12_fillsFar_52 (f_X12_fillsFar_34 N) (f_X12_fillsFar_42 (f_X12_fillsFar_34 N) M) K) (nI v) (nI q) (nI y) s) _
              unfold b_X12_fillsFar_52
              rw [nIt (n := y) (by omega)]
              exact Okv.t (by omega) (nxt s hF hf)
            | succ dy ihy =>
              intro y K s hy hK hF hf
              obtain ⟨K, rfl⟩ : ∃ q, K = q + 1 := ⟨K - 1, by omega⟩
              have nx2 : ∀ s, FAR (s.1 270) → frm w270 wl0 σ s → Okv (f_X12_fillsFar_103 (f_X12_fillsFar_34 N) (f_X12_fillsFar_42 (f_X12_fillsFar_34 N) M) (f_X12_fillsFar_52 (f_X12_fillsFar_34 N) (f_X12_fillsFar_42 (f_X12_fillsFar_34 N) M) K) (nI v) (nI q) (nI y) s) (fun s => FAR (s.1 270) ∧ frm w270 wl0 σ s) := fun s hF hf => by
                unfold f_X12_fillsFar_103
                refine Okv.bd ?_
                rw [nI_1]
                exact ihy (y + 1) K s (by omega) (by omega) hF hf
              show Okv (b_X12_fillsFar_52 (f_X12_fillsFar_34 N) (f_X12_fillsFar_42 (f_X12_fillsFar_34 N) M) (f_X12_fillsFar_52 (f_X12_fillsFar_34 N) (f_X12_fillsFar_42 (f_X12_fillsFar_34 N) M) K) (nI v) (nI q) (nI y) s) _
              unfold b_X12_fillsFar_52
              rw [nIt (n := y) (by omega), nIt (n := q) (by omega), Int.toNat_natCast]
              refine Okv.f (by omega) (Okv.t (by omega) (Okv.i (fun c99 => ?_) (fun _ => nxt s hF hf)))
              have e99 : s.1 270 q = 99 := Int32.toInt_inj.mp c99
              have rg := nex_rg q (by omega) y (by omega)
              have en : f_X12_nextOf (nI q) (nI y) s = some (nexV (nI q) (nI y), s) := e_nextOf
              refine Okv.cl (P := fun r s' => r = nexV (nI q) (nI y) ∧ s' = s) (Ok.of en ⟨rfl, rfl⟩) (fun r s' hr => ?_)
              obtain ⟨rfl, rfl⟩ := hr
              refine Okv.i (fun _ => nx2 s' hF hf) (fun cn => Okv.t (by omega) (Okv.i (fun ce => Okv.t (by omega) (Okv.bd ?_)) (fun _ => nx2 s' hF hf)))
              have hv0 : nI v - (1 : Int32) = nI (v - 1) := by
                obtain ⟨w, rfl⟩ : ∃ w, v = w + 1 := ⟨v - 1, by omega⟩
                rw [nI_mm (by omega)]; rfl
              rw [hv0] at ce
              refine nx2 _ (hF.put (q := q) (v := v) (y := y) (r := (nexV (nI q) (nI y)).toInt.toNat) (by omega) e99 h1 (by omega) (by omega) (by omega) (nI_tn (by omega) (by omega)) (Int32.toInt_inj.mp ce) (fun i => ?_)) (hf.I rfl)
              by_cases ci : i = q
              · rw [ci, rI_s, if_pos rfl]
              · rw [rI_k ci, if_neg ci]
          show Okv (b_X12_fillsFar_42 (f_X12_fillsFar_34 N) (f_X12_fillsFar_42 (f_X12_fillsFar_34 N) M) (nI v) (nI q) s) _
          unfold b_X12_fillsFar_42
          rw [nIt (n := q) (by omega)]
          exact Okv.t (by omega) (go52 10 0 5000 s (by omega) (by omega) hF hf)
      show Okv (b_X12_fillsFar_34 (f_X12_fillsFar_34 N) (nI v) s) _
      unfold b_X12_fillsFar_34
      rw [nIt (n := v) (by omega)]
      exact Okv.f (by omega) (go42 1024 0 5000 s (by omega) (by omega) hF hf)
  -- the first filling
  have go2 : ∀ (dq q N : Nat) (s : HS), q + dq = 1024 → dq < N → (∀ i, i < q → s.1 270 i = 99 ∨ s.1 270 i = 0) → frm w270 wl0 σ s → Okv (f_X12_fillsFar_2 N x (nI q) s) (fun s => FAR (s.1 270) ∧ frm w270 wl0 σ s) := by
    intro dq
    induction dq with
    | zero =>
      intro q N s hq hN hz hf
      obtain ⟨N, rfl⟩ : ∃ q, N = q + 1 := ⟨N - 1, by omega⟩
      show Okv (b_X12_fillsFar_2 (f_X12_fillsFar_2 N) x (nI q) s) _
      unfold b_X12_fillsFar_2
      rw [nIt (n := q) (by omega)]
      refine Okv.f (by omega) (go34 12 1 5000 s (by omega) (by omega) (by omega) (fun i hi => ?_) hf)
      rcases hz i (by omega) with g | g
      · exact Or.inl g
      · exact Or.inr (Or.inl g)
    | succ dq ih =>
      intro q N s hq hN hz hf
      obtain ⟨N, rfl⟩ : ∃ q, N = q + 1 := ⟨N - 1, by omega⟩
      have st : ∀ v : Int32, (v = 99 ∨ v = 0) → Okv (f_X12_fillsFar_25 (f_X12_fillsFar_2 N) x (nI q) v (nI q) s) (fun s => FAR (s.1 270) ∧ frm w270 wl0 σ s) := fun v hv => by
        unfold f_X12_fillsFar_25
        rw [nIt (n := q) (by omega), Int.toNat_natCast]
        refine Okv.t (by omega) (Okv.bd (Okv.bd ?_))
        rw [nI_1]
        refine ih (q + 1) N _ (by omega) (by omega) (fun i hi => ?_) (hf.I rfl)
        by_cases c : i = q
        · rw [c, rI_s]; exact hv
        · rw [rI_k c]; exact hz i (by omega)
      show Okv (b_X12_fillsFar_2 (f_X12_fillsFar_2 N) x (nI q) s) _
      unfold b_X12_fillsFar_2
      rw [nIt (n := q) (by omega)]
      exact Okv.t (by omega) (Okv.i (fun _ => st 0 (Or.inr rfl)) (fun _ => st 99 (Or.inl rfl)))
  unfold f_X12_fillsFar
  rw [nI0]
  exact go2 1024 0 5000 σ (by omega) (by omega) (fun i hi => absurd hi (by omega)) frm.rf
theorem w_firstOf {q w : Nat} (hF : FAR (s.1 270)) (hq : q < 1024) (h1 : 1 ≤ w) (h2 : w ≤ 12) (e : s.1 270 q = nI w) : Ok (f_X12_firstOf (nI q) s) (fun r s2 => s2 = s ∧ ∃ y, y ≤ 9 ∧ r = nI y ∧ ∃ r', r' < 1024 ∧ nexV (nI q) (nI y) = nI r' ∧ s.1 270 r' = nI (w - 1)) := by
  obtain ⟨w', w1, w2, w3, Y, y1, R, r1, r2, r3⟩ : ∃ w', 1 ≤ w' ∧ w' ≤ 12 ∧ s.1 270 q = nI w' ∧ ∃ y, y ≤ 9 ∧ ∃ r, r < 1024 ∧ nexV (nI q) (nI y) = nI r ∧ s.1 270 r = nI (w' - 1) := by
    rcases hF q hq with g | g | g
    · rw [e] at g; exact absurd g (n99 h2)
    · rw [e] at g; exact absurd g (n00 h2 h1)
    · exact g
  have ew : w' = w := by
    have := congrArg Int32.toInt (w3.symm.trans e)
    rw [nIt (by omega), nIt (by omega)] at this
    omega
  subst ew
  have hv0 : nI w' - (1 : Int32) = nI (w' - 1) := by
    obtain ⟨v, rfl⟩ : ∃ v, w' = v + 1 := ⟨w' - 1, by omega⟩
    rw [nI_mm (by omega)]; rfl
  have loop : ∀ (dd y N : Nat), y + dd = Y → dd < N → Ok (f_X12_firstOf_2 N (nI q) (nI y) s) (fun r s2 => s2 = s ∧ ∃ y, y ≤ 9 ∧ r = nI y ∧ ∃ r', r' < 1024 ∧ nexV (nI q) (nI y) = nI r' ∧ s.1 270 r' = nI (w' - 1)) := by
    intro dd
    induction dd with
    | zero =>
      intro y N hy hN
      obtain ⟨N, rfl⟩ : ∃ q, N = q + 1 := ⟨N - 1, by omega⟩
      obtain rfl : y = Y := by omega
      show Ok (b_X12_firstOf_2 (f_X12_firstOf_2 N) (nI q) (nI y) s) _
      unfold b_X12_firstOf_2
      refine Ok.cle e_nextOf ?_
      rw [r2, nIt (n := R) (by omega)]
      refine Ok.f (by omega) (Ok.cle e_nextOf ?_)
      rw [r2, nIt (n := R) (by omega), nIt (n := q) (by omega), Int.toNat_natCast, Int.toNat_natCast, r3, e, hv0]
      exact Ok.t (by omega) (Ok.t (by omega) (Ok.t rfl (Ok.ret ⟨rfl, y, y1, rfl, R, r1, r2, r3⟩)))
    | succ dd ih =>
      intro y N hy hN
      obtain ⟨N, rfl⟩ : ∃ q, N = q + 1 := ⟨N - 1, by omega⟩
      have nxt : Ok (f_X12_firstOf_31 (f_X12_firstOf_2 N) (nI q) (nI y) s) (fun r s2 => s2 = s ∧ ∃ y, y ≤ 9 ∧ r = nI y ∧ ∃ r', r' < 1024 ∧ nexV (nI q) (nI y) = nI r' ∧ s.1 270 r' = nI (w' - 1)) := by
        unfold f_X12_firstOf_31
        refine Ok.bd ?_
        rw [nI_1]
        exact ih (y + 1) N (by omega) (by omega)
      have rg := nex_rg q hq y (by omega)
      show Ok (b_X12_firstOf_2 (f_X12_firstOf_2 N) (nI q) (nI y) s) _
      unfold b_X12_firstOf_2
      refine Ok.cle e_nextOf (Ok.i (fun _ => nxt) (fun cn => Ok.cle e_nextOf ?_))
      rw [nIt (n := q) (by omega), Int.toNat_natCast, e, hv0]
      refine Ok.t (by omega) (Ok.t (by omega) (Ok.i (fun ce => Ok.ret ⟨rfl, y, by omega, rfl, _, ?_, nI_tn (by omega) (by omega), Int32.toInt_inj.mp ce⟩) (fun _ => nxt)))
      omega
  unfold f_X12_firstOf
  rw [nI0]
  exact loop Y 0 5000 (by omega) (by omega)
theorem q_into_m (h : RELx n d t u sd ρ k nx H m tb9 G σ) : Ok (f_X12_into x y σ) (fun _ s => frm wQ wl0 σ s) := by
  have hT := h.tc.T7
  have hP := h.tc.2.1.2.1
  unfold f_X12_into
  have h55 : ∀ s, frm wQ wl0 σ s → Ok (f_X12_into_55 y s) (fun _ s => frm wQ wl0 σ s) := fun s hs => by
    unfold f_X12_into_55
    exact Ok.i (fun _ => Ok.ret hs) (fun _ => Ok.ret hs)
  refine Ok.cle (e_isPattern h.tm.lv h.tm.2.2.2.1.1 hP) ?_
  by_cases c : 0 ≤ x.toInt ∧ x.toInt < d.1.2.1
  · obtain ⟨p, hp, rfl⟩ := in_T c (by omega)
    refine Ok.f (fun e => if10.mp e c) (Ok.cl (w_keepsOf h.tm h.ok hp) (fun r3 s3 h3 => ?_))
    have f3 : frm wQ wl0 σ s3 := h3.2.2.sub tp_wQ
    refine Ok.i (fun _ => Ok.ret f3) (fun _ => Ok.i (fun _ => Ok.ret f3) (fun cy => Ok.cl (w_landsM (h.fr f3)) (fun r5 s5 h5 => ?_)))
    obtain ⟨e5, R5, g5⟩ := h5
    have f5 : frm wQ wl0 σ s5 := f3.tr (g5.sub cp_wQ)
    have h5 := h.fr f5
    refine Ok.cl (w_aimOf h5.tm h5.ok hp) (fun r7 s7 h7 => ?_)
    subst h7
    refine Ok.cv w_fillsFar (fun s9 h9 => ?_)
    have f9 : frm wQ wl0 σ s9 := f5.tr (h9.2.sub w270_Q)
    have M9 := (h.fr f9).tm
    have soon : Ok (f_X12_areTwoSoon s9) (fun _ s => s = s9) := by
      have loop : ∀ (dd q N : Nat), q + dd = 10 → dd < N → Ok (f_X12_areTwoSoon_2 N (nI q) s9) (fun _ s => s = s9) := by
        intro dd
        induction dd with
        | zero =>
          intro q N hq hN
          obtain ⟨N, rfl⟩ : ∃ q, N = q + 1 := ⟨N - 1, by omega⟩
          show Ok (b_X12_areTwoSoon_2 (f_X12_areTwoSoon_2 N) (nI q) s9) _
          unfold b_X12_areTwoSoon_2
          rw [nIt (n := q) (by omega)]
          exact Ok.f (by omega) (Ok.ret rfl)
        | succ dd ih =>
          intro q N hq hN
          obtain ⟨N, rfl⟩ : ∃ q, N = q + 1 := ⟨N - 1, by omega⟩
          show Ok (b_X12_areTwoSoon_2 (f_X12_areTwoSoon_2 N) (nI q) s9) _
          unfold b_X12_areTwoSoon_2
          rw [nIt (n := q) (by omega)]
          refine Ok.t (by omega) (Ok.cle (e_landsAt M9.lv) (Ok.i (fun _ => Ok.ret rfl) (fun _ => Ok.bd ?_)))
          rw [nI_1]
          exact ih (q + 1) N (by omega) (by omega)
      unfold f_X12_areTwoSoon
      rw [nI0]
      exact loop 10 0 5000 (by omega) (by omega)
    have hb := bsN_lt (p := lanP ρ d.1.1.1) (n := 10)
    have e5' : r5 = nI (bsN (lanP ρ d.1.1.1) 10) := by rw [e5]; unfold lanS; exact bset_N (by omega)
    generalize hB : bsN (lanP ρ d.1.1.1) 10 = B at e5' hb
    subst e5'
    have hB1 : B < 1024 := by omega
    refine Ok.cl soon (fun r11 s11 h11 => ?_)
    subst h11
    rw [nIt (n := B) (by omega), Int.toNat_natCast]
    refine Ok.i (fun _ => Ok.t (by omega) (Ok.i (fun _ => h55 s11 f9) (fun c99 => Ok.i (fun _ => Ok.t (by omega) (Ok.ret f9)) (fun cn => Ok.t (by omega) (Ok.i (fun cl => ?_) (fun _ => Ok.ret f9)))))) (fun _ => h55 s11 f9)
    obtain ⟨w, w1, w2, w3⟩ : ∃ w, 1 ≤ w ∧ w ≤ 12 ∧ s11.1 270 B = nI w := by
      rcases h9.1 B hB1 with g | g | ⟨w, w1, w2, w3, -⟩
      · exact absurd (congrArg Int32.toInt g) c99
      · rw [g, i0_eq] at cl; omega
      · exact ⟨w, w1, w2, w3⟩
    rw [w3, nIt (n := w) (by omega)] at cl
    obtain ⟨X, hX, rfl⟩ : ∃ X : Nat, X < w ∧ y = nI X := ⟨y.toInt.toNat, by omega, nI_tn (by omega) (by omega)⟩
    have loop : ∀ (dd j N q w : Nat), j + dd = X → dd < N → q < 1024 → dd < w → w ≤ 12 → s11.1 270 q = nI w → Ok (f_X12_into_95 N (nI X) (nI q) (nI j) s11) (fun _ s => frm wQ wl0 σ s) := by
      intro dd
      induction dd with
      | zero =>
        intro j N q w hj hN hq hw hw2 e
        obtain ⟨N, rfl⟩ : ∃ q, N = q + 1 := ⟨N - 1, by omega⟩
        show Ok (b_X12_into_95 (f_X12_into_95 N) (nI X) (nI q) (nI j) s11) _
        unfold b_X12_into_95
        rw [nIt (n := j) (by omega), nIt (n := X) (by omega)]
        exact Ok.f (by omega) (Ok.cl (w_firstOf h9.1 hq (by omega) hw2 e) (fun r s hs => Ok.ret (by rw [hs.1]; exact f9)))
      | succ dd ih =>
        intro j N q w hj hN hq hw hw2 e
        obtain ⟨N, rfl⟩ : ∃ q, N = q + 1 := ⟨N - 1, by omega⟩
        show Ok (b_X12_into_95 (f_X12_into_95 N) (nI X) (nI q) (nI j) s11) _
        unfold b_X12_into_95
        rw [nIt (n := j) (by omega), nIt (n := X) (by omega)]
        refine Ok.t (by omega) (Ok.cl (w_firstOf h9.1 hq (by omega) hw2 e) (fun r s hs => ?_))
        obtain ⟨rfl, y, y1, rfl, r', r1, r2, r3⟩ := hs
        refine Ok.cle e_nextOf (Ok.bd ?_)
        rw [r2, nI_1]
        exact ih (j + 1) N r' (w - 1) (by omega) (by omega) r1 (by omega) (by omega) r3
    have := loop X 0 5000 B w (by omega) (by omega) hB1 hX w2 w3
    rw [nI_0] at this
    exact this
  · exact Ok.t (if10.mpr c) (Ok.ret frm.rf)
theorem simx_into : SIMx n (f_X11_into x y) (f_X12_into x y) := sim_x (fun d t u sd ρ k nx H m tb G σ h => ⟨q_into_c h, q_into_m h⟩)
end INTOM
/-! ways: that both answer -/
section WAYS9
variable {σ s s2 : HS} {n t u sd k nx m T p : Nat} {ρ : Nat → Int32} {d : DAT} {b : Int} {H G : Nat → Nat → Int32} {tb9 : Nat → Nat} {x y z x1 x2 x3 x4 : Int32}
def w24 (a k : Nat) : Bool := (a == 22 && k == 2) || a == 23 || a == 24
theorem w24_Q (i k : Nat) (h : w24 i k = true) : wQ i k = true := by
  unfold w24 at h
  simp only [Bool.or_eq_true, Bool.and_eq_true, beq_iff_eq] at h
  rcases h with (⟨h, h2⟩ | h) | h <;> subst h <;> rfl
theorem w_finish {P : Nat} (h3 : s.1 22 3 = nI P) (hP : 1 ≤ P ∧ P ≤ 5) : Okv (f_X8_finish s) (fun s2 => frm w24 wl0 s s2) := by
  have st : ∀ s1, frm w24 wl0 s s1 → Okv (f_X8_finish_24 s1) (fun s2 => frm w24 wl0 s s2) := fun s1 h1 => by
    unfold f_X8_finish_24
    exact Okv.bd (Okv.ret (h1.I rfl))
  unfold f_X8_finish
  rw [h3, nIt (n := P) (by omega)]
  exact Okv.i (fun _ => Okv.t (by omega) (Okv.bd (st _ (frm.rf.A (fun _ => rfl))))) (fun _ => st s frm.rf)
theorem w_fill8 {P M : Nat} (hP : 1 ≤ P ∧ P ≤ 5) (hM : M ≤ 7) : ∀ (dd a N : Nat) (x2 x3 : Int32) (s : HS), a + dd = P → dd < N → s.1 22 3 = nI P → s.1 22 4 = nI M → Okv (f_X8_fill N (nI a) x2 x3 s) (fun s2 => frm w24 wl0 s s2) := by
  intro dd
  induction dd with
  | zero =>
    intro a N x2 x3 s ha hN h3 h4
    obtain ⟨N, rfl⟩ : ∃ q, N = q + 1 := ⟨N - 1, by omega⟩
    show Okv (g_X8_fill (f_X8_fill N) (nI a) x2 x3 s) _
    unfold g_X8_fill
    rw [h3, nIt (n := a) (by omega), nIt (n := P) (by omega)]
    exact Okv.f (by omega) (Okv.i (fun _ => Okv.cv (w_finish h3 hP) (fun s1 h1 => Okv.ret h1)) (fun _ => Okv.ret frm.rf))
  | succ dd ih =>
    intro a N x2 x3 s ha hN h3 h4
    obtain ⟨N, rfl⟩ : ∃ q, N = q + 1 := ⟨N - 1, by omega⟩
    have loop : ∀ (dy y K : Nat) (s1 : HS), y + dy = M + 1 → dy < K → frm w24 wl0 s s1 → Okv (f_X8_fill_20 (f_X8_fill N) K (nI a) x2 x3 (nI y) s1) (fun s2 => frm w24 wl0 s s2) := by
      intro dy
      induction dy with
      | zero =>
        intro y K s1 hy hK hf
        obtain ⟨K, rfl⟩ : ∃ q, K = q + 1 := ⟨K - 1, by omega⟩
        show Okv (b_X8_fill_20 (f_X8_fill N) (f_X8_fill_20 (f_X8_fill N) K) (nI a) x2 x3 (nI y) s1) _
        unfold b_X8_fill_20
        rw [hf.1 22 4 rfl, h4, nIt (n := y) (by omega), nIt (n := M) (by omega)]
        exact Okv.t (by omega) (Okv.ret hf)
      | succ dy ihy =>
        intro y K s1 hy hK hf
        obtain ⟨K, rfl⟩ : ∃ q, K = q + 1 := ⟨K - 1, by omega⟩
        have nxt : ∀ s1, frm w24 wl0 s s1 → Okv (f_X8_fill_78 (f_X8_fill N) (f_X8_fill_20 (f_X8_fill N) K) (nI a) x2 x3 (nI y) s1) (fun s2 => frm w24 wl0 s s2) := fun s1 hf => by
          unfold f_X8_fill_78
          refine Okv.bd ?_
          rw [nI_1]
          exact ihy (y + 1) K s1 (by omega) (by omega) hf
        show Okv (b_X8_fill_20 (f_X8_fill N) (f_X8_fill_20 (f_X8_fill N) K) (nI a) x2 x3 (nI y) s1) _
        unfold b_X8_fill_20
        rw [hf.1 22 4 rfl, hf.1 22 3 rfl, h3, h4, nIt (n := y) (by omega), nIt (n := M) (by omega), nIt (n := P) (by omega), nIt (n := a) (by omega), Int.toNat_natCast]
        refine Okv.f (by omega) (Okv.i (fun _ => Okv.ret hf) (fun _ => Okv.f (by omega) (Okv.bd (Okv.i (fun _ => Okv.t (by omega) (Okv.bd ?_)) (fun _ => nxt s1 hf)))))
        have F2 : frm w24 wl0 s (hI s1 23 a (nI y)) := hf.I rfl
        have := ih (a + 1) N (x2 ||| ((1 : Int32) <<< (((nI a + nI y) - (nI a + nI y) / nI P * nI P) &&& 31))) (x3 - nI y) (hI s1 23 a (nI y)) (by omega) (by omega) (by rw [F2.1 22 3 rfl]; exact h3) (by rw [F2.1 22 4 rfl]; exact h4)
        rw [nI_1 a]
        exact Okv.cv this (fun s3 h3' => nxt s3 (F2.tr h3'))
    show Okv (g_X8_fill (f_X8_fill N) (nI a) x2 x3 s) _
    unfold g_X8_fill
    rw [h3, nIt (n := a) (by omega), nIt (n := P) (by omega)]
    exact Okv.t (by omega) (loop (M + 1) 0 5000 s (by omega) (by omega) frm.rf)
theorem cap5 : ∀ P, P < 6 → 1 ≤ P → (if (1 : Int32) < (if (5 : Int32) < nI P then 5 else nI P) then (if (5 : Int32) < nI P then 5 else nI P) else 1) = nI P := by decide +kernel
theorem q_ways_c9 : Ok (f_X11_ways x1 x2 x3 x4 σ) (fun _ s => frm wQ wl0 σ s) := by
  unfold f_X11_ways
  refine Ok.i (fun _ => Ok.ret frm.rf) (fun a1 => Ok.i (fun _ => Ok.ret frm.rf) (fun a2 => Ok.i (fun _ => Ok.ret frm.rf) (fun a3 => Ok.i (fun _ => Ok.ret frm.rf) (fun a4 => Ok.i (fun _ => Ok.ret frm.rf) (fun a5 => Ok.i (fun _ => Ok.ret frm.rf) (fun a6 => Ok.i (fun _ => Ok.ret frm.rf) (fun a7 => Ok.i (fun a8 => ?_) (fun _ => Ok.ret frm.rf))))))))
  obtain ⟨P, hP, rfl⟩ : ∃ P : Nat, (1 ≤ P ∧ P ≤ 5) ∧ x1 = nI P := ⟨x1.toInt.toNat, by omega, nI_tn (by omega) (by omega)⟩
  obtain ⟨M, hM, rfl⟩ : ∃ P : Nat, (1 ≤ P ∧ P ≤ 7) ∧ x2 = nI P := ⟨x2.toInt.toNat, by omega, nI_tn (by omega) (by omega)⟩
  rw [nIt (n := P) (by omega)] at a8
  have fnd : Okv (f_X8_find (nI P) (nI M) x3 σ) (fun s => frm wQ wl0 σ s) := by
    unfold f_X8_find
    refine Okv.bd (Okv.bd (Okv.bd ?_))
    rw [cap5 P (by omega) (by omega), nI0]
    have F : frm wQ wl0 σ (hI (hI (hI σ 22 3 (nI P)) 22 4 (nI M)) 22 2 (nI 0)) := ((frm.rf.I rfl).I rfl).I rfl
    refine Okv.cv (w_fill8 hP hM.2 P 0 7 _ _ _ (by omega) (by omega) ?_ ?_) (fun s1 h1 => Okv.ret (F.tr (h1.sub w24_Q)))
    · rw [rI_k (by decide), rI_k (by decide), rI_s]
    · rw [rI_k (by decide), rI_s]
  refine Ok.cv fnd (fun s1 h1 => Ok.i (fun _ => Ok.ret h1) (fun a9 => Ok.i (fun _ => Ok.ret h1) (fun _ => Ok.t (by omega) (Ok.ret h1))))
theorem nI_mulB {a c : Nat} (ha : a ≤ 4096) (hc : c ≤ 8) : nI a * nI c = nI (a * c) := Int32.toInt_inj.mp (by
  have hb : a * c ≤ 4096 * 8 := Nat.mul_le_mul ha hc
  rw [Int32.toInt_mul, nIt (n := a) (by omega), nIt (n := c) (by omega), nIt (n := a * c) (by omega), ← Int.natCast_mul, Int.bmod_def]
  omega)
theorem q_ways_m9 : Ok (f_X12_ways x1 x2 x3 x4 σ) (fun _ s => frm wQ wl0 σ s) := by
  unfold f_X12_ways
  refine Ok.cle e_in ?_
  by_cases a1 : (1 : Int32).toInt ≤ x1.toInt ∧ x1.toInt ≤ (5 : Int32).toInt
  · refine Ok.f (fun e => if10.mp e a1) (Ok.cle e_in ?_)
    by_cases a2 : (1 : Int32).toInt ≤ x2.toInt ∧ x2.toInt ≤ (7 : Int32).toInt
    · refine Ok.f (fun e => if10.mp e a2) (Ok.cle e_in ?_)
      by_cases a3 : (0 : Int32).toInt ≤ x3.toInt ∧ x3.toInt ≤ (7 : Int32).toInt
      · refine Ok.f (fun e => if10.mp e a3) (Ok.cle e_in ?_)
        by_cases a4 : (-1 : Int32).toInt ≤ x4.toInt ∧ x4.toInt ≤ (x1 - (1 : Int32)).toInt
        · refine Ok.f (fun e => if10.mp e a4) ?_
          have c1 : (1 : Int32).toInt = 1 := rfl
          have c5 : (5 : Int32).toInt = 5 := rfl
          have c7 : (7 : Int32).toInt = 7 := rfl
          have cm : (-1 : Int32).toInt = -1 := rfl
          rw [c1, c5] at a1
          rw [c1, c7] at a2
          rw [cm] at a4
          obtain ⟨P, hP, rfl⟩ : ∃ P : Nat, (1 ≤ P ∧ P ≤ 5) ∧ x1 = nI P := ⟨x1.toInt.toNat, by omega, nI_tn (by omega) (by omega)⟩
          obtain ⟨M, hM, rfl⟩ : ∃ P : Nat, (1 ≤ P ∧ P ≤ 7) ∧ x2 = nI P := ⟨x2.toInt.toNat, by omega, nI_tn (by omega) (by omega)⟩
          have eP : nI P - (1 : Int32) = nI (P - 1) := by
            obtain ⟨q, rfl⟩ : ∃ q, P = q + 1 := ⟨P - 1, by omega⟩
            rw [nI_mm (by omega)]; rfl
          rw [eP, nIt (n := P - 1) (by omega)] at a4
          have eM : nI M + (1 : Int32) = nI (M + 1) := nI_1 M
          have go80 : ∀ (dc c N : Nat) (tt : Nat) (y6 : Int32) (s : HS), tt ≤ 32768 → c + dc = tt → dc < N → s.1 236 57 = nI P → frm wQ wl0 σ s → Ok (f_X12_ways_80 N (nI P) (nI M) x3 x4 (nI tt) y6 (nI c) s) (fun _ s => frm wQ wl0 σ s) := by
            intro dc
            induction dc with
            | zero =>
              intro c N tt y6 s ht hc hN h57 hf
              obtain ⟨N, rfl⟩ : ∃ q, N = q + 1 := ⟨N - 1, by omega⟩
              show Ok (b_X12_ways_80 (f_X12_ways_80 N) (nI P) (nI M) x3 x4 (nI tt) y6 (nI c) s) _
              unfold b_X12_ways_80
              rw [nIt (n := c) (by omega), nIt (n := tt) (by omega)]
              exact Ok.f (by omega) (Ok.i (fun _ => Ok.ret hf) (fun _ => Ok.ret hf))
            | succ dc ih =>
              intro c N tt y6 s ht hc hN h57 hf
              obtain ⟨N, rfl⟩ : ∃ q, N = q + 1 := ⟨N - 1, by omega⟩
              have nxt : ∀ y6 s, s.1 236 57 = nI P → frm wQ wl0 σ s → Ok (f_X12_ways_155 (f_X12_ways_80 N) (nI P) (nI M) x3 x4 (nI tt) y6 (nI c) s) (fun _ s => frm wQ wl0 σ s) := fun y6 s h57 hf => by
                unfold f_X12_ways_155
                refine Ok.bd ?_
                rw [nI_1]
                exact ih (c + 1) N tt y6 s ht (by omega) (by omega) h57 hf
              have go96 : ∀ (dq K v : Nat) (y9 : Int32) (s : HS), y9.toInt = (dq : Int) - 1 → dq ≤ P → dq < K → v ≤ 32768 → s.1 236 57 = nI P → (∀ i, dq ≤ i → i < P → ∃ q, q ≤ 9 ∧ s.1 269 i = nI q) → frm wQ wl0 σ s → Ok (f_X12_ways_96 (f_X12_ways_80 N) K (nI P) (nI M) x3 x4 (nI tt) y6 (nI c) (nI v) y9 s) (fun _ s => frm wQ wl0 σ s) := by
                intro dq
                induction dq with
                | zero =>
                  intro K v y9 s hy hd hK hv h57 hz hf
                  obtain ⟨K, rfl⟩ : ∃ q, K = q + 1 := ⟨K - 1, by omega⟩
                  have hm : HM P (fun i => (s.1 269 i).toInt.toNat) s := ⟨fun i hi => by
                    obtain ⟨q, q1, q2⟩ := hz i (by omega) hi
                    show s.1 269 i = nI ((s.1 269 i).toInt.toNat) ∧ (s.1 269 i).toInt.toNat ≤ 9
                    rw [q2, nIt (by omega), Int.toNat_natCast]
                    exact ⟨rfl, q1⟩, hP.1, by omega, h57⟩
                  show Ok (b_X12_ways_96 (f_X12_ways_80 N) (f_X12_ways_96 (f_X12_ways_80 N) K) (nI P) (nI M) x3 x4 (nI tt) y6 (nI c) (nI v) y9 s) _
                  unfold b_X12_ways_96
                  refine Ok.t (by omega) (Ok.cle (e_keeps hm) (Ok.i (fun _ => Ok.i (fun _ => Ok.bd (nxt _ s h57 hf)) (fun c4 => Ok.t (by omega) (Ok.ret hf))) (fun _ => nxt y6 s h57 hf)))
                | succ dq ihq =>
                  intro K v y9 s hy hd hK hv h57 hz hf
                  obtain ⟨K, rfl⟩ : ∃ q, K = q + 1 := ⟨K - 1, by omega⟩
                  obtain rfl : y9 = nI dq := Int32.toInt_inj.mp (by rw [nIt (by omega)]; omega)
                  show Ok (b_X12_ways_96 (f_X12_ways_80 N) (f_X12_ways_96 (f_X12_ways_80 N) K) (nI P) (nI M) x3 x4 (nI tt) y6 (nI c) (nI v) (nI dq) s) _
                  unfold b_X12_ways_96
                  have hlt := Nat.mod_lt v (show 0 < M + 1 by omega)
                  have hdv : v / (M + 1) ≤ v := Nat.div_le_self _ _
                  rw [eM, nIt (n := dq) (by omega), nIt (n := M + 1) (by omega), Int.toNat_natCast, pk_rem (a := v) (d := M + 1) (by omega) (by omega) (by omega), pk_div (a := v) (d := M + 1) (by omega) (by omega) (by omega)]
                  refine Ok.f (by omega) (Ok.f (by omega) (Ok.t (by omega) (Ok.bd (Ok.f (by omega) (Ok.bd (Ok.bd ?_))))))
                  refine ihq K (v / (M + 1)) _ _ ?_ (by omega) (by omega) (by omega) (by rw [rI_i (by decide)]; exact h57) (fun i h1 h2 => ?_) (hf.I rfl)
                  · cases dq with
                    | zero => rfl
                    | succ q => rw [show nI (q + 1) + (-1 : Int32) = nI q by rw [← nI_1 q, Int32.add_assoc]; exact Int32.add_zero _, nIt (by omega)]; omega
                  · by_cases ci : i = dq
                    · rw [ci, rI_s]; exact ⟨v % (M + 1), by omega, rfl⟩
                    · rw [rI_k ci]; exact hz i (by omega) h2
              show Ok (b_X12_ways_80 (f_X12_ways_80 N) (nI P) (nI M) x3 x4 (nI tt) y6 (nI c) s) _
              unfold b_X12_ways_80
              rw [nIt (n := c) (by omega), nIt (n := tt) (by omega), eP]
              refine Ok.t (by omega) (Ok.bd ?_)
              exact go96 P 5000 c (nI (P - 1)) s (by rw [nIt (by omega)]; omega) (Nat.le_refl _) (by omega) (by omega) h57 (fun i h1 h2 => absurd h2 (by omega)) hf
          have go49 : ∀ (dj j N tt : Nat), j + dj = P → dj < N → tt ≤ 8 ^ j → Ok (f_X12_ways_49 N (nI P) (nI M) x3 x4 (nI tt) (nI j) σ) (fun _ s => frm wQ wl0 σ s) := by
            intro dj
            induction dj with
            | zero =>
              intro j N tt hj hN ht
              obtain ⟨N, rfl⟩ : ∃ q, N = q + 1 := ⟨N - 1, by omega⟩
              have h8 : 8 ^ j ≤ 32768 := Nat.le_trans (Nat.pow_le_pow_right (by omega) (show j ≤ 5 by omega)) (by decide)
              show Ok (b_X12_ways_49 (f_X12_ways_49 N) (nI P) (nI M) x3 x4 (nI tt) (nI j) σ) _
              unfold b_X12_ways_49
              rw [nIt (n := j) (by omega), nIt (n := P) (by omega)]
              refine Ok.f (by omega) (Ok.bd ?_)
              rw [nI0]
              exact go80 tt 0 40000 tt _ _ (by omega) (by omega) (by omega) rI_s (frm.rf.I rfl)
            | succ dj ih =>
              intro j N tt hj hN ht
              obtain ⟨N, rfl⟩ : ∃ q, N = q + 1 := ⟨N - 1, by omega⟩
              have h8 : 8 ^ j ≤ 4096 := Nat.le_trans (Nat.pow_le_pow_right (by omega) (show j ≤ 4 by omega)) (by decide)
              have hb : tt * (M + 1) ≤ 8 ^ j * 8 := Nat.mul_le_mul ht (by omega)
              show Ok (b_X12_ways_49 (f_X12_ways_49 N) (nI P) (nI M) x3 x4 (nI tt) (nI j) σ) _
              unfold b_X12_ways_49
              rw [nIt (n := j) (by omega), nIt (n := P) (by omega), eM, nI_mulB (by omega) (by omega)]
              refine Ok.t (by omega) (Ok.bd (Ok.bd ?_))
              rw [nI_1]
              exact ih (j + 1) N _ (by omega) (by omega) (by rw [Nat.pow_succ]; exact hb)
          rw [show (1 : Int32) = nI 1 from rfl, nI0]
          exact go49 P 0 5000 1 (by omega) (by omega) (by decide)
        · exact Ok.t (if10.mpr a4) (Ok.ret frm.rf)
      · exact Ok.t (if10.mpr a3) (Ok.ret frm.rf)
    · exact Ok.t (if10.mpr a2) (Ok.ret frm.rf)
  · exact Ok.t (if10.mpr a1) (Ok.ret frm.rf)
theorem simx_ways : SIMx n (f_X11_ways x1 x2 x3 x4) (f_X12_ways x1 x2 x3 x4) := sim_x (fun d t u sd ρ k nx H m tb G σ h => ⟨q_ways_c9, q_ways_m9⟩)
end WAYS9
