/-! what glitters -/
section GLIT
variable {σ s : HS} {n t u sd k nx m p L T : Nat} {ρ : Nat → Int32} {d : DAT} {b : Int} {H G : Nat → Nat → Int32} {tb9 : Nat → Nat} {x y z : Int32}
theorem tb_orW {x : Int32} {a c : Nat} (h : a < 16) (hb : c < 32) : tb (x ||| bitI a) c = (tb x c || decide (c = a)) := by
  unfold tb
  rw [Int32.toBitVec_or, BitVec.getLsbD_or, bv_bit a h c hb]
theorem tb_bsW {q : Nat → Bool} {a : Nat} (ha : a < 32) : ∀ {n : Nat}, n ≤ 16 → tb (bset q n) a = (decide (a < n) && q a) := by
  intro n
  induction n with
  | zero => intro _; rw [decide_eq_false (by omega), Bool.false_and]; exact tb_0
  | succ n ih =>
    intro h
    show tb (if q n = true then bset q n ||| bitI n else bset q n) a = _
    by_cases c : q n = true
    · rw [if_pos c, tb_orW (by omega) ha, ih (by omega)]
      by_cases e : a = n
      · subst e; rw [decide_eq_false (show ¬ a < a by omega), decide_eq_true (show a < a + 1 by omega), c]; simp
      · by_cases e2 : a < n
        · rw [decide_eq_true e2, decide_eq_true (show a < n + 1 by omega), decide_eq_false e]; simp
        · rw [decide_eq_false e2, decide_eq_false (show ¬ a < n + 1 by omega), decide_eq_false e]; simp
    · rw [if_neg c, ih (by omega)]
      by_cases e : a = n
      · subst e; rw [decide_eq_false (show ¬ a < a by omega), decide_eq_true (show a < a + 1 by omega), Bool.eq_false_iff.mpr c]; simp
      · by_cases e2 : a < n
        · rw [decide_eq_true e2, decide_eq_true (show a < n + 1 by omega)]
        · rw [decide_eq_false e2, decide_eq_false (show ¬ a < n + 1 by omega)]
theorem tb_ext {x y : Int32} (h : ∀ a, a < 32 → tb x a = tb y a) : x = y := Int32.toBitVec_inj.mp (BitVec.eq_of_getLsbD_eq (fun i hi => h i hi))
theorem tb_an {x y : Int32} {a : Nat} : tb (x &&& y) a = (tb x a && tb y a) := by
  unfold tb
  rw [Int32.toBitVec_and, BitVec.getLsbD_and]
theorem bv_m1 : ∀ i, i < 32 → (Int32.toBitVec (-1)).getLsbD i = true := by decide +kernel
theorem tb_nt {x : Int32} {a : Nat} (h : a < 32) : tb (x ^^^ (-1)) a = !tb x a := by
  unfold tb
  rw [Int32.toBitVec_xor, BitVec.getLsbD_xor, bv_m1 a h]
  cases x.toBitVec.getLsbD a <;> rfl
theorem tb_bt {a c : Nat} (h : a < 16) (hb : c < 32) : tb (bitI a) c = decide (c = a) := bv_bit a h c hb
theorem bs_and {q : Nat → Bool} {f : Nat} (hf : f < 16) {n : Nat} (hn : n ≤ 16) : bset q n &&& bitI f = bset (fun e => q e && decide (e = f)) n := tb_ext (fun a ha => by
  rw [tb_an, tb_bsW ha hn, tb_bt hf ha, tb_bsW ha hn, Bool.and_assoc])
theorem bs_ann {q : Nat → Bool} {f : Nat} (hf : f < 16) {n : Nat} (hn : n ≤ 16) : bset q n &&& (bitI f ^^^ (-1)) = bset (fun e => q e && !decide (e = f)) n := tb_ext (fun a ha => by
  rw [tb_an, tb_bsW ha hn, tb_nt ha, tb_bt hf ha, tb_bsW ha hn, Bool.and_assoc])
theorem bs_an0 {q : Nat → Bool} {n : Nat} (hn : n ≤ 16) : bset q n &&& 0 = bset (fun _ => false) n := tb_ext (fun a ha => by
  rw [tb_an, tb_0, Bool.and_false, tb_bsW ha hn, Bool.and_false])
theorem bs_ann0 {q : Nat → Bool} {n : Nat} : bset q n &&& ((0 : Int32) ^^^ (-1)) = bset q n := tb_ext (fun a ha => by
  rw [tb_an, tb_nt ha, tb_0, Bool.not_false, Bool.and_true])
theorem bs_T {q : Nat → Bool} (hT : T ≤ 7) : bset q T = bset (fun e => decide (e < T) && q e) 7 := tb_ext (fun a ha => by
  rw [tb_bsW ha (by omega), tb_bsW ha (by omega)]
  by_cases c : a < T
  · rw [decide_eq_true c, decide_eq_true (show a < 7 by omega)]; simp
  · rw [decide_eq_false c]; simp)
/-- what is left of them, as known by k -/
def gliP (d : DAT) (ρ : Nat → Int32) (tb9 : Nat → Nat) (hd : Nat → Bool) : Nat → Nat → Bool
  | 0, e => decide (e < d.1.1.1) && upR ρ e
  | k + 1, e => gliP d ρ tb9 hd k e && (decide (firS d.1.1.1 (itS d none (tb9 k) ρ) = e) == hd k)
theorem gli_T {hd : Nat → Bool} {e : Nat} : ∀ {k : Nat}, gliP d ρ tb9 hd k e = true → e < d.1.1.1 := by
  intro k
  induction k with
  | zero =>
    intro h
    have h1 : (decide (e < d.1.1.1) && upR ρ e) = true := h
    rw [Bool.and_eq_true, decide_eq_true_eq] at h1
    exact h1.1
  | succ k ih =>
    intro h
    have h1 : (gliP d ρ tb9 hd k e && (decide (firS d.1.1.1 (itS d none (tb9 k) ρ) = e) == hd k)) = true := h
    rw [Bool.and_eq_true] at h1
    exact ih h1.1
def hdS (σ : HS) (i : Nat) : Bool := decide ((σ.1 273 i).toInt = 1)
theorem e_agreeing {K : Nat} (hT : d.1.1.1 ≤ 7) (hH : HEA m tb9 s) (hK : K ≤ m) (h27 : ∀ i, i < 41 → s.1 27 i = hanS d ρ i) : f_X2_agreeing 27 (bset (gliP d ρ tb9 (hdS s) 0) 7) (nI K) s = some (bset (gliP d ρ tb9 (hdS s) K) 7, s) := by
  obtain ⟨a1, a2, a3, a4⟩ := hH
  have loop : ∀ (dd q N : Nat), q + dd = K → dd < N → f_X2_agreeing_6 27 N (nI K) (bset (gliP d ρ tb9 (hdS s) q) 7) (nI q) s = some (bset (gliP d ρ tb9 (hdS s) K) 7, s) := by
    intro dd
    induction dd with
    | zero =>
      intro q N hq hN
      obtain ⟨N, rfl⟩ : ∃ q, N = q + 1 := ⟨N - 1, by omega⟩
      obtain rfl : q = K := by omega
      show b_X2_agreeing_6 27 (f_X2_agreeing_6 27 N) (nI q) _ (nI q) s = _
      unfold b_X2_agreeing_6
      rw [if_neg (Int.lt_irrefl _)]
    | succ dd ih =>
      intro q N hq hN
      obtain ⟨N, rfl⟩ : ∃ q, N = q + 1 := ⟨N - 1, by omega⟩
      obtain ⟨b1, b2, b3, b4, b5⟩ := a4 q (by omega)
      have hc := han_cau (ρ := ρ) (d := d) (i := tb9 q) hT
      have e61 : (Int32.ofNat (al 27)).toInt = 61 := rfl
      have e61' : (al 27 : Int) = 61 := rfl
      have ih1 := ih (q + 1) N (by omega) (by omega)
      have eg : ∀ e, gliP d ρ tb9 (hdS s) (q + 1) e = (gliP d ρ tb9 (hdS s) q e && (decide (firS d.1.1.1 (itS d none (tb9 q) ρ) = e) == hdS s q)) := fun e => rfl
      show b_X2_agreeing_6 27 (f_X2_agreeing_6 27 N) (nI K) _ (nI q) s = _
      unfold b_X2_agreeing_6
      rw [a1, nIt (n := q) (by omega), nIt (n := K) (by omega), nIt (n := m) (by omega), if_pos (show (q : Int) < K by omega), if_pos (show (q : Int) < m by omega), if_pos (show 0 ≤ (q : Int) ∧ (q : Int) < 20 by omega), Int.toNat_natCast, b1, e61, e61', nIt (n := tb9 q) (by omega), if_pos (show (tb9 q : Int) < 61 by omega), if_pos (show 0 ≤ (q : Int) ∧ (q : Int) < 20 by omega), if_pos (show 0 ≤ (tb9 q : Int) ∧ (tb9 q : Int) < 61 by omega), Int.toNat_natCast, h27 _ (by omega)]
      -- the last step, some bits given
      have fin : ∀ (v : Int32), (∀ q', (bset q' 7 &&& v) = bset (fun e => q' e && decide (firS d.1.1.1 (itS d none (tb9 q) ρ) = e ∧ e < d.1.1.1)) 7) → (∀ q', (bset q' 7 &&& (v ^^^ (-1))) = bset (fun e => q' e && !decide (firS d.1.1.1 (itS d none (tb9 q) ρ) = e ∧ e < d.1.1.1)) 7) → f_X2_agreeing_62 27 (f_X2_agreeing_6 27 N) (nI K) (bset (gliP d ρ tb9 (hdS s) q) 7) (nI q) v s = some (bset (gliP d ρ tb9 (hdS s) K) 7, s) := by
        intro v hv1 hv2
        have same : ∀ e, gliP d ρ tb9 (hdS s) q e = true → decide (firS d.1.1.1 (itS d none (tb9 q) ρ) = e ∧ e < d.1.1.1) = decide (firS d.1.1.1 (itS d none (tb9 q) ρ) = e) := fun e h => by
          have := gli_T h
          by_cases ce : firS d.1.1.1 (itS d none (tb9 q) ρ) = e
          · rw [decide_eq_true ce, decide_eq_true ⟨ce, this⟩]
          · rw [decide_eq_false ce, decide_eq_false (fun h => ce h.1)]
        unfold f_X2_agreeing_62 f_X2_agreeing_85
        rw [nIt (n := q) (by omega), if_pos (show 0 ≤ (q : Int) ∧ (q : Int) < 20 by omega), Int.toNat_natCast, b4]
        simp only [Bd]
        rw [nI_1]
        rcases b5 with b5 | b5
        · have hh : hdS s q = false := by unfold hdS; rw [b5]; rfl
          rw [b5, if_pos i0_eq, hv2]
          rw [← ih1]
          refine congrArg (fun w => f_X2_agreeing_6 27 N (nI K) w (nI (q + 1)) s) (bset_cg (fun e _ => ?_))
          rw [eg, hh]
          cases hg : gliP d ρ tb9 (hdS s) q e with
          | false => rfl
          | true =>
            rw [same e hg]
            cases decide (firS d.1.1.1 (itS d none (tb9 q) ρ) = e) <;> rfl
        · have hh : hdS s q = true := by unfold hdS; rw [b5]; rfl
          rw [b5, if_neg i1_ne, hv1]
          rw [← ih1]
          refine congrArg (fun w => f_X2_agreeing_6 27 N (nI K) w (nI (q + 1)) s) (bset_cg (fun e _ => ?_))
          rw [eg, hh]
          cases hg : gliP d ρ tb9 (hdS s) q e with
          | false => rfl
          | true =>
            rw [same e hg]
            cases decide (firS d.1.1.1 (itS d none (tb9 q) ρ) = e) <;> rfl
      unfold f_X2_agreeing_46
      by_cases cf : firS d.1.1.1 (itS d none (tb9 q) ρ) < d.1.1.1
      · rw [if_neg (fun e => hc.1.mp e cf), hc.2 cf]
        refine fin _ (fun q' => ?_) (fun q' => ?_)
        · show bset q' 7 &&& bitI _ = _
          rw [bs_and (by omega) (by omega)]
          refine bset_cg (fun e _ => ?_)
          by_cases ce : firS d.1.1.1 (itS d none (tb9 q) ρ) = e
          · rw [decide_eq_true ce.symm, decide_eq_true ⟨ce, by omega⟩]
          · rw [decide_eq_false (fun h => ce h.symm), decide_eq_false (fun h => ce h.1)]
        · show bset q' 7 &&& (bitI _ ^^^ (-1)) = _
          rw [bs_ann (by omega) (by omega)]
          refine bset_cg (fun e _ => ?_)
          by_cases ce : firS d.1.1.1 (itS d none (tb9 q) ρ) = e
          · rw [decide_eq_true ce.symm, decide_eq_true ⟨ce, by omega⟩]
          · rw [decide_eq_false (fun h => ce h.symm), decide_eq_false (fun h => ce h.1)]
      · rw [if_pos (hc.1.mpr cf)]
        refine fin _ (fun q' => ?_) (fun q' => ?_)
        · rw [bs_an0 (by omega)]
          exact bset_cg (fun e _ => by rw [decide_eq_false (by omega), Bool.and_false])
        · rw [bs_ann0]
          exact bset_cg (fun e _ => by rw [decide_eq_false (by omega), Bool.not_false, Bool.and_true])
  unfold f_X2_agreeing
  rw [nI0]
  exact loop K 0 5000 (by omega) (by omega)
theorem gli_0 {hd : Nat → Bool} (hT : d.1.1.1 ≤ 7) : bset (upR ρ) d.1.1.1 = bset (gliP d ρ tb9 hd 0) 7 := bs_T hT
/-- the reference's bits left -/
theorem w_glitterBits {K : Nat} (h : RELx n d t u sd ρ k nx H m tb9 G σ) (hn : n ≤ 512) (hK : K ≤ m) : Ok (f_X12_glitterBits (nI K) σ) (fun r s => r = bset (gliP d ρ tb9 (hdS σ) K) 7 ∧ (∀ i, i < 41 → s.1 274 i = cauS d.1.1.1 (itS d none i ρ)) ∧ frm wQ wl0 σ s) := by
  have hT := h.tc.T7
  obtain ⟨a1, a2, a3, a4⟩ := h.2.2.2.2.1
  unfold f_X12_glitterBits
  refine Ok.cv (m_trial h) (fun s1 h1 => Ok.cle (e_thingsSo (h.fr h1.2.2).tm.lv) ?_)
  have e0 : bset (fun e => decide ((s1.1 267 e).toInt = (0 : Int32).toInt)) d.1.1.1 = bset (gliP d ρ tb9 (hdS σ) 0) 7 := by
    rw [← gli_0 hT]
    exact bset_cg (fun e he => by
      have := h1.1.up (e := e) (by omega)
      unfold upR at this
      exact this)
  rw [e0]
  -- what is left, told by told
  have kil : ∀ (s : HS), frm wQ wl0 σ s → (∀ i, i < 41 → s.1 274 i = cauS d.1.1.1 (itS d none i ρ)) → ∀ (dd q N : Nat), q + dd = K → dd < N → f_X12_glitterBits_40 N (nI K) (bset (gliP d ρ tb9 (hdS σ) q) 7) (nI q) s = some (bset (gliP d ρ tb9 (hdS σ) K) 7, s) := by
    intro s hf h274 dd
    induction dd with
    | zero =>
      intro q N hq hN
      obtain ⟨N, rfl⟩ : ∃ q, N = q + 1 := ⟨N - 1, by omega⟩
      obtain rfl : q = K := by omega
      show b_X12_glitterBits_40 (f_X12_glitterBits_40 N) (nI q) _ (nI q) s = _
      unfold b_X12_glitterBits_40
      rw [if_neg (Int.lt_irrefl _)]
    | succ dd ih =>
      intro q N hq hN
      obtain ⟨N, rfl⟩ : ∃ q, N = q + 1 := ⟨N - 1, by omega⟩
      obtain ⟨b1, b2, b3, b4, b5⟩ := a4 q (by omega)
      have e272 : s.1 272 q = nI (tb9 q) := by rw [hf.1 272 q rfl]; exact b3
      have e273 : s.1 273 q = σ.1 273 q := hf.1 273 q rfl
      have inner : ∀ (k40 : Int32 → Int32 → Int32 → HS → Option (Int32 × HS)), ∀ (dd j N : Nat), j + dd = 7 → dd < N → f_X12_glitterBits_48 k40 N (nI K) (bset (fun e => gliP d ρ tb9 (hdS σ) q e && (decide (j ≤ e) || (decide (firS d.1.1.1 (itS d none (tb9 q) ρ) = e ∧ e < d.1.1.1) == hdS σ q))) 7) (nI q) (nI j) s = k40 (nI K) (bset (fun e => gliP d ρ tb9 (hdS σ) q e && (decide (7 ≤ e) || (decide (firS d.1.1.1 (itS d none (tb9 q) ρ) = e ∧ e < d.1.1.1) == hdS σ q))) 7) (nI (q + 1)) s := by
        intro k40 dd
        induction dd with
        | zero =>
          intro j N hj hN
          obtain ⟨N, rfl⟩ : ∃ q, N = q + 1 := ⟨N - 1, by omega⟩
          obtain rfl : j = 7 := by omega
          show b_X12_glitterBits_48 k40 (f_X12_glitterBits_48 k40 N) (nI K) _ (nI q) (nI 7) s = _
          unfold b_X12_glitterBits_48
          rw [if_neg (by decide)]
          simp only [Bd]
          rw [nI_1]
        | succ dd ih =>
          intro j N hj hN
          obtain ⟨N, rfl⟩ : ∃ q, N = q + 1 := ⟨N - 1, by omega⟩
          have ih1 := ih (j + 1) N (by omega) (by omega)
          show b_X12_glitterBits_48 k40 (f_X12_glitterBits_48 k40 N) (nI K) _ (nI q) (nI j) s = _
          unfold b_X12_glitterBits_48
          rw [nIt (n := j) (by omega), nIt (n := q) (by omega), if_pos (show (j : Int) < 7 by omega), if_pos (show 0 ≤ (q : Int) ∧ (q : Int) < 20 by omega), Int.toNat_natCast, e272, nIt (n := tb9 q) (by omega), if_pos (show 0 ≤ (tb9 q : Int) ∧ (tb9 q : Int) < 41 by omega), Int.toNat_natCast, h274 _ (by omega)]
          -- the test's two ways
          have go : ∀ (v : Bool), v = decide (firS d.1.1.1 (itS d none (tb9 q) ρ) = j ∧ j < d.1.1.1) → f_X12_glitterBits_76 k40 (f_X12_glitterBits_48 k40 N) (nI K) (bset (fun e => gliP d ρ tb9 (hdS σ) q e && (decide (j ≤ e) || (decide (firS d.1.1.1 (itS d none (tb9 q) ρ) = e ∧ e < d.1.1.1) == hdS σ q))) 7) (nI q) (nI j) (if v = true then 1 else 0) s = k40 (nI K) (bset (fun e => gliP d ρ tb9 (hdS σ) q e && (decide (7 ≤ e) || (decide (firS d.1.1.1 (itS d none (tb9 q) ρ) = e ∧ e < d.1.1.1) == hdS σ q))) 7) (nI (q + 1)) s := by
            intro v hv
            unfold f_X12_glitterBits_76 f_X12_glitterBits_94
            rw [nIt (n := q) (by omega), if_pos (show 0 ≤ (q : Int) ∧ (q : Int) < 20 by omega), Int.toNat_natCast, e273]
            simp only [Bd]
            rw [nI_1]
            have hh : (if v = true then (1 : Int32) else 0).toInt = (σ.1 273 q).toInt ↔ v = hdS σ q := by
              unfold hdS
              rcases b5 with b5 | b5 <;> rw [b5] <;> cases v <;> decide
            by_cases cv : v = hdS σ q
            · rw [if_pos (hh.mpr cv), ← ih1]
              refine congrArg (fun w => f_X12_glitterBits_48 k40 N (nI K) w (nI q) (nI (j + 1)) s) (bset_cg (fun e _ => ?_))
              by_cases ce : e = j
              · subst ce
                rw [decide_eq_true (Nat.le_refl e), decide_eq_false (show ¬ e + 1 ≤ e by omega), ← hv, cv]
                simp
              · by_cases cl : j ≤ e
                · rw [decide_eq_true cl, decide_eq_true (show j + 1 ≤ e by omega)]
                · rw [decide_eq_false cl, decide_eq_false (show ¬ j + 1 ≤ e by omega)]
            · rw [if_neg (fun e => cv (hh.mp e)), ← ih1]
              refine congrArg (fun w => f_X12_glitterBits_48 k40 N (nI K) w (nI q) (nI (j + 1)) s) ?_
              show bset _ 7 &&& (bitI j ^^^ (-1)) = _
              rw [bs_ann (by omega) (by omega)]
              refine bset_cg (fun e _ => ?_)
              by_cases ce : e = j
              · subst ce
                rw [decide_eq_true (Nat.le_refl e), decide_eq_false (show ¬ e + 1 ≤ e by omega), ← hv, decide_eq_true rfl]
                have e1 : (v == hdS σ q) = false := beq_eq_false_iff_ne.mpr cv
                rw [e1, Bool.not_true, Bool.and_false, Bool.or_false, Bool.and_false]
              · rw [decide_eq_false ce, Bool.not_false, Bool.and_true]
                by_cases cl : j ≤ e
                · rw [decide_eq_true cl, decide_eq_true (show j + 1 ≤ e by omega)]
                · rw [decide_eq_false cl, decide_eq_false (show ¬ j + 1 ≤ e by omega)]
          have hcau : (cauS d.1.1.1 (itS d none (tb9 q) ρ)).toInt = (j : Int) ↔ (firS d.1.1.1 (itS d none (tb9 q) ρ) = j ∧ j < d.1.1.1) := by
            unfold cauS
            by_cases cf : firS d.1.1.1 (itS d none (tb9 q) ρ) < d.1.1.1
            · rw [if_pos cf, nIt (by omega)]; constructor
              · intro e; exact ⟨by omega, by omega⟩
              · intro e; omega
            · rw [if_neg cf]; constructor
              · intro e
                have e2 : (-2 : Int32).toInt = -2 := by decide
                rw [e2] at e; omega
              · intro e; omega
          by_cases cj : firS d.1.1.1 (itS d none (tb9 q) ρ) = j ∧ j < d.1.1.1
          · rw [if_pos (hcau.mpr cj)]
            exact go true (decide_eq_true cj).symm
          · rw [if_neg (fun e => cj (hcau.mp e))]
            exact go false (decide_eq_false cj).symm
      have ih1 := ih (q + 1) N (by omega) (by omega)
      show b_X12_glitterBits_40 (f_X12_glitterBits_40 N) (nI K) _ (nI q) s = _
      unfold b_X12_glitterBits_40
      rw [nIt (n := q) (by omega), nIt (n := K) (by omega), if_pos (show (q : Int) < K by omega)]
      have i0 := inner (f_X12_glitterBits_40 N) 7 0 5000 (by omega) (by omega)
      have e1 : bset (fun e => gliP d ρ tb9 (hdS σ) q e && (decide (0 ≤ e) || (decide (firS d.1.1.1 (itS d none (tb9 q) ρ) = e ∧ e < d.1.1.1) == hdS σ q))) 7 = bset (gliP d ρ tb9 (hdS σ) q) 7 := bset_cg (fun e _ => by rw [decide_eq_true (Nat.zero_le e), Bool.true_or, Bool.and_true])
      have e2 : bset (fun e => gliP d ρ tb9 (hdS σ) q e && (decide (7 ≤ e) || (decide (firS d.1.1.1 (itS d none (tb9 q) ρ) = e ∧ e < d.1.1.1) == hdS σ q))) 7 = bset (gliP d ρ tb9 (hdS σ) (q + 1)) 7 := bset_cg (fun e he => by
        rw [decide_eq_false (by omega), Bool.false_or]
        show _ = (gliP d ρ tb9 (hdS σ) q e && (decide (firS d.1.1.1 (itS d none (tb9 q) ρ) = e) == hdS σ q))
        cases hg : gliP d ρ tb9 (hdS σ) q e with
        | false => rfl
        | true =>
          have := gli_T hg
          by_cases ce : firS d.1.1.1 (itS d none (tb9 q) ρ) = e
          · rw [decide_eq_true ce, decide_eq_true ⟨ce, this⟩]
          · rw [decide_eq_false ce, decide_eq_false (fun h => ce h.1)])
      rw [e1, e2, nI_0] at i0
      rw [i0]
      exact ih1
  have loop : ∀ (dd q N : Nat) (s : HS), q + dd = 41 → dd < N → TRm d ρ σ q s → (∀ i, i < q → s.1 274 i = cauS d.1.1.1 (itS d none i ρ)) → Ok (f_X12_glitterBits_12 N (nI K) (bset (gliP d ρ tb9 (hdS σ) 0) 7) (nI q) s) (fun r s => r = bset (gliP d ρ tb9 (hdS σ) K) 7 ∧ (∀ i, i < 41 → s.1 274 i = cauS d.1.1.1 (itS d none i ρ)) ∧ frm wQ wl0 σ s) := by
    intro dd
    induction dd with
    | zero =>
      intro q N s hq hN hs h274
      obtain ⟨N, rfl⟩ : ∃ q, N = q + 1 := ⟨N - 1, by omega⟩
      obtain rfl : q = 41 := by omega
      show Ok (b_X12_glitterBits_12 (f_X12_glitterBits_12 N) (nI K) _ (nI 41) s) _
      unfold b_X12_glitterBits_12
      refine Ok.t (by decide) ?_
      have := kil s hs.2.2 h274 K 0 5000 (by omega) (by omega)
      rw [nI_0] at this
      exact Ok.of this ⟨rfl, h274, hs.2.2⟩
    | succ dd ih =>
      intro q N s hq hN hs h274
      obtain ⟨N, rfl⟩ : ∃ q, N = q + 1 := ⟨N - 1, by omega⟩
      show Ok (b_X12_glitterBits_12 (f_X12_glitterBits_12 N) (nI K) _ (nI q) s) _
      unfold b_X12_glitterBits_12
      rw [nIt (n := q) (by omega), Int.toNat_natCast]
      refine Ok.f (by omega) (Ok.cv (m_beat h hn (by omega) hs) (fun s1 h1 => Ok.t (by omega) (Ok.bd (Ok.bd ?_))))
      obtain ⟨T1, e51, -, -, f1⟩ := h1
      rw [nI_1, e51]
      have f3 : frm (fun a _ => a == 274) wl0 s1 (hI s1 274 q (cauS d.1.1.1 (itS d none q ρ))) := frm.rf.I rfl
      refine ih (q + 1) N _ (by omega) (by omega) ⟨T1.1.fr f3 (fun _ => rfl), ?_, T1.2.2.I rfl⟩ (fun i hi => ?_)
      · unfold SDm
        rw [f3.1 236 49 rfl, f3.1 236 50 rfl]; exact T1.2.1
      · by_cases ci : i = q
        · rw [ci, rI_s]
        · rw [rI_k ci, f1.1 274 i rfl]; exact h274 i (by omega)
  rw [nI0]
  exact loop 41 0 5000 s1 (by omega) (by omega) h1 (fun i hi => absurd hi (by omega))
/-! glitters, watch -/
def glsS (d : DAT) (ρ : Nat → Int32) (tb9 : Nat → Nat) (hd : Nat → Bool) (m : Nat) (x y : Int32) : Int32 := if (0 ≤ x.toInt ∧ x.toInt ≤ m) ∧ (0 ≤ y.toInt ∧ y.toInt ≤ 1) then (if y.toInt = 0 then nI (cntB (gliP d ρ tb9 hd x.toInt.toNat) 7) else bset (gliP d ρ tb9 hd x.toInt.toNat) 7) else -1
theorem glsS_in {hd : Nat → Bool} {K : Nat} (hK : K ≤ m) (hm : m ≤ 20) (hy : 0 ≤ y.toInt ∧ y.toInt ≤ 1) : glsS d ρ tb9 hd m (nI K) y = if y.toInt = 0 then nI (cntB (gliP d ρ tb9 hd K) 7) else bset (gliP d ρ tb9 hd K) 7 := by
  unfold glsS
  rw [nIt (by omega), Int.toNat_natCast]
  exact if_pos ⟨⟨by omega, by omega⟩, hy⟩
theorem hd_fr {w : Nat → Nat → Bool} {wl : Nat → Bool} (hf : frm w wl σ s) (hw : ∀ k, w 273 k = false) : hdS s = hdS σ := funext fun i => by unfold hdS; rw [hf.1 273 i (hw i)]
theorem q_left_c {K : Nat} (h : RELx n d t u sd ρ k nx H m tb9 G σ) (hn : n ≤ 512) (hK : K ≤ m) : Okv (f_X11_findHands 41 σ) (fun s => f_X0_bitsOf 56 0 s = some (bset (gliP d ρ tb9 (hdS σ) 0) 7, s) ∧ f_X2_agreeing 27 (bset (gliP d ρ tb9 (hdS σ) 0) 7) (nI K) s = some (bset (gliP d ρ tb9 (hdS σ) K) 7, s) ∧ (∀ i, i < 41 → s.1 27 i = hanS d ρ i) ∧ frm wQ wl0 σ s) := by
  have hT := h.tc.T7
  rw [show (41 : Int32) = nI 41 from rfl]
  refine (w_findHands (Z := 41) h hn (by omega)).mono (fun s h1 => ?_)
  have hr := h.fr h1.2
  have hh := hd_fr h1.2 (fun _ => rfl)
  refine ⟨?_, ?_, h1.1, h1.2⟩
  · rw [e_bitsOf hr.ar.1 hT, ← gli_0 hT]
    refine congrArg (fun w => some (w, s)) (bset_cg (fun e he => ?_))
    have := hr.ar.up he
    unfold upA at this
    exact this
  · rw [← hh]
    exact e_agreeing hT hr.2.2.2.2.1 hK h1.1
theorem q_glitters_c (h : RELx n d t u sd ρ k nx H m tb9 G σ) (hn : n ≤ 512) : Ok (f_X11_glitters x y σ) (fun r s => r = glsS d ρ tb9 (hdS σ) m x y ∧ frm wQ wl0 σ s) := by
  have hm := h.2.2.2.2.1
  have m20 := hm.2.1
  unfold f_X11_glitters
  rw [hm.1, nIt (n := m) (by omega)]
  by_cases c1 : x.toInt < 0
  · exact Ok.t c1 (Ok.ret ⟨(clo_no (fun h => by omega)).symm, frm.rf⟩)
  by_cases c2 : (m : Int) < x.toInt
  · exact Ok.f c1 (Ok.t c2 (Ok.ret ⟨(clo_no (fun h => by omega)).symm, frm.rf⟩))
  by_cases c3 : y.toInt < 0
  · exact Ok.f c1 (Ok.f c2 (Ok.t c3 (Ok.ret ⟨(clo_no (fun h => by omega)).symm, frm.rf⟩)))
  by_cases c4 : 1 < y.toInt
  · exact Ok.f c1 (Ok.f c2 (Ok.f c3 (Ok.t c4 (Ok.ret ⟨(clo_no (fun h => by omega)).symm, frm.rf⟩))))
  obtain ⟨K, hK, rfl⟩ : ∃ q, q ≤ m ∧ x = nI q := ⟨x.toInt.toNat, by omega, nI_tn (by omega) (by omega)⟩
  rw [glsS_in hK m20 (by omega)]
  refine Ok.f c1 (Ok.f c2 (Ok.f c3 (Ok.f c4 (Ok.cv (q_left_c h hn hK) (fun s1 h1 => Ok.cle h1.1 (Ok.cle h1.2.1 ?_))))))
  by_cases cy : y.toInt = 0
  · refine Ok.t cy (Ok.cle e_bitCount (Ok.ret ⟨?_, h1.2.2.2⟩))
    rw [if_pos cy, pcI_cnt (by omega)]
  · refine Ok.f cy (Ok.ret ⟨?_, h1.2.2.2⟩)
    rw [if_neg cy]
theorem q_glitters_m (h : RELx n d t u sd ρ k nx H m tb9 G σ) (hn : n ≤ 512) : Ok (f_X12_glitters x y σ) (fun r s => r = glsS d ρ tb9 (hdS σ) m x y ∧ frm wQ wl0 σ s) := by
  have hm := h.2.2.2.2.1
  have m20 := hm.2.1
  unfold f_X12_glitters
  refine Ok.cle e_in ?_
  rw [hm.2.2.1, i0_eq, nIt (n := m) (by omega)]
  by_cases c : 0 ≤ x.toInt ∧ x.toInt ≤ m
  · refine Ok.f (fun e => if10.mp e c) (Ok.cle e_in ?_)
    rw [i0_eq, i1_e]
    by_cases cy : 0 ≤ y.toInt ∧ y.toInt ≤ 1
    · obtain ⟨K, hK, rfl⟩ : ∃ q, q ≤ m ∧ x = nI q := ⟨x.toInt.toNat, by omega, nI_tn (by omega) (by omega)⟩
      rw [glsS_in hK m20 cy]
      refine Ok.f (fun e => if10.mp e cy) (Ok.cl (w_glitterBits h hn hK) (fun r s5 h5 => ?_))
      obtain ⟨rfl, -, f5⟩ := h5
      by_cases c0 : y.toInt = 0
      · refine Ok.t c0 (Ok.cle e_bits (Ok.ret ⟨?_, f5⟩))
        rw [if_pos c0, pcM_cnt (by omega)]
      · refine Ok.f c0 (Ok.ret ⟨?_, f5⟩)
        rw [if_neg c0]
    · exact Ok.t (if10.mpr cy) (Ok.ret ⟨(clo_no (fun h => cy h.2)).symm, frm.rf⟩)
  · exact Ok.t (if10.mpr c) (Ok.ret ⟨(clo_no (fun h => c h.1)).symm, frm.rf⟩)
theorem sim_glitters (hn : n ≤ 512) : SIM n (f_X11_glitters x y) (f_X12_glitters x y) := sim_q (fun d t u sd ρ k nx H m tb G σ h => ⟨_, q_glitters_c h hn, fun s hs hf => by
  have := q_glitters_m (x := x) (y := y) hs hn
  rw [hd_fr hf (fun _ => rfl)] at this
  exact this⟩)
/-- of how many there are is one told apart by beat n -/
def watV (d : DAT) (ρ : Nat → Int32) (q : Nat → Bool) (i : Nat) : Nat := if firS d.1.1.1 (itS d none i ρ) < d.1.1.1 ∧ q (firS d.1.1.1 (itS d none i ρ)) = true then 1 else 0
def watW (d : DAT) (ρ : Nat → Int32) (q : Nat → Bool) (i : Nat) : Nat := if cntB q 7 - watV d ρ q i < watV d ρ q i then watV d ρ q i else cntB q 7 - watV d ρ q i
def watB (w : Nat → Nat) : Nat → Nat
  | 0 => 0
  | i + 1 => if w (i + 1) < w (watB w i) then i + 1 else watB w i
def watS (d : DAT) (ρ : Nat → Int32) (tb9 : Nat → Nat) (hd : Nat → Bool) (m : Nat) (x : Int32) : Int32 := if 0 ≤ x.toInt ∧ x.toInt ≤ m then (if cntB (gliP d ρ tb9 hd x.toInt.toNat) 7 = 0 then -2 else nI (watB (watW d ρ (gliP d ρ tb9 hd x.toInt.toNat)) 40)) else -1
theorem watS_in {hd : Nat → Bool} {K : Nat} (hK : K ≤ m) (hm : m ≤ 20) : watS d ρ tb9 hd m (nI K) = if cntB (gliP d ρ tb9 hd K) 7 = 0 then -2 else nI (watB (watW d ρ (gliP d ρ tb9 hd K)) 40) := by
  unfold watS
  rw [nIt (by omega), Int.toNat_natCast]
  exact if_pos ⟨by omega, by omega⟩
theorem wat_le {q : Nat → Bool} {i : Nat} : watV d ρ q i ≤ 1 := by
  unfold watV
  split <;> omega
theorem wat_cnt {q : Nat → Bool} {i : Nat} (hT : d.1.1.1 ≤ 7) : watV d ρ q i ≤ cntB q 7 := by
  unfold watV
  by_cases c : firS d.1.1.1 (itS d none i ρ) < d.1.1.1 ∧ q (firS d.1.1.1 (itS d none i ρ)) = true
  · rw [if_pos c]
    have := cnt_del (p := q) (q := fun e => decide (e ≠ firS d.1.1.1 (itS d none i ρ)) && q e) (a := firS d.1.1.1 (itS d none i ρ)) (n := 7) (by omega) (fun e _ hn => by rw [decide_eq_true hn, Bool.true_and]) c.2 (by simp)
    omega
  · rw [if_neg c]; omega
theorem watB_le {w : Nat → Nat} : ∀ {i : Nat}, watB w i ≤ i := by
  intro i
  induction i with
  | zero => exact Nat.le_refl _
  | succ i ih =>
    show (if w (i + 1) < w (watB w i) then i + 1 else watB w i) ≤ i + 1
    split <;> omega
theorem cnt_one {q : Nat → Bool} {f : Nat} (hf : f < 7) : cntB (fun e => q e && decide (e = f)) 7 = if q f = true then 1 else 0 := by
  cases hq : q f with
  | false =>
    rw [if_neg (by decide)]
    exact cnt_zero (fun e _ => by
      by_cases ce : e = f
      · rw [ce, hq]; rfl
      · rw [decide_eq_false ce, Bool.and_false])
  | true =>
    rw [if_pos rfl]
    have := cnt_del (p := fun e => q e && decide (e = f)) (q := fun _ => false) (a := f) (n := 7) hf (fun e _ hn => by rw [decide_eq_false hn, Bool.and_false]) (by rw [hq, decide_eq_true rfl]; rfl) rfl
    rw [cnt_zero (p := fun _ => false) (fun _ _ => rfl)] at this
    omega
theorem q_watch_c (h : RELx n d t u sd ρ k nx H m tb9 G σ) (hn : n ≤ 512) : Ok (f_X11_watch x σ) (fun r s => r = watS d ρ tb9 (hdS σ) m x ∧ frm wQ wl0 σ s) := by
  have hT := h.tc.T7
  have hm := h.2.2.2.2.1
  have m20 := hm.2.1
  unfold f_X11_watch
  rw [hm.1, nIt (n := m) (by omega)]
  by_cases c1 : x.toInt < 0
  · exact Ok.t c1 (Ok.ret ⟨(clo_no (fun h => by omega)).symm, frm.rf⟩)
  by_cases c2 : (m : Int) < x.toInt
  · exact Ok.f c1 (Ok.t c2 (Ok.ret ⟨(clo_no (fun h => by omega)).symm, frm.rf⟩))
  obtain ⟨K, hK, rfl⟩ : ∃ q, q ≤ m ∧ x = nI q := ⟨x.toInt.toNat, by omega, nI_tn (by omega) (by omega)⟩
  rw [watS_in hK m20]
  refine Ok.f c1 (Ok.f c2 (Ok.cv (q_left_c h hn hK) (fun s1 h1 => Ok.cle h1.1 (Ok.cle h1.2.1 ?_))))
  obtain ⟨-, -, h27, f1⟩ := h1
  generalize gliP d ρ tb9 (hdS σ) K = q
  have z0 : (bset q 7).toInt = 0 ↔ cntB q 7 = 0 := by
    have e1 := pcI_cnt (p := q) (n := 7) (by omega)
    constructor
    · intro e
      have e2 : bset q 7 = 0 := Int32.toInt_inj.mp e
      rw [e2] at e1
      have c7 := cntB_le (p := q) (n := 7)
      have e3 : (nI (cntB q 7)).toInt = (pcI 0).toInt := by rw [e1]
      rw [nIt (by omega), show (pcI 0).toInt = 0 by decide +kernel] at e3
      omega
    · intro e
      have : bset q 7 = bset (fun _ => false) 7 := bset_cg (fun e' he' => by
        cases hq : q e' with
        | false => rfl
        | true =>
          have := cnt_del (p := q) (q := fun i => decide (i ≠ e') && q i) (a := e') (n := 7) he' (fun i _ hn => by rw [decide_eq_true hn, Bool.true_and]) hq (by simp)
          omega)
      rw [this]; decide
  by_cases c0 : cntB q 7 = 0
  · refine Ok.t (z0.mpr c0) (Ok.ret ⟨?_, f1⟩)
    rw [if_pos c0]
  · refine Ok.f (fun e => c0 (z0.mp e)) ?_
    rw [if_neg c0]
    have c7 := cntB_le (p := q) (n := 7)
    -- one beat: how many are left at worst
    have one : ∀ (i N : Nat) (best few : Int32), i < 41 → f_X11_watch_60 (N + 1) (bset q 7) best few (nI i) s1 = if (nI (watW d ρ q i)).toInt < few.toInt then f_X11_watch_60 N (bset q 7) (nI i) (nI (watW d ρ q i)) (nI (i + 1)) s1 else f_X11_watch_60 N (bset q 7) best few (nI (i + 1)) s1 := by
      intro i N best few hi
      have hc := han_cau (ρ := ρ) (d := d) (i := i) hT
      have fin : ∀ v, pcI (bset q 7 &&& v) = nI (watV d ρ q i) → pcI (bset q 7 &&& (v ^^^ (-1))) = nI (cntB q 7 - watV d ρ q i) → f_X11_watch_91 (f_X11_watch_60 N) (bset q 7) best few (nI i) v s1 = if (nI (watW d ρ q i)).toInt < few.toInt then f_X11_watch_60 N (bset q 7) (nI i) (nI (watW d ρ q i)) (nI (i + 1)) s1 else f_X11_watch_60 N (bset q 7) best few (nI (i + 1)) s1 := by
        intro v h1 h2
        have wl := wat_le (d := d) (ρ := ρ) (q := q) (i := i)
        unfold f_X11_watch_91 f_X11_watch_128
        rw [e_bitCount]
        simp only [Cl]
        rw [e_bitCount, h1, h2]
        simp only [Bd]
        have em : (if nI (watV d ρ q i) < nI (cntB q 7 - watV d ρ q i) then nI (cntB q 7 - watV d ρ q i) else nI (watV d ρ q i)) = nI (watW d ρ q i) := by
          unfold watW
          by_cases c : watV d ρ q i < cntB q 7 - watV d ρ q i
          · rw [if_pos (Int32.lt_iff_toInt_lt.mpr (by rw [nIt (by omega), nIt (by omega)]; omega)), if_neg (by omega)]
          · rw [if_neg (fun e => c (by
              have := Int32.lt_iff_toInt_lt.mp e
              rw [nIt (by omega), nIt (by omega)] at this
              omega))]
            by_cases c2 : cntB q 7 - watV d ρ q i < watV d ρ q i
            · rw [if_pos c2]
            · rw [if_neg c2]; exact congrArg nI (by omega)
        rw [em, nI_1]
      show b_X11_watch_60 (f_X11_watch_60 N) (bset q 7) best few (nI i) s1 = _
      unfold b_X11_watch_60
      rw [nIt (n := i) (by omega), if_neg (show ¬ (40 : Int) < i by omega), if_pos (show 0 ≤ (i : Int) ∧ (i : Int) < 61 by omega), if_pos (show 0 ≤ (i : Int) ∧ (i : Int) < 61 by omega), Int.toNat_natCast, h27 i hi]
      by_cases cf : firS d.1.1.1 (itS d none i ρ) < d.1.1.1
      · have ev := hc.2 cf
        have ewv : watV d ρ q i = if q (firS d.1.1.1 (itS d none i ρ)) = true then 1 else 0 := by
          unfold watV
          by_cases cq : q (firS d.1.1.1 (itS d none i ρ)) = true
          · rw [if_pos ⟨cf, cq⟩, if_pos cq]
          · rw [if_neg (fun h => cq h.2), if_neg cq]
        rw [if_neg (fun e => hc.1.mp e cf), ev]
        refine fin _ ?_ ?_
        · show pcI (bset q 7 &&& bitI _) = _
          rw [bs_and (by omega) (by omega), pcI_cnt (by omega), cnt_one (by omega), ewv]
        · show pcI (bset q 7 &&& (bitI _ ^^^ (-1))) = _
          rw [bs_ann (by omega) (by omega), pcI_cnt (by omega)]
          refine congrArg nI ?_
          have s := cnt_sub (p := q) (q := fun e => q e && decide (e = firS d.1.1.1 (itS d none i ρ))) (n := 7) (fun e _ h => by rw [Bool.and_eq_true] at h; exact h.1)
          rw [cnt_one (by omega), ← ewv] at s
          have e2 : cntB (fun e => q e && !(q e && decide (e = firS d.1.1.1 (itS d none i ρ)))) 7 = cntB (fun e => q e && !decide (e = firS d.1.1.1 (itS d none i ρ))) 7 := cntB_cg (fun e _ => by cases q e <;> rfl)
          rw [e2] at s
          omega
      · have ewv : watV d ρ q i = 0 := by unfold watV; rw [if_neg (fun h => cf h.1)]
        rw [if_pos (hc.1.mpr cf)]
        refine fin _ ?_ ?_
        · rw [bs_an0 (by omega), pcI_cnt (by omega), ewv, cnt_zero (fun _ _ => rfl)]
        · rw [bs_ann0, pcI_cnt (by omega), ewv, Nat.sub_zero]
    have wr : ∀ i, watW d ρ q i ≤ 7 := fun i => by
      have := wat_le (d := d) (ρ := ρ) (q := q) (i := i)
      unfold watW
      split <;> omega
    have loop : ∀ (dd i N : Nat), i + 1 + dd = 41 → dd < N → f_X11_watch_60 N (bset q 7) (nI (watB (watW d ρ q) i)) (nI (watW d ρ q (watB (watW d ρ q) i))) (nI (i + 1)) s1 = some (nI (watB (watW d ρ q) 40), s1) := by
      intro dd
      induction dd with
      | zero =>
        intro i N hi hN
        obtain ⟨N, rfl⟩ : ∃ q, N = q + 1 := ⟨N - 1, by omega⟩
        obtain rfl : i = 40 := by omega
        show b_X11_watch_60 (f_X11_watch_60 N) (bset q 7) _ _ (nI 41) s1 = _
        unfold b_X11_watch_60
        rw [if_pos (by decide)]
      | succ dd ih =>
        intro i N hi hN
        obtain ⟨N, rfl⟩ : ∃ q, N = q + 1 := ⟨N - 1, by omega⟩
        have eb : watB (watW d ρ q) (i + 1) = if watW d ρ q (i + 1) < watW d ρ q (watB (watW d ρ q) i) then i + 1 else watB (watW d ρ q) i := rfl
        have ih1 := ih (i + 1) N (by omega) (by omega)
        have w1 := wr (i + 1)
        have w2 := wr (watB (watW d ρ q) i)
        rw [one (i + 1) N _ _ (by omega), nIt (n := watW d ρ q (i + 1)) (by omega), nIt (n := watW d ρ q (watB (watW d ρ q) i)) (by omega)]
        by_cases c : watW d ρ q (i + 1) < watW d ρ q (watB (watW d ρ q) i)
        · rw [eb, if_pos c] at ih1
          rw [if_pos (show (watW d ρ q (i + 1) : Int) < watW d ρ q (watB (watW d ρ q) i) by omega)]
          exact ih1
        · rw [eb, if_neg c] at ih1
          rw [if_neg (show ¬ (watW d ρ q (i + 1) : Int) < watW d ρ q (watB (watW d ρ q) i) by omega)]
          exact ih1
    have l0 := loop 40 0 4999 (by omega) (by omega)
    have w0 := wr 0
    have := one 0 4999 0 8 (by omega)
    have e8 : (8 : Int32).toInt = 8 := rfl
    rw [e8, nIt (n := watW d ρ q 0) (by omega), if_pos (show (watW d ρ q 0 : Int) < 8 by omega), nI_0] at this
    rw [show nI (watB (watW d ρ q) 0) = 0 from nI_0] at l0
    exact Ok.of (this.trans l0) ⟨rfl, f1⟩
theorem q_watch_m (h : RELx n d t u sd ρ k nx H m tb9 G σ) (hn : n ≤ 512) : Ok (f_X12_watch x σ) (fun r s => r = watS d ρ tb9 (hdS σ) m x ∧ frm wQ wl0 σ s) := by
  have hT := h.tc.T7
  have hm := h.2.2.2.2.1
  have m20 := hm.2.1
  unfold f_X12_watch
  refine Ok.cle e_in ?_
  rw [hm.2.2.1, i0_eq, nIt (n := m) (by omega)]
  by_cases c : 0 ≤ x.toInt ∧ x.toInt ≤ m
  · obtain ⟨K, hK, rfl⟩ : ∃ q, q ≤ m ∧ x = nI q := ⟨x.toInt.toNat, by omega, nI_tn (by omega) (by omega)⟩
    rw [watS_in hK m20]
    refine Ok.f (fun e => if10.mp e c) (Ok.cl (w_glitterBits h hn hK) (fun r s1 h1 => ?_))
    obtain ⟨rfl, h274, f1⟩ := h1
    generalize gliP d ρ tb9 (hdS σ) K = q
    refine Ok.cle e_bits ?_
    rw [pcM_cnt (by omega)]
    have c7 := cntB_le (p := q) (n := 7)
    by_cases c0 : cntB q 7 = 0
    · rw [if_pos c0, c0]
      have : f_X12_watch_35 5000 (bset q 7) (nI 0) (-2) 0 0 s1 = some (-2, s1) := by
        show b_X12_watch_35 (f_X12_watch_35 4999) (bset q 7) (nI 0) (-2) 0 0 s1 = _
        unfold b_X12_watch_35
        rw [if_neg (by decide), if_neg (by decide)]
      exact Ok.of this ⟨rfl, f1⟩
    · rw [if_neg c0]
      have wr : ∀ i, watW d ρ q i ≤ 7 := fun i => by
        have := wat_le (d := d) (ρ := ρ) (q := q) (i := i)
        unfold watW
        split <;> omega
      -- one beat
      have one : ∀ (i N : Nat) (best few : Int32), i < 41 → f_X12_watch_35 (N + 1) (bset q 7) (nI (cntB q 7)) best few (nI i) s1 = if best.toInt < 0 ∨ (nI (watW d ρ q i)).toInt < few.toInt then f_X12_watch_35 N (bset q 7) (nI (cntB q 7)) (nI i) (nI (watW d ρ q i)) (nI (i + 1)) s1 else f_X12_watch_35 N (bset q 7) (nI (cntB q 7)) best few (nI (i + 1)) s1 := by
        intro i N best few hi
        have wl := wat_le (d := d) (ρ := ρ) (q := q) (i := i)
        have wc := wat_cnt (d := d) (ρ := ρ) (q := q) (i := i) hT
        have e96 : ∀ w, w = nI (watW d ρ q i) → f_X12_watch_96 (f_X12_watch_35 N) (bset q 7) (nI (cntB q 7)) best few (nI i) w s1 = if best.toInt < 0 ∨ (nI (watW d ρ q i)).toInt < few.toInt then f_X12_watch_35 N (bset q 7) (nI (cntB q 7)) (nI i) (nI (watW d ρ q i)) (nI (i + 1)) s1 else f_X12_watch_35 N (bset q 7) (nI (cntB q 7)) best few (nI (i + 1)) s1 := by
          intro w hw
          rw [hw]
          unfold f_X12_watch_96 f_X12_watch_113 f_X12_watch_121
          simp only [Bd]
          rw [nI_1]
          by_cases cb : best.toInt < 0
          · rw [if_pos cb, if_pos (Or.inl cb)]
          · rw [if_neg cb]
            by_cases cw : (nI (watW d ρ q i)).toInt < few.toInt
            · rw [if_pos cw, if_pos (Or.inr cw)]
            · rw [if_neg cw, if_neg (fun h => h.elim cb cw)]
        have e76 : ∀ v, v = nI (watV d ρ q i) → f_X12_watch_76 (f_X12_watch_35 N) (bset q 7) (nI (cntB q 7)) best few (nI i) v s1 = if best.toInt < 0 ∨ (nI (watW d ρ q i)).toInt < few.toInt then f_X12_watch_35 N (bset q 7) (nI (cntB q 7)) (nI i) (nI (watW d ρ q i)) (nI (i + 1)) s1 else f_X12_watch_35 N (bset q 7) (nI (cntB q 7)) best few (nI (i + 1)) s1 := by
          intro v hv
          rw [hv]
          unfold f_X12_watch_76
          rw [nI_sub wc (by omega), nIt (n := cntB q 7 - watV d ρ q i) (by omega), nIt (n := watV d ρ q i) (by omega)]
          by_cases cv : cntB q 7 - watV d ρ q i < watV d ρ q i
          · rw [if_pos (show ((cntB q 7 - watV d ρ q i : Nat) : Int) < watV d ρ q i by omega)]
            exact e96 _ (by unfold watW; rw [if_pos cv])
          · rw [if_neg (show ¬ ((cntB q 7 - watV d ρ q i : Nat) : Int) < watV d ρ q i by omega)]
            exact e96 _ (by unfold watW; rw [if_neg cv])
        show b_X12_watch_35 (f_X12_watch_35 N) (bset q 7) (nI (cntB q 7)) best few (nI i) s1 = _
        unfold b_X12_watch_35
        rw [nIt (n := i) (by omega), nIt (n := cntB q 7) (by omega), if_neg (show ¬ (40 : Int) < i by omega), if_pos (show (0 : Int) < cntB q 7 by omega), if_pos (show 0 ≤ (i : Int) ∧ (i : Int) < 41 by omega), if_pos (show 0 ≤ (i : Int) ∧ (i : Int) < 41 by omega), Int.toNat_natCast, h274 i hi]
        by_cases cf : firS d.1.1.1 (itS d none i ρ) < d.1.1.1
        · rw [if_neg (fun e => (cau_neg hT).mp e cf)]
          unfold cauS
          rw [if_pos cf]
          by_cases cq : q (firS d.1.1.1 (itS d none i ρ)) = true
          · have et : tb (bset q 7) (firS d.1.1.1 (itS d none i ρ)) = true := by rw [tb_bsW (by omega) (by omega), decide_eq_true (by omega), cq]; rfl
            rw [if_pos ((tb_sh1 (by omega)).mpr et)]
            exact e76 1 (by unfold watV; rw [if_pos ⟨cf, cq⟩]; rfl)
          · have et : ¬ tb (bset q 7) (firS d.1.1.1 (itS d none i ρ)) = true := by rw [tb_bsW (by omega) (by omega), Bool.eq_false_iff.mpr cq, Bool.and_false]; decide
            rw [if_neg (fun e => et ((tb_sh1 (by omega)).mp e))]
            exact e76 0 (by unfold watV; rw [if_neg (fun h => cq h.2)]; exact nI_0.symm)
        · rw [if_pos ((cau_neg hT).mpr cf)]
          exact e76 0 (by unfold watV; rw [if_neg (fun h => cf h.1)]; exact nI_0.symm)
      have loop : ∀ (dd i N : Nat), i + 1 + dd = 41 → dd < N → f_X12_watch_35 N (bset q 7) (nI (cntB q 7)) (nI (watB (watW d ρ q) i)) (nI (watW d ρ q (watB (watW d ρ q) i))) (nI (i + 1)) s1 = some (nI (watB (watW d ρ q) 40), s1) := by
        intro dd
        induction dd with
        | zero =>
          intro i N hi hN
          obtain ⟨N, rfl⟩ : ∃ q, N = q + 1 := ⟨N - 1, by omega⟩
          obtain rfl : i = 40 := by omega
          show b_X12_watch_35 (f_X12_watch_35 N) (bset q 7) _ _ _ (nI 41) s1 = _
          unfold b_X12_watch_35
          rw [if_pos (by decide)]
        | succ dd ih =>
          intro i N hi hN
          obtain ⟨N, rfl⟩ : ∃ q, N = q + 1 := ⟨N - 1, by omega⟩
          have eb : watB (watW d ρ q) (i + 1) = if watW d ρ q (i + 1) < watW d ρ q (watB (watW d ρ q) i) then i + 1 else watB (watW d ρ q) i := rfl
          have ih1 := ih (i + 1) N (by omega) (by omega)
          have w1 := wr (i + 1)
          have w2 := wr (watB (watW d ρ q) i)
          have wb := watB_le (w := watW d ρ q) (i := i)
          rw [one (i + 1) N _ _ (by omega), nIt (n := watW d ρ q (i + 1)) (by omega), nIt (n := watW d ρ q (watB (watW d ρ q) i)) (by omega), nIt (n := watB (watW d ρ q) i) (by omega)]
          by_cases c : watW d ρ q (i + 1) < watW d ρ q (watB (watW d ρ q) i)
          · rw [eb, if_pos c] at ih1
            rw [if_pos (Or.inr (show (watW d ρ q (i + 1) : Int) < watW d ρ q (watB (watW d ρ q) i) by omega))]
            exact ih1
          · rw [eb, if_neg c] at ih1
            rw [if_neg (show ¬ ((watB (watW d ρ q) i : Int) < 0 ∨ (watW d ρ q (i + 1) : Int) < watW d ρ q (watB (watW d ρ q) i)) by omega)]
            exact ih1
      have l0 := loop 40 0 4999 (by omega) (by omega)
      have := one 0 4999 (-2) 0 (by omega)
      rw [if_pos (Or.inl (by decide)), nI_0] at this
      rw [show nI (watB (watW d ρ q) 0) = 0 from nI_0] at l0
      exact Ok.of (this.trans l0) ⟨rfl, f1⟩
  · exact Ok.t (if10.mpr c) (Ok.ret ⟨(clo_no c).symm, frm.rf⟩)
theorem sim_watch (hn : n ≤ 512) : SIM n (f_X11_watch x) (f_X12_watch x) := sim_q (fun d t u sd ρ k nx H m tb G σ h => ⟨_, q_watch_c h hn, fun s hs hf => by
  have := q_watch_m (x := x) hs hn
  rw [hd_fr hf (fun _ => rfl)] at this
  exact this⟩)
end GLIT
