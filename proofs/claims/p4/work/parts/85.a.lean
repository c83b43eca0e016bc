/-! rows stay within their bounds -/
section RWB
variable {T : Nat} {ρ : Nat → Int32} {d : DAT} {b : Int} {x : Option Int32}
def DLn (d : DAT) : Prop := d.1.1.1 ≤ 7 ∧ d.1.2.1 ≤ 5 ∧ ∀ p, p < d.1.2.1 → 1 ≤ d.1.2.2.1 p ∧ d.1.2.2.1 p ≤ 8
theorem TC.ln {tx : Nat} {σ : HS} (h : TC tx d σ) : DLn d := ⟨h.1.2.1, h.2.1.2.1, fun p hp => (h.2.1.2.2 p hp).2.1⟩
theorem hgt_rg2 (hD : DOK d) (hL : DLn d) (hW : RW d b ρ) : 0 ≤ (hgtS d ρ).toInt ∧ (hgtS d ρ).toInt ≤ 9 := by
  obtain ⟨w1, w2, w3, w4, w5, w6⟩ := hW
  unfold hgtS
  by_cases c : 0 ≤ (ρ 28).toInt
  · rw [if_pos c]; omega
  · rw [if_neg c]
    by_cases c2 : (ρ 26).toInt < 0
    · rw [if_pos c2]; exact ⟨by decide, by decide⟩
    · rw [if_neg c2]
      have w4' : 0 ≤ (ρ 26).toInt ∧ (ρ 26).toInt < d.1.2.1 := by
        rcases w4 with w4 | w4
        · rw [w4] at c2; exact absurd (show (-2 : Int32).toInt < 0 by decide) c2
        · exact w4
      have hq : (ρ 26).toInt.toNat < d.1.2.1 := by omega
      generalize (ρ 26).toInt.toNat = q at hq
      have q2 := hL.2.2 q hq
      have hi : ((ρ 21).toInt - (ρ 27).toInt).toNat % d.1.2.2.1 q < d.1.2.2.1 q := Nat.mod_lt _ (by omega)
      have hv := hD.2.1 q hq _ hi
      generalize d.1.2.2.2 q (((ρ 21).toInt - (ρ 27).toInt).toNat % d.1.2.2.1 q) = v at hv
      have e : (Int32.ofInt v).toInt = v := by rw [Int32.toInt_ofInt]; exact i32_bm (by omega)
      rw [e]; exact hv
/-- behind the throw, before all land in a beat less -/
def RWM (d : DAT) (ρ ρ1 : Nat → Int32) : Prop := (∀ e, e < d.1.1.1 → (0 ≤ (ρ1 e).toInt ∧ (ρ1 e).toInt ≤ 2) ∧ ((ρ1 e).toInt = 0 → 1 ≤ (ρ1 (7 + e)).toInt ∧ (ρ1 (7 + e)).toInt ≤ 9)) ∧ (∀ i, i = 21 ∨ i = 26 ∨ i = 27 ∨ i = 28 → ρ1 i = ρ i) ∧ (0 ≤ (ρ1 22).toInt ∧ (ρ1 22).toInt ≤ 999)
theorem drop_v {f e : Nat} (hT : d.1.1.1 ≤ 7) (he : e < d.1.1.1) : dropS d.1.1.1 f ρ e = (if e ≠ f ∧ lnR ρ 0 e = true then 2 else ρ e) ∧ dropS d.1.1.1 f ρ (7 + e) = ρ (7 + e) := by
  unfold dropS
  refine ⟨?_, by rw [if_neg (by omega), if_neg (by omega)]⟩
  by_cases c : e ≠ f ∧ lnR ρ 0 e = true
  · rw [if_pos c, if_pos ⟨he, c⟩]
  · rw [if_neg c, if_neg (fun h => c h.2), if_neg (by omega)]
theorem drop_hi {f i : Nat} (hT : d.1.1.1 ≤ 7) (hi : 7 ≤ i) (h : i ≠ 23) : dropS d.1.1.1 f ρ i = ρ i := by
  unfold dropS
  rw [if_neg (by omega), if_neg h]
theorem ln_iff {e : Nat} {n : Int} : lnR ρ n e = true ↔ (ρ e).toInt = 0 ∧ (ρ (7 + e)).toInt = n := by
  unfold lnR
  rw [Bool.and_eq_true, decide_eq_true_eq, decide_eq_true_eq]
theorem cat_or {e : Nat} : catS d x e ρ = upF (upF ρ e 2) 23 (ρ 23 + 1) ∨ catS d x e ρ = thrS ρ e (hgtS d ρ) (lawV d 0 (varS d ρ e (upsS d.1.1.1 ρ) (hgtS d ρ))) (lawV d 3 (varS d ρ e (upsS d.1.1.1 ρ) 0)) := by
  cases x with
  | none => exact Or.inr rfl
  | some y =>
    by_cases c : decide ((lotI y ((4 : Int32) * ρ 21)).toInt < (lawV d 1 (varS d ρ e (upsS d.1.1.1 ρ) (hgtS d ρ))).toInt) = true
    · exact Or.inl (if_pos c)
    · exact Or.inr (if_neg c)
theorem RW.mid (hD : DOK d) (hL : DLn d) (hW : RW d b ρ) : RWM d ρ (midS d x ρ) := by
  have hT := hL.1
  have w1 := hW.1
  have w6 := hW.2.2.2.2.2
  unfold midS
  by_cases c : firS d.1.1.1 ρ < d.1.1.1
  · rw [if_pos c]
    generalize hf : firS d.1.1.1 ρ = f at c
    have fl : lnR ρ 0 f = true := by
      have := ffB_at (p := lnR ρ 0) (d := d.1.1.1) (e := 0) (by
        show ffB (lnR ρ 0) d.1.1.1 0 < 0 + d.1.1.1
        have h2 : ffB (lnR ρ 0) d.1.1.1 0 = f := hf
        omega)
      have h2 : ffB (lnR ρ 0) d.1.1.1 0 = f := hf
      rw [h2] at this
      exact this
    have fl2 := ln_iff.mp fl
    have hWd : RW d b (dropS d.1.1.1 f ρ) := hW.drop hT
    have hg := hgt_rg2 hD hL hWd
    have dv := fun e he => drop_v (ρ := ρ) (f := f) (e := e) hT he
    have dh := fun i h7 h23 => drop_hi (ρ := ρ) (f := f) (i := i) hT h7 h23
    generalize dropS d.1.1.1 f ρ = r at hWd hg dv dh
    have rf : r f = ρ f := by rw [(dv f c).1, if_neg (fun h => h.1 rfl)]
    -- others that are up don't land now
    have oth : ∀ e, e < d.1.1.1 → e ≠ f → (0 ≤ (r e).toInt ∧ (r e).toInt ≤ 2) ∧ ((r e).toInt = 0 → 1 ≤ (r (7 + e)).toInt ∧ (r (7 + e)).toInt ≤ 9) := by
      intro e he hef
      obtain ⟨d1, d2⟩ := dv e he
      have w := w1 e he
      rw [d2]
      by_cases cl : lnR ρ 0 e = true
      · rw [d1, if_pos ⟨hef, cl⟩]; exact ⟨⟨by decide, by decide⟩, fun h => absurd h (by decide)⟩
      · rw [d1, if_neg (fun h => cl h.2)]
        refine ⟨w.1, fun h0 => ?_⟩
        have : (ρ (7 + e)).toInt ≠ 0 := fun h => cl (ln_iff.mpr ⟨h0, h⟩)
        have := w.2 h0
        omega
    rcases cat_or (d := d) (x := x) (ρ := r) (e := f) with cB | cB
    · rw [cB]
      refine ⟨fun e he => ?_, fun i hi => ?_, ?_⟩
      · rw [upF_n (show e ≠ 23 by omega), upF_n (show 7 + e ≠ 23 by omega), upF_n (show 7 + e ≠ f by omega)]
        by_cases cf : e = f
        · rw [cf, upF_s]; exact ⟨⟨by decide, by decide⟩, fun h => absurd h (by decide)⟩
        · rw [upF_n cf]; exact oth e he cf
      · rw [upF_n (by omega), upF_n (by omega), dh i (by omega) (by omega)]
      · rw [upF_n (by omega), upF_n (by omega), dh 22 (by omega) (by omega)]; exact w6
    · rw [cB]
      generalize hh : hgtS d r = h at hg
      generalize lawV d 0 (varS d r f (upsS d.1.1.1 r) h) = t
      generalize lawV d 3 (varS d r f (upsS d.1.1.1 r) 0) = p
      refine ⟨fun e he => ?_, fun i hi => ?_, ?_⟩
      · unfold thrS
        rw [if_neg (by omega), if_neg (by omega), if_neg (by omega), if_neg (by omega), if_neg (by omega), if_neg (show ¬ 7 + e = 25 by omega), if_neg (show ¬ 7 + e = 24 by omega), if_neg (show ¬ 7 + e = 14 + f by omega), if_neg (show ¬ 7 + e = 22 by omega)]
        by_cases cf : e = f
        · rw [if_pos (show 7 + e = 7 + f by omega)]
          by_cases c0 : h.toInt = 0
          · rw [if_pos ⟨cf, c0⟩]; exact ⟨⟨by decide, by decide⟩, fun h => absurd h (by decide)⟩
          · rw [if_neg (fun h => c0 h.2), cf, rf, fl2.1]
            exact ⟨⟨by decide, by decide⟩, fun _ => by omega⟩
        · rw [if_neg (fun h => cf h.1), if_neg (show ¬ 7 + e = 7 + f by omega), if_neg (by omega)]
          exact oth e he cf
      · unfold thrS
        rw [if_neg (by omega), if_neg (by omega), if_neg (by omega), if_neg (by omega), if_neg (by omega), if_neg (by omega), dh i (by omega) (by omega)]
      · unfold thrS
        rw [if_neg (by omega), if_neg (by omega), if_neg (by omega), if_pos rfl]
        exact hld_rg (by decide)
  · rw [if_neg c]
    have no : ∀ e, e < d.1.1.1 → lnR ρ 0 e = false := fun e he => ffB_no (p := lnR ρ 0) (d := d.1.1.1) (e := 0) (Nat.zero_le _) (by
      have h2 : ffB (lnR ρ 0) d.1.1.1 0 = firS d.1.1.1 ρ := rfl
      omega)
    unfold resR
    refine ⟨fun e he => ?_, fun i hi => upF_n (by omega), ?_⟩
    · rw [upF_n (show e ≠ 22 by omega), upF_n (show 7 + e ≠ 22 by omega)]
      have w := w1 e he
      refine ⟨w.1, fun h0 => ?_⟩
      have : (ρ (7 + e)).toInt ≠ 0 := fun h => by
        have := no e he
        rw [ln_iff.mpr ⟨h0, h⟩] at this
        exact absurd this (by decide)
      have := w.2 h0
      omega
    · rw [upF_s]; exact hld_rg (by decide)
theorem RW.beat (hD : DOK d) (hL : DLn d) (hb : b ≤ 100000) (hW : RW d b ρ) : RW d (b + 1) (beatS d x ρ) := by
  have hT := hL.1
  obtain ⟨m1, m2, m3⟩ := RW.mid (x := x) hD hL hW
  obtain ⟨w1, w2, w3, w4, w5, w6⟩ := hW
  unfold beatS
  generalize midS d x ρ = r at m1 m2 m3
  have n : ∀ i, ¬ (7 ≤ i ∧ i < 7 + d.1.1.1) → i ≠ 21 → i ≠ 28 → decS d.1.1.1 r i = r i := fun i h1 h2 h3 => by
    unfold decS
    rw [if_neg (fun h => h1 ⟨h.1, h.2.1⟩), if_neg h2, if_neg h3]
  have e21 : decS d.1.1.1 r 21 = ρ 21 + 1 := by
    unfold decS
    rw [if_neg (by omega), if_pos rfl, m2 21 (by omega)]
  have e1 : (1 : Int32).toInt = 1 := rfl
  have v21 : (ρ 21 + 1).toInt = (ρ 21).toInt + 1 := by rw [i32_add (by rw [e1]; omega), e1]
  refine ⟨fun e he => ?_, ?_, ?_, ?_, ?_, ?_⟩
  · rw [n e (by omega) (by omega) (by omega)]
    refine ⟨(m1 e he).1, fun h0 => ?_⟩
    have h1 := (m1 e he).2 h0
    unfold decS
    rw [if_pos ⟨by omega, by omega, by rw [Nat.add_sub_cancel_left]; exact h0⟩]
    have : (r (7 + e) - 1).toInt = (r (7 + e)).toInt - 1 := by rw [i32_sub (by rw [e1]; omega), e1]
    rw [this]
    clear this
    omega
  · rw [e21, v21]; omega
  · rw [e21, v21, n 27 (by omega) (by omega) (by omega), m2 27 (by omega)]; omega
  · rw [n 26 (by omega) (by omega) (by omega), m2 26 (by omega)]; exact w4
  · unfold decS
    rw [if_neg (by omega), if_neg (by omega), if_pos rfl]
    exact ⟨by decide, by decide⟩
  · rw [n 22 (by omega) (by omega) (by omega)]; exact m3
theorem RW.mono {c : Int} (h : RW d b ρ) (hc : b ≤ c) : RW d c ρ := ⟨h.1, ⟨h.2.1.1, by have := h.2.1.2; omega⟩, h.2.2⟩
theorem RW.it (hD : DOK d) (hL : DLn d) : ∀ {n : Nat} {b : Int} {ρ : Nat → Int32}, b + n ≤ 100000 → RW d b ρ → RW d (b + n) (itS d x n ρ) := by
  intro n
  induction n with
  | zero => intro b ρ _ h; exact h.mono (by omega)
  | succ n ih =>
    intro b ρ hb h
    have := ih (b := b + 1) (ρ := beatS d x ρ) (by omega) (h.beat hD hL (by omega))
    exact this.mono (by omega)
theorem it_add {n m : Nat} : itS d x (n + m) ρ = itS d x m (itS d x n ρ) := by
  induction n generalizing ρ with
  | zero => rw [Nat.zero_add]; rfl
  | succ n ih => rw [show n + 1 + m = (n + m) + 1 by omega]; exact ih
theorem it_succ {n : Nat} : itS d x (n + 1) ρ = beatS d x (itS d x n ρ) := it_add (n := n) (m := 1)
theorem RW.cg {ρ' : Nat → Int32} (h : RW d b ρ) (hT : d.1.1.1 ≤ 7) (e : ∀ i, i < 29 → ρ i = ρ' i) : RW d b ρ' := by
  obtain ⟨w1, w2, w3, w4, w5, w6⟩ := h
  refine ⟨fun k hk => ?_, by rw [← e 21 (by omega)]; exact w2, by rw [← e 27 (by omega), ← e 21 (by omega)]; exact w3, by rw [← e 26 (by omega)]; exact w4, by rw [← e 28 (by omega)]; exact w5, by rw [← e 22 (by omega)]; exact w6⟩
  rw [← e k (by omega), ← e (7 + k) (by omega)]; exact w1 k hk
end RWB
