/-! the class works out a law -/
section ASKC
variable {σ s : HS} {tx : Nat}
def wAsk (a k : Nat) : Bool := (a == 9 && (k == 2 || k == 3)) || a == 11
def stkC (s : HS) : List Int32 → Prop
  | [] => True
  | x :: st => s.1 11 st.length = x ∧ stkC s st
theorem stkC.up {s1 : HS} : ∀ {st : List Int32}, stkC s st → (∀ j, j < st.length → s1.1 11 j = s.1 11 j) → stkC s1 st := by
  intro st
  induction st with
  | nil => intro _ _; trivial
  | cons x st ih =>
    intro h e
    exact ⟨by rw [e _ (by simp)]; exact h.1, ih h.2 (fun j hj => e j (by simp; omega))⟩
def SC (st : List Int32) (s : HS) : Prop := s.1 9 2 = nI st.length ∧ stkC s st
theorem w_push {st : List Int32} {x : Int32} (h : SC st σ) (hl : st.length < 32) : Okv (f_X1_push x σ) (fun s => SC (x :: st) s ∧ s.1 9 3 = σ.1 9 3 ∧ frm wAsk wl0 σ s) := by
  unfold f_X1_push
  rw [h.1, nIt (by omega)]
  refine Okv.t (by omega) (Okv.t (by omega) (Okv.bd (Okv.bd (Okv.ret ?_))))
  rw [Int.toNat_natCast]
  refine ⟨⟨?_, ?_, ?_⟩, ?_, (frm.rf.I rfl).I rfl⟩
  · rw [rI_s, rI_i (by decide), h.1, nI_1]; rfl
  · rw [rI_i (by decide), rI_s]
  · exact h.2.up (fun j hj => by rw [rI_i (by decide), rI_k (by omega)])
  · rw [rI_k (by decide), rI_i (by decide)]
theorem w_pop {st : List Int32} {x : Int32} (h : SC (x :: st) σ) (hl : st.length < 32) : Ok (f_X1_pop σ) (fun r s => r = x ∧ SC st s ∧ s.1 9 3 = σ.1 9 3 ∧ frm wAsk wl0 σ s) := by
  have e0 : σ.1 9 2 = nI (st.length + 1) := h.1
  have e1 : nI (st.length + 1) - (1 : Int32) = nI st.length := by rw [show (1 : Int32) = nI 1 from rfl, nI_sub (by omega) (by omega), Nat.add_sub_cancel]
  unfold f_X1_pop
  rw [e0, e1, nIt (by omega)]
  refine Ok.f (by omega) (Ok.bd ?_)
  rw [rI_s, nIt (by omega), Int.toNat_natCast]
  refine Ok.t (by omega) (Ok.ret ⟨?_, ⟨rI_s, ?_⟩, ?_, frm.rf.I rfl⟩)
  · rw [rI_i (by decide)]; exact h.2.1
  · exact h.2.2.up (fun j hj => by rw [rI_i (by decide)])
  · rw [rI_k (by decide)]
theorem w_reckon {k : Nat} {x a b : Int32} (hk : 2 ≤ k ∧ k ≤ 5) (hx : x.toInt = 1 - (k : Int)) (h0 : σ.1 9 3 = 0) : Ok (f_X1_reckon x a b σ) (fun r s => (k = 5 ∧ b.toInt = 0 → s.1 9 3 = 1) ∧ (¬ (k = 5 ∧ b.toInt = 0) → r = opI k a b ∧ s.1 9 3 = 0) ∧ s.1 9 2 = σ.1 9 2 ∧ (∀ j, s.1 11 j = σ.1 11 j) ∧ frm wAsk wl0 σ s) := by
  unfold f_X1_reckon
  rw [hx]
  rcases (show k = 2 ∨ k = 3 ∨ k = 4 ∨ k = 5 by omega) with rfl | rfl | rfl | rfl
  · exact Ok.f (by decide) (Ok.f (by decide) (Ok.t (by decide) (Ok.ret ⟨fun h => absurd h.1 (by decide), fun _ => ⟨rfl, h0⟩, rfl, fun _ => rfl, frm.rf⟩)))
  · exact Ok.f (by decide) (Ok.t (by decide) (Ok.ret ⟨fun h => absurd h.1 (by decide), fun _ => ⟨rfl, h0⟩, rfl, fun _ => rfl, frm.rf⟩))
  · exact Ok.t (by decide) (Ok.ret ⟨fun h => absurd h.1 (by decide), fun _ => ⟨rfl, h0⟩, rfl, fun _ => rfl, frm.rf⟩)
  · refine Ok.f (by decide) (Ok.f (by decide) (Ok.f (by decide) (Ok.t (by rw [h0]; rfl) ?_)))
    by_cases c : b.toInt = 0
    · refine Ok.t c ?_
      unfold f_X1_reckon_52 f_X1_reckon_57
      refine Ok.t (by decide) (Ok.bd (Ok.t c (Ok.ret ⟨fun _ => rI_s, fun h => absurd ⟨rfl, c⟩ h, ?_, fun j => ?_, frm.rf.I rfl⟩)))
      · rw [rI_k (by decide)]
      · rw [rI_i (by decide)]
    · refine Ok.f c ?_
      unfold f_X1_reckon_57
      refine Ok.t (by decide) (Ok.bd (Ok.f c (Ok.f c (Ok.ret ⟨fun h => absurd h.2 c, fun _ => ⟨rfl, rI_s⟩, ?_, fun j => ?_, frm.rf.I rfl⟩))))
      · rw [rI_k (by decide)]
      · rw [rI_i (by decide)]
theorem txk_al2 (h : txk tx) : (al (tx + 11) : Int) = 408 := by rcases h with rfl | rfl <;> rfl
theorem ask_fail {N p k : Nat} (htx : txk tx) (hp : p < 100000) (hk : k < 100000) (h : ¬ σ.1 9 3 = 0) : f_X1_answer_15 (tx + 11) (N + 1) (nI p) (nI k) σ = some (0, σ) := by
  have h1 : ¬ (σ.1 9 3).toInt = 0 := fun e => h (Int32.toInt_inj.mp e)
  show b_X1_answer_15 (tx + 11) (f_X1_answer_15 (tx + 11) N) (nI p) (nI k) σ = _
  unfold b_X1_answer_15
  rw [htx.al, nIt (n := p) (by omega), nIt (n := k) (by omega), if_neg (show ¬ (p : Int) < 0 by omega), if_neg h1]
  split
  · split <;> rfl
  · rfl
theorem ask_in {N p k : Nat} (htx : txk tx) (hp : p < 408) (hk : k < 408) (h : σ.1 9 3 = 0) : f_X1_answer_15 (tx + 11) (N + 1) (nI p) (nI k) σ = (if (σ.1 (tx + 11) p).toInt < 0 then
              if (-10) < (σ.1 (tx + 11) p).toInt then
                f_X1_answer_92 (tx + 11) (f_X1_answer_15 (tx + 11) N) (nI (p + 1)) (nI k) (σ.1 (tx + 11) p) σ
              else
                if (-19) < (σ.1 (tx + 11) p).toInt then
                  if 0 ≤ (((-10) : Int32) - σ.1 (tx + 11) p).toInt ∧ (((-10) : Int32) - σ.1 (tx + 11) p).toInt < 9 then
                    Cv (f_X1_push (σ.1 10 (((-10) : Int32) - σ.1 (tx + 11) p).toInt.toNat) σ) fun σ3 =>
                    f_X1_answer_15 (tx + 11) N (nI (p + 1)) (nI (k + 1)) σ3
                  else none
                else
                  f_X1_answer_92 (tx + 11) (f_X1_answer_15 (tx + 11) N) (nI (p + 1)) (nI k) (σ.1 (tx + 11) p) σ
            else
              Cv (f_X1_push (σ.1 (tx + 11) p) σ) fun σ5 =>
              f_X1_answer_15 (tx + 11) N (nI (p + 1)) (nI (k + 1)) σ5) := by
  show b_X1_answer_15 (tx + 11) (f_X1_answer_15 (tx + 11) N) (nI p) (nI k) σ = _
  unfold b_X1_answer_15
  rw [htx.al, txk_al2 htx, nIt (n := p) (by omega), nIt (n := k) (by omega), if_pos (by omega), if_neg (show ¬ (p : Int) < 0 by omega), if_pos (by omega), if_pos (by rw [h]; rfl), if_pos (by omega), Int.toNat_natCast]
  simp only [Bd, f_X1_answer_178]
  rw [nI_1, nI_1]
theorem ofI {x : Int32} {v : Int} (h : x.toInt = v) : x = Int32.ofInt v := by rw [← h, Int32.ofInt_toInt]
theorem w_run (htx : txk tx) {Q : Int32 → HS → Prop} : ∀ (c : COD) (p k N : Nat) (st : List Int32) (e : Nat) (σ : HS), seg σ (tx + 11) p (enc c) → wfO 31 c st.length = some e → st.length ≤ 31 → p + c.length < 408 → k ≤ p → 408 < N + p → SC st σ → σ.1 9 3 = 0 → (∀ (st1 : List Int32) (k1 N1 : Nat) (s : HS), runS (σ.1 10) c st = some st1 → k1 ≤ p + c.length → 408 < N1 + (p + c.length) → SC st1 s → s.1 9 3 = 0 → frm wAsk wl0 σ s → Ok (f_X1_answer_15 (tx + 11) N1 (nI (p + c.length)) (nI k1) s) Q) → (∀ s : HS, runS (σ.1 10) c st = none → frm wAsk wl0 σ s → Q 0 s) → Ok (f_X1_answer_15 (tx + 11) N (nI p) (nI k) σ) Q := by
  have lo := htx.lo
  intro c
  induction c with
  | nil =>
    intro p k N st e σ hs hw hd hp hk hN hS h0 K1 K2
    exact K1 st k N σ rfl hk hN hS h0 frm.rf
  | cons q c ih =>
    intro p k N st e σ hs hw hd hp hk hN hS h0 K1 K2
    have hlen : (q :: c).length = c.length + 1 := rfl
    rw [hlen] at hp K1
    obtain ⟨N, rfl⟩ : ∃ q, N = q + 1 := ⟨N - 1, by omega⟩
    have hz : (σ.1 (tx + 11) p).toInt = encI q := hs 0 (by simp [enc])
    have hs2 : seg σ (tx + 11) (p + 1) (enc c) := fun i hi => by
      have := hs (i + 1) (by simp [enc] at hi ⊢; omega)
      rw [show p + 1 + i = p + (i + 1) by omega, this]; rfl
    have hr : runS (σ.1 10) (q :: c) st = match stpS (σ.1 10) q st with | none => none | some st1 => runS (σ.1 10) c st1 := rfl
    -- what comes behind one push
    have push : ∀ (x : Int32), stpS (σ.1 10) q st = some (x :: st) → st.length < 31 → wfO 31 c (st.length + 1) = some e → Ok (Cv (f_X1_push x σ) fun s => f_X1_answer_15 (tx + 11) N (nI (p + 1)) (nI (k + 1)) s) Q := by
      intro x hx hl hw1
      rw [hx] at hr
      refine Ok.cv (w_push hS (by omega)) (fun s1 h1 => ?_)
      obtain ⟨a1, a2, a3⟩ := h1
      have ev : s1.1 10 = σ.1 10 := funext fun j => a3.1 10 j rfl
      refine ih (p + 1) (k + 1) N (x :: st) e s1 (hs2.same (fun q _ _ => a3.1 _ _ (by unfold wAsk; simp; omega))) hw1 (by simp; omega) (by omega) (by omega) (by omega) a1 (by rw [a2]; exact h0) (fun st1 k1 N1 s b1 b2 b3 b4 b5 b6 => ?_) (fun s b1 b2 => ?_)
      · rw [show p + 1 + c.length = p + (c.length + 1) by omega]
        exact K1 st1 k1 N1 s (by rw [hr, ← ev]; exact b1) (by omega) (by omega) b4 b5 (a3.tr b6)
      · exact K2 s (by rw [hr, ← ev]; exact b1) (a3.tr b2)
    rw [ask_in htx (by omega) (by omega) h0]
    rcases wfO_cons hw with ⟨a1, a2, a3⟩ | ⟨a1, a2, a3, a4⟩
    · rcases a1 with a1 | a1
      · have hz2 : (σ.1 (tx + 11) p).toInt = q.2 := by rw [hz]; unfold encI; rw [if_pos a1.1]
        have c1 : ¬ (σ.1 (tx + 11) p).toInt < 0 := by rw [hz2]; omega
        rw [if_neg c1]
        refine push _ ?_ a2 a3
        unfold stpS
        rw [if_pos a1.1, ofI hz2]
      · have hz2 : (σ.1 (tx + 11) p).toInt = -10 - q.2 := by rw [hz]; unfold encI; rw [if_neg (by omega), if_pos a1.1]
        have c1 : (σ.1 (tx + 11) p).toInt < 0 := by rw [hz2]; omega
        have c2 : ¬ (-10) < (σ.1 (tx + 11) p).toInt := by rw [hz2]; omega
        have c3 : (-19) < (σ.1 (tx + 11) p).toInt := by rw [hz2]; omega
        have c4 : 0 ≤ q.2 ∧ q.2 < 9 := ⟨a1.2.1, by omega⟩
        have hj : (((-10) : Int32) - σ.1 (tx + 11) p).toInt = q.2 := by
          have e10 : ((-10 : Int32)).toInt = -10 := by decide
          rw [i32_sub (by rw [hz2, e10]; omega), hz2, e10]; omega
        rw [if_pos c1, if_neg c2, if_pos c3, hj, if_pos c4]
        clear hj
        refine push _ ?_ a2 a3
        unfold stpS
        rw [if_neg (by omega), if_pos a1.1]
    · have hz2 : (σ.1 (tx + 11) p).toInt = 1 - (q.1 : Int) := by rw [hz]; unfold encI; rw [if_neg (by omega), if_neg (by omega)]
      have c1 : (σ.1 (tx + 11) p).toInt < 0 := by rw [hz2]; omega
      have c2 : (-10) < (σ.1 (tx + 11) p).toInt := by rw [hz2]; omega
      have c3 : ¬ (σ.1 (tx + 11) p).toInt = -6 := by rw [hz2]; omega
      have c4 : ¬ (σ.1 (tx + 11) p).toInt = -5 := by rw [hz2]; omega
      rw [if_pos c1, if_pos c2]
      match st, hS, hd, a3, a4, hr, K1, K2 with
      | [], _, _, a3, _, _, _, _ => exact absurd a3 (by decide)
      | [_], _, _, a3, _, _, _, _ => exact absurd a3 (by simp)
      | b :: a :: r, hS, hd, a3, a4, hr, K1, K2 =>
        have hl : (b :: a :: r).length = r.length + 2 := rfl
        unfold f_X1_answer_92
        rw [if_neg c3]
        have hlr : r.length < 30 := by rw [hl] at hd; omega
        refine Ok.cl (w_pop hS (by simp; omega)) (fun r2 s1 h1 => ?_)
        obtain ⟨rfl, b1, b2, b3⟩ := h1
        refine Ok.cl (w_pop b1 (by omega)) (fun r4 s3 h3 => ?_)
        obtain ⟨rfl, d1, d2, d3⟩ := h3
        rw [if_neg c4]
        refine (Ok.cl (w_reckon (k := q.1) ⟨a1, a2⟩ hz2 (by rw [d2, b2]; exact h0)) (fun r7 s6 h6 => ?_))
        obtain ⟨g1, g2, g3, g4, g5⟩ := h6
        have S6 : SC r s6 := ⟨by rw [g3]; exact d1.1, d1.2.up (fun j _ => g4 j)⟩
        refine Ok.cv (w_push S6 (by omega)) (fun s8 h8 => ?_)
        obtain ⟨f1, f2, f3⟩ := h8
        have F8 : frm wAsk wl0 σ s8 := ((b3.tr d3).tr g5).tr f3
        have ev : s8.1 10 = σ.1 10 := funext fun j => F8.1 10 j rfl
        unfold f_X1_answer_178
        refine Ok.bd ?_
        rw [nI_1]
        by_cases c5 : q.1 = 5 ∧ r2.toInt = 0
        · obtain ⟨N, rfl⟩ : ∃ q, N = q + 1 := ⟨N - 1, by omega⟩
          refine ⟨0, s8, ask_fail htx (by omega) (by omega) (by rw [f2, g1 c5]; decide), K2 s8 ?_ F8⟩
          rw [hr]
          unfold stpS
          rw [if_neg (by omega), if_neg (by omega)]
          simp only
          rw [if_pos c5]
        · obtain ⟨rfl, e0⟩ := g2 c5
          have hst : stpS (σ.1 10) q (r2 :: r4 :: r) = some (opI q.1 r4 r2 :: r) := by
            unfold stpS
            rw [if_neg (by omega), if_neg (by omega)]
            simp only
            rw [if_neg c5]
          rw [hst] at hr
          refine ih (p + 1) (k + 1) N (opI q.1 r4 r2 :: r) e s8 (hs2.same (fun q _ _ => F8.1 _ _ (by unfold wAsk; simp; omega))) (by rw [← a4]; rfl) (by simp; omega) (by omega) (by omega) (by omega) f1 (by rw [f2]; exact e0) (fun st1 k1 N1 s b1 b2 b3 b4 b5 b6 => ?_) (fun s b1 b2 => ?_)
          · rw [show p + 1 + c.length = p + (c.length + 1) by omega]
            exact K1 st1 k1 N1 s (by rw [hr, ← ev]; exact b1) (by omega) (by omega) b4 b5 (F8.tr b6)
          · exact K2 s (by rw [hr, ← ev]; exact b1) (F8.tr b2)
end ASKC
