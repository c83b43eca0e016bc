/-! the class's answer of a law -/
section ASKD
variable {σ s : HS} {tx : Nat}
theorem seg_spl {a p : Nat} {l m : List Int} (h : seg σ a p (l ++ m)) : seg σ a p l ∧ seg σ a (p + l.length) m := by
  refine ⟨fun i hi => ?_, fun i hi => ?_⟩
  · rw [h i (by rw [List.length_append]; omega), gD_l hi]
  · rw [show p + l.length + i = p + (l.length + i) by omega, h _ (by rw [List.length_append]; omega), gD_r (by omega), Nat.add_sub_cancel_left]
theorem seg_cons {a p : Nat} {x : Int} {l : List Int} (h : seg σ a p (x :: l)) : (σ.1 a p).toInt = x ∧ seg σ a (p + 1) l := by
  have h1 := seg_spl (l := [x]) (m := l) h
  exact ⟨h1.1 0 (by simp), h1.2⟩
theorem ask_end {N p k : Nat} {x : Int32} (htx : txk tx) (hp : p < 408) (hk : k < 408) (hz : (σ.1 (tx + 11) p).toInt = -6) (hS : SC [x] σ) (h0 : σ.1 9 3 = 0) : Ok (f_X1_answer_15 (tx + 11) (N + 1) (nI p) (nI k) σ) (fun r s => r = x ∧ frm wAsk wl0 σ s) := by
  rw [ask_in htx hp hk h0, if_pos (by rw [hz]; decide), if_pos (by rw [hz]; decide)]
  unfold f_X1_answer_92
  refine Ok.t hz (Ok.cl (w_pop hS (by decide)) (fun r1 s1 h1 => ?_))
  obtain ⟨rfl, -, b2, b3⟩ := h1
  exact Ok.t (by rw [b2, h0]; rfl) (Ok.ret ⟨rfl, b3⟩)
theorem ask_less {N p k t : Nat} {u w : Int32} {Q : Int32 → HS → Prop} (htx : txk tx) (hp : p + 1 < 408) (hk : k < 408) (hz : (σ.1 (tx + 11) p).toInt = -5) (ht : (σ.1 (tx + 11) (p + 1)).toInt = t) (ht2 : t ≤ 408) (hS : SC [w, u] σ) (h0 : σ.1 9 3 = 0) (K1 : u.toInt < w.toInt → ∀ s, SC [] s → s.1 9 3 = 0 → frm wAsk wl0 σ s → Ok (f_X1_answer_15 (tx + 11) N (nI (p + 2)) (nI (k + 1)) s) Q) (K2 : ¬ u.toInt < w.toInt → ∀ s, SC [] s → s.1 9 3 = 0 → frm wAsk wl0 σ s → Ok (f_X1_answer_15 (tx + 11) N (nI t) (nI (k + 1)) s) Q) : Ok (f_X1_answer_15 (tx + 11) (N + 1) (nI p) (nI k) σ) Q := by
  have lo := htx.lo
  rw [ask_in htx (by omega) hk h0, if_pos (by rw [hz]; decide), if_pos (by rw [hz]; decide)]
  unfold f_X1_answer_92
  refine Ok.f (by rw [hz]; decide) (Ok.cl (w_pop hS (by simp)) (fun r1 s1 h1 => ?_))
  obtain ⟨rfl, b1, b2, b3⟩ := h1
  refine Ok.cl (w_pop b1 (by decide)) (fun r3 s3 h3 => ?_)
  obtain ⟨rfl, d1, d2, d3⟩ := h3
  have F : frm wAsk wl0 σ s3 := b3.tr d3
  have e0 : s3.1 9 3 = 0 := by rw [d2, b2]; exact h0
  refine Ok.t hz ?_
  by_cases c : r3.toInt < r1.toInt
  · refine Ok.t c ?_
    unfold f_X1_answer_168 f_X1_answer_178
    refine Ok.bd (Ok.bd ?_)
    rw [nI_1, nI_1]
    exact K1 c s3 d1 e0 F
  · have ez : s3.1 (tx + 11) (p + 1) = nI t := by
      rw [F.1 _ _ (by unfold wAsk; simp; omega)]
      exact Int32.toInt_inj.mp (by rw [ht, nIt (by omega)])
    refine Ok.f c ?_
    rw [htx.al, txk_al2 htx, nIt (n := p + 1) (by omega)]
    refine Ok.t (by omega) (Ok.t (by omega) (Ok.bd ?_))
    unfold f_X1_answer_178
    refine Ok.bd ?_
    rw [nI_1, Int.toNat_natCast, ez]
    exact K2 c s3 d1 e0 F
theorem w_lawC (htx : txk tx) (c0 : COD) (g0 : gdC c0) : ∀ (l : List (COD × COD × COD)) (p k N : Nat) (σ : HS), (∀ x ∈ l, gdC x.1 ∧ gdC x.2.1 ∧ gdC x.2.2) → seg σ (tx + 11) p (layB p l ++ enc c0 ++ [-6]) → p + (layB p l).length + c0.length + 1 ≤ 408 → k ≤ p → 409 < N + p → SC [] σ → σ.1 9 3 = 0 → Ok (f_X1_answer_15 (tx + 11) N (nI p) (nI k) σ) (fun r s => r = lawR (σ.1 10) l c0 ∧ frm wAsk wl0 σ s) := by
  have lo := htx.lo
  have g31 : ∀ {c : COD}, gdC c → wfO 31 c 0 = some 1 := fun h => wfO_mono (k := 0) (by omega) h
  have g31b : ∀ {c : COD}, gdC c → wfO 31 c 1 = some 2 := fun h => wfO_mono (k := 1) (by omega) h
  -- a piece of code and its END
  have fin : ∀ (c : COD) (p k N : Nat) (σ : HS), gdC c → seg σ (tx + 11) p (enc c ++ [-6]) → p + c.length + 1 ≤ 408 → k ≤ p → 409 < N + p → SC [] σ → σ.1 9 3 = 0 → Ok (f_X1_answer_15 (tx + 11) N (nI p) (nI k) σ) (fun r s => r = (valS (σ.1 10) c).getD 0 ∧ frm wAsk wl0 σ s) := by
    intro c p k N σ g hs hp hk hN hS h0
    have hv := val_run (v := σ.1 10) g
    obtain ⟨s1, s2⟩ := seg_spl hs
    rw [enc_len] at s2
    refine w_run htx c p k N [] 1 σ s1 (g31 g) (by decide) (by omega) hk (by omega) hS h0 (fun st1 k1 N1 s a1 a2 a3 a4 a5 a6 => ?_) (fun s a1 a2 => ?_)
    · rw [a1] at hv
      cases e : valS (σ.1 10) c with
      | none => rw [e] at hv; exact nomatch hv
      | some x =>
        rw [e] at hv
        cases hv
        obtain ⟨N1, rfl⟩ : ∃ q, N1 = q + 1 := ⟨N1 - 1, by omega⟩
        refine (ask_end (x := x) htx (by omega) (by omega) ?_ a4 a5).mono (fun r s1 h => ⟨h.1, a6.tr h.2⟩)
        rw [a6.1 _ _ (by unfold wAsk; simp; omega)]
        exact (seg_cons s2).1
    · rw [a1] at hv
      cases e : valS (σ.1 10) c with
      | none => exact ⟨rfl, a2⟩
      | some x => rw [e] at hv; exact nomatch hv
  intro l
  induction l with
  | nil =>
    intro p k N σ _ hs hp hk hN hS h0
    have hs' : seg σ (tx + 11) p (enc c0 ++ [-6]) := hs
    have hp' : p + 0 + c0.length + 1 ≤ 408 := hp
    exact fin c0 p k N σ g0 hs' (by omega) hk hN hS h0
  | cons x l ih =>
    intro p k N σ hl hs hp hk hN hS h0
    obtain ⟨ga, gb, gc⟩ := hl x (List.mem_cons_self ..)
    obtain ⟨a, b, c⟩ := x
    have hlb : layB p ((a, b, c) :: l) = layO p (a, b, c) ++ layB (p + brL (a, b, c)) l := rfl
    have hbl : brL (a, b, c) = a.length + b.length + c.length + 3 := rfl
    rw [hlb] at hs hp
    rw [List.length_append, layO_len] at hp
    rw [List.append_assoc, List.append_assoc] at hs
    obtain ⟨sO, sR⟩ := seg_spl hs
    rw [layO_len, ← List.append_assoc] at sR
    have hO : layO p (a, b, c) = enc a ++ (enc b ++ (-5 :: ((p + brL (a, b, c) : Nat) : Int) :: (enc c ++ [-6]))) := by unfold layO; simp
    rw [hO] at sO
    obtain ⟨sa, sO⟩ := seg_spl sO
    obtain ⟨sb, sO⟩ := seg_spl sO
    obtain ⟨z1, sO⟩ := seg_cons sO
    obtain ⟨z2, sc⟩ := seg_cons sO
    rw [enc_len] at sb z1 z2 sc
    rw [enc_len] at z1 z2 sc
    have er : lawR (σ.1 10) ((a, b, c) :: l) c0 = (match valS (σ.1 10) a, valS (σ.1 10) b with | some u, some w => if u.toInt < w.toInt then (valS (σ.1 10) c).getD 0 else lawR (σ.1 10) l c0 | _, _ => 0) := rfl
    have va := val_run (v := σ.1 10) ga
    have vb := val_run (v := σ.1 10) gb
    have same : ∀ {s : HS} {q : Nat} {m : List Int}, frm wAsk wl0 σ s → seg σ (tx + 11) q m → seg s (tx + 11) q m := fun hf h => h.same (fun q _ _ => hf.1 _ _ (by unfold wAsk; simp; omega))
    have v10 : ∀ {s : HS}, frm wAsk wl0 σ s → s.1 10 = σ.1 10 := fun hf => funext fun j => hf.1 10 j rfl
    refine w_run htx a p k N [] 1 σ sa (g31 ga) (by decide) (by omega) hk (by omega) hS h0 (fun st1 k1 N1 s a1 a2 a3 a4 a5 a6 => ?_) (fun s a1 a2 => ?_)
    · rw [a1] at va
      cases ea : valS (σ.1 10) a with
      | none => rw [ea] at va; exact nomatch va
      | some u =>
        rw [ea] at va
        cases va
        rw [ea] at er
        have hvb : runS (s.1 10) b [u] = (valS (σ.1 10) b).map (fun x => [x, u]) := by
          rw [v10 a6]
          have := run_app (v := σ.1 10) (m := 16) (st := []) (st2 := [u]) (c := b) gb
          rw [List.nil_append] at this
          rw [this, vb]
          cases valS (σ.1 10) b <;> rfl
        refine w_run htx b (p + a.length) k1 N1 [u] 2 s (same a6 sb) (g31b gb) (by simp) (by omega) a2 a3 a4 a5 (fun st2 k2 N2 s2 b1 b2 b3 b4 b5 b6 => ?_) (fun s2 b1 b2 => ?_)
        · rw [b1] at hvb
          cases eb : valS (σ.1 10) b with
          | none => rw [eb] at hvb; exact nomatch hvb
          | some w =>
            rw [eb] at hvb er
            cases hvb
            have F2 := a6.tr b6
            obtain ⟨N2, rfl⟩ : ∃ q, N2 = q + 1 := ⟨N2 - 1, by omega⟩
            have y1 : (s2.1 (tx + 11) (p + a.length + b.length)).toInt = -5 := by rw [F2.1 _ _ (by unfold wAsk; simp; omega)]; exact z1
            have y2 : (s2.1 (tx + 11) (p + a.length + b.length + 1)).toInt = ((p + brL (a, b, c) : Nat) : Int) := by rw [F2.1 _ _ (by unfold wAsk; simp; omega)]; exact z2
            refine ask_less htx (by omega) (by omega) y1 y2 (by omega) b4 b5 (fun hlt s3 c1 c2 c3 => ?_) (fun hlt s3 c1 c2 c3 => ?_)
            · have F3 := F2.tr c3
              have er' : lawR (σ.1 10) ((a, b, c) :: l) c0 = (valS (s3.1 10) c).getD 0 := by rw [er, v10 F3]; exact if_pos hlt
              rw [er']
              exact (fin c (p + a.length + b.length + 2) (k2 + 1) N2 s3 gc (same F3 sc) (by omega) (by omega) (by omega) c1 c2).mono (fun r s4 h => ⟨h.1, F3.tr h.2⟩)
            · have F3 := F2.tr c3
              have er' : lawR (σ.1 10) ((a, b, c) :: l) c0 = lawR (s3.1 10) l c0 := by rw [er, v10 F3]; exact if_neg hlt
              rw [er']
              exact (ih (p + brL (a, b, c)) (k2 + 1) N2 s3 (fun y hy => hl y (List.mem_cons_of_mem _ hy)) (same F3 sR) (by omega) (by omega) (by omega) c1 c2).mono (fun r s4 h => ⟨h.1, F3.tr h.2⟩)
        · rw [b1] at hvb
          cases eb : valS (σ.1 10) b with
          | none => rw [eb] at er; exact ⟨er.symm, a6.tr b2⟩
          | some w => rw [eb] at hvb; exact nomatch hvb
    · rw [a1] at va
      cases ea : valS (σ.1 10) a with
      | none => rw [ea] at er; exact ⟨er.symm, a2⟩
      | some u => rw [ea] at va; exact nomatch va
def wAns (a k : Nat) : Bool := wAsk a k || (a == 10 && k == 2)
/-- the variables with the height -/
def vH (v : Nat → Int32) (h : Int32) : Nat → Int32 := fun k => if k = 2 then h else v k
def clampS (k : Nat) (x : Int32) : Int32 := if k = 1 then hldI x 0 100 else if k = 2 then hldI x (-99) 99 else hldI x 0 99
theorem mm_hld {x lo hi : Int32} (h : lo.toInt ≤ hi.toInt) : (if lo < (if x < hi then x else hi) then (if x < hi then x else hi) else lo) = hldI x lo hi := by
  unfold hldI
  by_cases c : x < hi
  · have := Int32.lt_iff_toInt_lt.mp c
    rw [if_pos c]
    by_cases c2 : lo < x
    · have := Int32.lt_iff_toInt_lt.mp c2
      rw [if_pos c2, if_neg (by omega), if_neg (by omega)]
    · have : ¬ lo.toInt < x.toInt := fun e => c2 (Int32.lt_iff_toInt_lt.mpr e)
      rw [if_neg c2]
      by_cases c3 : x.toInt < lo.toInt
      · rw [if_pos c3]
      · rw [if_neg c3, if_neg (by omega)]
        exact Int32.toInt_inj.mp (by omega)
  · have c' : ¬ x.toInt < hi.toInt := fun e => c (Int32.lt_iff_toInt_lt.mpr e)
    rw [if_neg c]
    by_cases c2 : lo < hi
    · have := Int32.lt_iff_toInt_lt.mp c2
      rw [if_pos c2, if_neg (by omega)]
      by_cases c3 : hi.toInt < x.toInt
      · rw [if_pos c3]
      · rw [if_neg c3]
        exact Int32.toInt_inj.mp (by omega)
    · have : ¬ lo.toInt < hi.toInt := fun e => c2 (Int32.lt_iff_toInt_lt.mpr e)
      have e : lo = hi := Int32.toInt_inj.mp (by omega)
      subst e
      rw [if_neg c2, if_neg (by omega)]
      by_cases c3 : lo.toInt < x.toInt
      · rw [if_pos c3]
      · rw [if_neg c3]
        exact Int32.toInt_inj.mp (by omega)
theorem w_asks {p k : Nat} {L : LAWT} {x : Int32} (htx : txk tx) (hk : k < 4) (hp : p ≤ 408) (hL : LWC tx σ p k L) (g : LG L) : Ok (f_X4_asks tx (nI k) x σ) (fun r s => r = clampS k (lawR (vH (σ.1 10) x) L.1 L.2) ∧ frm wAns wl0 σ s) := by
  have lo := htx.lo
  obtain ⟨q, e1, e2, e3⟩ := hL
  obtain ⟨g1, g2, g3⟩ := g
  have hlen : (layL q L).length = (layB q L.1).length + L.2.length + 1 := by unfold layL; simp [enc_len]; omega
  unfold f_X4_asks
  refine Ok.bd ?_
  rw [nIt (by omega), Int.toNat_natCast]
  generalize hs1 : hI σ 10 2 x = s1
  have F1 : frm wAns wl0 σ s1 := by rw [← hs1]; exact frm.rf.I rfl
  have n1 : ∀ a k, a ≠ 10 → s1.1 a k = σ.1 a k := fun a k ha => by rw [← hs1, rI_i ha]
  have v1 : s1.1 10 = vH (σ.1 10) x := by
    rw [← hs1]
    refine funext fun j => ?_
    unfold vH
    by_cases c : j = 2
    · rw [c, rI_s, if_pos rfl]
    · rw [rI_k c, if_neg c]
  refine Ok.t (by omega) ?_
  rw [n1 _ _ (by omega), e1]
  refine Ok.cl (P := fun r s => r = lawR (vH (σ.1 10) x) L.1 L.2 ∧ frm wAns wl0 σ s) ?_ (fun r s h => ?_)
  · unfold f_X1_answer
    refine Ok.bd (Ok.bd ?_)
    generalize hs3 : hI (hI s1 9 2 0) 9 3 0 = s3
    have F3 : frm wAsk wl0 s1 s3 := by rw [← hs3]; exact (frm.rf.I rfl).I rfl
    have v3 : s3.1 10 = s1.1 10 := funext fun j => F3.1 10 j rfl
    rw [nI0]
    refine (w_lawC htx L.2 g3 L.1 q 0 5000 s3 g2 ?_ (by omega) (by omega) (by omega) ⟨?_, trivial⟩ ?_).mono (fun r s h => ⟨by rw [h.1, v3, v1], F1.tr ((F3.tr h.2).mono (fun a k e => ?_) (fun _ e => e))⟩)
    · have e3' : seg σ (tx + 11) q (layB q L.1 ++ enc L.2 ++ [-6]) := e3
      exact e3'.same (fun j _ _ => by rw [F3.1 _ _ (by unfold wAsk; simp; omega), n1 _ _ (by omega)])
    · rw [← hs3, rI_k (by decide), rI_s]; exact nI_0.symm
    · rw [← hs3, rI_s]
    · unfold wAns at e
      simp only [Bool.or_eq_false_iff] at e
      exact e.1
  · obtain ⟨rfl, hf⟩ := h
    rcases (show k = 0 ∨ k = 1 ∨ k = 2 ∨ k = 3 by omega) with rfl | rfl | rfl | rfl
    · exact Ok.f (by decide) (Ok.f (by decide) (Ok.ret ⟨mm_hld (by decide), hf⟩))
    · exact Ok.t (by decide) (Ok.ret ⟨mm_hld (by decide), hf⟩)
    · exact Ok.f (by decide) (Ok.t (by decide) (Ok.ret ⟨mm_hld (by decide), hf⟩))
    · exact Ok.f (by decide) (Ok.f (by decide) (Ok.ret ⟨mm_hld (by decide), hf⟩))
end ASKD
