/-! the reference works out a law -/
section LAWM
variable {σ s : HS} {sd T : Nat}
def wTo (a k : Nat) : Bool := a == 265 || (a == 236 && k == 46)
def stkM (s : HS) : List Int32 → Prop
  | [] => True
  | x :: st => s.1 265 st.length = x ∧ stkM s st
theorem stkM.up {s1 : HS} : ∀ {st : List Int32}, stkM s st → (∀ j, j < st.length → s1.1 265 j = s.1 265 j) → stkM s1 st := by
  intro st
  induction st with
  | nil => intro _ _; trivial
  | cons x st ih =>
    intro h e
    exact ⟨by rw [e _ (by simp)]; exact h.1, ih h.2 (fun j hj => e j (by simp; omega))⟩
theorem nI_pm {n : Nat} (h : n < 100000) : nI (n + 1) + (-1) = nI n := Int32.toInt_inj.mp (by
  have e : (-1 : Int32).toInt = -1 := by decide
  rw [i32_add (by rw [nIt (by omega), e]; omega), nIt (by omega), nIt (by omega), e]; omega)
theorem nI_mm {n : Nat} (h : n < 100000) : nI (n + 1) - (1 : Int32) = nI n := by rw [show (1 : Int32) = nI 1 from rfl, nI_sub (by omega) (by omega), Nat.add_sub_cancel]
/-- what a piece of code leaves -/
def TOm (v : Nat → Int32) (c : COD) (σ : HS) (r : Int32) (s : HS) : Prop := frm wTo wl0 σ s ∧ (∀ x, valS v c = some x → r = x ∧ s.1 236 46 = σ.1 236 46) ∧ (valS v c = none → s.1 236 46 = 1)
theorem w_to5 {E : Nat} (hE : E ≤ 840) : ∀ (c : COD) (p N : Nat) (st : List Int32) (σ : HS), seg σ 261 p (cK c) → seg σ 262 p (cV c) → wfO 16 c st.length = some 1 → st.length ≤ 16 → p + c.length = E → 840 < N + p → stkM σ st → Ok (f_X12_termOf_5 N (nI E) (nI st.length) (nI p) σ) (fun r s => frm wTo wl0 σ s ∧ (∀ st1, runS (σ.1 264) c st = some st1 → st1 = [r] ∧ s.1 236 46 = σ.1 236 46) ∧ (runS (σ.1 264) c st = none → s.1 236 46 = 1)) := by
  intro c
  induction c with
  | nil =>
    intro p N st σ h1 h2 hw hd hp hN hS
    obtain ⟨N, rfl⟩ : ∃ q, N = q + 1 := ⟨N - 1, by omega⟩
    have hp' : p + 0 = E := hp
    have hl : st.length = 1 := Option.some.inj hw
    show Ok (b_X12_termOf_5 (f_X12_termOf_5 N) (nI E) _ (nI p) σ) _
    unfold b_X12_termOf_5
    rw [nIt (n := p) (by omega), nIt (n := E) (by omega)]
    refine Ok.f (by omega) (Ok.ret ⟨frm.rf, fun st1 e => ?_, fun e => nomatch e⟩)
    cases e
    match st, hl, hS with
    | [x], _, hS => exact ⟨by rw [show σ.1 265 0 = x from hS.1], rfl⟩
  | cons q c ih =>
    intro p N st σ h1 h2 hw hd hp hN hS
    obtain ⟨N, rfl⟩ : ∃ q, N = q + 1 := ⟨N - 1, by omega⟩
    have hp' : p + (c.length + 1) = E := hp
    obtain ⟨k1, t1⟩ := seg_cons (show seg σ 261 p ((q.1 : Int) :: cK c) from h1)
    obtain ⟨k2, t2⟩ := seg_cons (show seg σ 262 p (q.2 :: cV c) from h2)
    have hr : runS (σ.1 264) (q :: c) st = match stpS (σ.1 264) q st with | none => none | some st1 => runS (σ.1 264) c st1 := rfl
    have push : ∀ (x : Int32), stpS (σ.1 264) q st = some (x :: st) → wfO 16 c (st.length + 1) = some 1 → st.length < 16 → Ok (f_X12_termOf_58 (f_X12_termOf_5 N) (nI E) (nI st.length) (nI p) x (nI st.length) σ) (fun r s => frm wTo wl0 σ s ∧ (∀ st1, runS (σ.1 264) (q :: c) st = some st1 → st1 = [r] ∧ s.1 236 46 = σ.1 236 46) ∧ (runS (σ.1 264) (q :: c) st = none → s.1 236 46 = 1)) := by
      intro x hx hw1 hl
      rw [hx] at hr
      unfold f_X12_termOf_58 f_X12_termOf_159
      rw [nIt (n := st.length) (by omega), Int.toNat_natCast]
      refine Ok.t (by omega) (Ok.bd (Ok.bd (Ok.bd ?_)))
      rw [nI_1, nI_1]
      generalize hs1 : hI σ 265 st.length x = s1
      have F1 : frm wTo wl0 σ s1 := by rw [← hs1]; exact frm.rf.I rfl
      have ev : s1.1 264 = σ.1 264 := funext fun j => F1.1 264 j rfl
      have e46 : s1.1 236 46 = σ.1 236 46 := by rw [← hs1, rI_i (by decide)]
      refine (ih (p + 1) N (x :: st) s1 (t1.same (fun j _ _ => F1.1 261 j rfl)) (t2.same (fun j _ _ => F1.1 262 j rfl)) hw1 (by simp; omega) (by omega) (by omega) ⟨by rw [← hs1, rI_s], hS.up (fun j hj => by rw [← hs1, rI_k (by omega)])⟩).mono (fun r s h => ?_)
      obtain ⟨a1, a2, a3⟩ := h
      rw [ev] at a2 a3
      exact ⟨F1.tr a1, fun st1 e => by rw [← e46]; exact a2 st1 (hr.symm.trans e), fun e => a3 (hr.symm.trans e)⟩
    show Ok (b_X12_termOf_5 (f_X12_termOf_5 N) (nI E) _ (nI p) σ) _
    unfold b_X12_termOf_5
    rw [nIt (n := p) (by omega), nIt (n := E) (by omega), Int.toNat_natCast]
    refine Ok.t (by omega) (Ok.t (by omega) (Ok.bd ?_))
    rw [k1]
    rcases wfO_cons hw with ⟨a1, a2, a3⟩ | ⟨a1, a2, a3, a4⟩
    · refine Ok.t (by omega) ?_
      rcases a1 with a1 | a1
      · refine Ok.t (by omega) (Ok.t (by omega) (push _ ?_ a3 a2))
        unfold stpS
        rw [if_pos a1.1, ofI k2]
      · have c9 : 0 ≤ q.2 ∧ q.2 < 9 := ⟨a1.2.1, by omega⟩
        refine Ok.f (by omega) (Ok.t (by omega) ?_)
        rw [k2]
        refine Ok.t c9 (push _ ?_ a3 a2)
        unfold stpS
        rw [if_neg (by omega), if_pos a1.1]
    · refine Ok.f (by omega) ?_
      match st, hS, hd, a3, a4, hr with
      | [], _, _, a3, _, _ => exact absurd a3 (by decide)
      | [_], _, _, a3, _, _ => exact absurd a3 (by simp)
      | b :: a :: r, hS, hd, a3, a4, hr =>
        have hl : (b :: a :: r).length = r.length + 1 + 1 := rfl
        have hd' : r.length + 1 + 1 ≤ 16 := hd
        refine Ok.bd ?_
        rw [hl, nI_pm (by omega), nI_mm (by omega), nIt (n := r.length) (by omega), nIt (n := r.length + 1) (by omega), Int.toNat_natCast, Int.toNat_natCast]
        have eb : σ.1 265 (r.length + 1) = b := hS.1
        have ea : σ.1 265 r.length = a := hS.2.1
        refine Ok.t (by omega) (Ok.bd (Ok.t (by omega) (Ok.bd ?_)))
        rw [eb, ea]
        have op : ¬ (q.1 = 5 ∧ b.toInt = 0) → Ok (f_X12_termOf_104 (f_X12_termOf_5 N) (nI E) (nI (r.length + 1)) (nI p) (σ.1 261 p) a b σ) (fun r_1 s => frm wTo wl0 σ s ∧ (∀ st1, runS (σ.1 264) (q :: c) (b :: a :: r) = some st1 → st1 = [r_1] ∧ s.1 236 46 = σ.1 236 46) ∧ (runS (σ.1 264) (q :: c) (b :: a :: r) = none → s.1 236 46 = 1)) := by
          intro c5
          have hst : stpS (σ.1 264) q (b :: a :: r) = some (opI q.1 a b :: r) := by
            unfold stpS
            rw [if_neg (by omega), if_neg (by omega)]
            simp only
            rw [if_neg c5]
          rw [hst] at hr
          have fin : ∀ x, x = opI q.1 a b → Ok (f_X12_termOf_158 (f_X12_termOf_5 N) (nI E) (nI (r.length + 1)) (nI p) x (nI (r.length + 1) - (1 : Int32)) σ) (fun r_1 s => frm wTo wl0 σ s ∧ (∀ st1, runS (σ.1 264) (q :: c) (b :: a :: r) = some st1 → st1 = [r_1] ∧ s.1 236 46 = σ.1 236 46) ∧ (runS (σ.1 264) (q :: c) (b :: a :: r) = none → s.1 236 46 = 1)) := by
            intro x hx
            unfold f_X12_termOf_158 f_X12_termOf_159
            rw [nI_mm (by omega), nIt (n := r.length) (by omega), Int.toNat_natCast]
            refine Ok.t (by omega) (Ok.bd (Ok.bd ?_))
            rw [nI_1]
            generalize hs1 : hI σ 265 r.length x = s1
            have F1 : frm wTo wl0 σ s1 := by rw [← hs1]; exact frm.rf.I rfl
            have ev : s1.1 264 = σ.1 264 := funext fun j => F1.1 264 j rfl
            have e46 : s1.1 236 46 = σ.1 236 46 := by rw [← hs1, rI_i (by decide)]
            refine (ih (p + 1) N (x :: r) s1 (t1.same (fun j _ _ => F1.1 261 j rfl)) (t2.same (fun j _ _ => F1.1 262 j rfl)) (by rw [← a4]; rfl) (by simp; omega) (by omega) (by omega) ⟨by rw [← hs1, rI_s], hS.2.2.up (fun j hj => by rw [← hs1, rI_k (by omega)])⟩).mono (fun r s h => ?_)
            obtain ⟨b1, b2, b3⟩ := h
            rw [ev, hx] at b2 b3
            exact ⟨F1.tr b1, fun st1 e => by rw [← e46]; exact b2 st1 (hr.symm.trans e), fun e => b3 (hr.symm.trans e)⟩
          unfold f_X12_termOf_104
          rw [k1]
          rcases (show q.1 = 2 ∨ q.1 = 3 ∨ q.1 = 4 ∨ q.1 = 5 by omega) with e | e | e | e
          · exact Ok.t (by omega) (fin _ (by unfold opI; rw [if_pos e]))
          · exact Ok.f (by omega) (Ok.t (by omega) (fin _ (by unfold opI; rw [if_neg (by omega), if_pos e])))
          · exact Ok.f (by omega) (Ok.f (by omega) (Ok.t (by omega) (fin _ (by unfold opI; rw [if_neg (by omega), if_neg (by omega), if_pos e]))))
          · exact Ok.f (by omega) (Ok.f (by omega) (Ok.f (by omega) (Ok.f (fun e0 => c5 ⟨e, e0⟩) (fin _ (by unfold opI; rw [if_neg (by omega), if_neg (by omega), if_neg (by omega)])))))
        by_cases c1 : q.1 = 5
        · refine Ok.t (by omega) ?_
          by_cases c2 : b.toInt = 0
          · refine Ok.t c2 (Ok.bd (Ok.ret ⟨frm.rf.I rfl, fun st1 e => ?_, fun _ => rI_s⟩))
            have hst : stpS (σ.1 264) q (b :: a :: r) = none := by
              unfold stpS
              rw [if_neg (by omega), if_neg (by omega)]
              simp only
              rw [if_pos ⟨c1, c2⟩]
            rw [hr, hst] at e
            exact nomatch e
          · exact Ok.f c2 (op (fun h => c2 h.2))
        · exact Ok.f (by omega) (op (fun h => c1 h.1))
theorem w_termOf {lo hi : Nat} {p q : Int32} {c : COD} (hc : codeAt σ lo hi p q c) (hh : hi ≤ 840) (g : gdC c) : Ok (f_X12_termOf p q σ) (TOm (σ.1 264) c σ) := by
  obtain ⟨q0, a1, a2, rfl, rfl, a5, a6⟩ := hc
  unfold f_X12_termOf
  rw [nI0]
  refine (w_to5 (E := q0 + c.length) (by omega) c q0 5000 [] σ a5 a6 g (by decide) rfl (by omega) trivial).mono (fun r s h => ?_)
  obtain ⟨b1, b2, b3⟩ := h
  have hv := val_run (v := σ.1 264) g
  refine ⟨b1, fun x hx => ?_, fun hx => ?_⟩
  · rw [hx] at hv
    obtain ⟨c1, c2⟩ := b2 _ hv
    cases c1
    exact ⟨rfl, c2⟩
  · rw [hx] at hv
    exact b3 hv
/-- the branches from y on -/
theorem w_lawM {z : Int32} {zn lo hi : Nat} (hz : z = nI zn) (hz8 : zn < 8) (hh : hi ≤ 840) {E : Nat} (hE : E ≤ 260) (c0 : COD) (g0 : gdC c0) : ∀ (l : List (COD × COD × COD)) (p N : Nat) (σ : HS), (∀ x ∈ l, gdC x.1 ∧ gdC x.2.1 ∧ gdC x.2.2) → (∀ i (h : i < l.length), BRm σ lo hi (p + i) l[i]) → BRe σ lo hi (p + l.length) c0 → p + l.length + 1 = E → σ.1 255 zn = nI E → σ.1 236 46 = 0 → l.length < N → Ok (f_X12_lawTells_39 N z (nI p) σ) (fun r s => r = lawR (σ.1 264) l c0 ∧ frm wTo wl0 σ s) := by
  have fin : ∀ (c : COD) (p : Nat) (σ : HS), gdC c → p < 260 → codeAt σ lo hi (σ.1 259 p) (σ.1 260 p) c → σ.1 236 46 = 0 → Ok (f_X12_lawTells_119 (nI p) σ) (fun r s => r = (valS (σ.1 264) c).getD 0 ∧ frm wTo wl0 σ s) := by
    intro c p σ g hp hc h0
    unfold f_X12_lawTells_119
    rw [nIt (by omega), Int.toNat_natCast]
    refine Ok.t (by omega) (Ok.t (by omega) (Ok.cl (w_termOf hc hh g) (fun r s h => ?_)))
    obtain ⟨f, a1, a2⟩ := h
    cases e : valS (σ.1 264) c with
    | none => exact Ok.f (by rw [a2 e]; decide) (Ok.ret ⟨rfl, f⟩)
    | some x => exact Ok.t (by rw [(a1 x e).2, h0]; rfl) (Ok.ret ⟨(a1 x e).1, f⟩)
  intro l
  induction l with
  | nil =>
    intro p N σ _ _ hb hp h255 h0 hN
    obtain ⟨N, rfl⟩ : ∃ q, N = q + 1 := ⟨N - 1, by omega⟩
    have hp' : p + 0 + 1 = E := hp
    have hb' : BRe σ lo hi p c0 := hb
    show Ok (b_X12_lawTells_39 (f_X12_lawTells_39 N) z (nI p) σ) _
    unfold b_X12_lawTells_39
    rw [hz, nIt (n := zn) (by omega), nIt (n := p) (by omega), Int.toNat_natCast, Int.toNat_natCast, h255, nIt (n := E) (by omega), hb'.1]
    exact Ok.t (by omega) (Ok.t (by omega) (Ok.t (by omega) (Ok.t rfl (fin c0 p σ g0 (by omega) hb'.2 h0))))
  | cons x l ih =>
    intro p N σ hl hb hbe hp h255 h0 hN
    obtain ⟨N, rfl⟩ : ∃ q, N = q + 1 := ⟨N - 1, by omega⟩
    have hp' : p + (l.length + 1) + 1 = E := hp
    obtain ⟨ga, gb, gc⟩ := hl x (List.mem_cons_self ..)
    have b0 : BRm σ lo hi p x := hb 0 (by simp)
    obtain ⟨k0, ka, kb, kc⟩ := b0
    have er : lawR (σ.1 264) (x :: l) c0 = (match valS (σ.1 264) x.1, valS (σ.1 264) x.2.1 with | some u, some w => if u.toInt < w.toInt then (valS (σ.1 264) x.2.2).getD 0 else lawR (σ.1 264) l c0 | _, _ => 0) := rfl
    show Ok (b_X12_lawTells_39 (f_X12_lawTells_39 N) z (nI p) σ) _
    unfold b_X12_lawTells_39
    rw [hz, nIt (n := zn) (by omega), nIt (n := p) (by omega), Int.toNat_natCast, Int.toNat_natCast, h255, nIt (n := E) (by omega), k0]
    refine Ok.t (by omega) (Ok.t (by omega) (Ok.t (by omega) (Ok.f (by decide) (Ok.t (by omega) (Ok.t (by omega) (Ok.cl (w_termOf ka hh ga) (fun r2 s1 h1 => ?_)))))))
    obtain ⟨f1, a1, a2⟩ := h1
    have c1 : ∀ a k, 256 ≤ a → a ≤ 264 → s1.1 a k = σ.1 a k := fun a k h1 h2 => f1.1 a k (by unfold wTo; simp; omega)
    refine Ok.t (by omega) (Ok.t (by omega) (Ok.cl (w_termOf (σ := s1) (lo := lo) (hi := hi) (c := x.2.1) ?_ hh gb) (fun r4 s3 h3 => ?_)))
    · rw [c1 258 p (by omega) (by omega), c1 259 p (by omega) (by omega)]
      exact kb.mono (Nat.le_refl _) (fun k _ _ => ⟨c1 261 k (by omega) (by omega), c1 262 k (by omega) (by omega)⟩)
    obtain ⟨f3, a3, a4⟩ := h3
    have ev1 : s1.1 264 = σ.1 264 := funext fun j => c1 264 j (by omega) (by omega)
    rw [ev1] at a3 a4
    have F3 : frm wTo wl0 σ s3 := f1.tr f3
    have c3 : ∀ a k, 255 ≤ a → a ≤ 264 → s3.1 a k = σ.1 a k := fun a k h1 h2 => F3.1 a k (by unfold wTo; simp; omega)
    have ev3 : s3.1 264 = σ.1 264 := funext fun j => c3 264 j (by omega) (by omega)
    cases ea : valS (σ.1 264) x.1 with
    | none =>
      rw [ea] at er
      have e1 : s1.1 236 46 = 1 := a2 ea
      have e3 : s3.1 236 46 = 1 := by
        cases eb : valS (σ.1 264) x.2.1 with
        | none => exact a4 eb
        | some w => rw [(a3 w eb).2]; exact e1
      exact Ok.f (by rw [e3]; decide) (Ok.ret ⟨er.symm, F3⟩)
    | some u =>
      rw [ea] at er
      obtain ⟨rfl, e1⟩ := a1 u ea
      cases eb : valS (σ.1 264) x.2.1 with
      | none =>
        rw [eb] at er
        exact Ok.f (by rw [a4 eb]; decide) (Ok.ret ⟨er.symm, F3⟩)
      | some w =>
        rw [eb] at er
        obtain ⟨rfl, e3⟩ := a3 w eb
        have e0 : s3.1 236 46 = 0 := by rw [e3, e1]; exact h0
        refine Ok.t (by rw [e0]; rfl) ?_
        by_cases c : r2.toInt < r4.toInt
        · refine Ok.t c ?_
          have er' : lawR (σ.1 264) (x :: l) c0 = (valS (s3.1 264) x.2.2).getD 0 := by rw [er, ev3]; exact if_pos c
          rw [er']
          refine (fin x.2.2 p s3 gc (by omega) ?_ e0).mono (fun r s h => ⟨h.1, F3.tr h.2⟩)
          rw [c3 259 p (by omega) (by omega), c3 260 p (by omega) (by omega)]
          exact kc.mono (Nat.le_refl _) (fun k _ _ => ⟨c3 261 k (by omega) (by omega), c3 262 k (by omega) (by omega)⟩)
        · refine Ok.f c (Ok.bd ?_)
          have er' : lawR (σ.1 264) (x :: l) c0 = lawR (s3.1 264) l c0 := by rw [er, ev3]; exact if_neg c
          rw [er', nI_1, ← hz]
          refine (ih (p + 1) N s3 (fun y hy => hl y (List.mem_cons_of_mem _ hy)) (fun i hi => ?_) ?_ (by omega) (by rw [c3 255 zn (by omega) (by omega)]; exact h255) e0 (by simp at hN; omega)).mono (fun r s h => ⟨h.1, F3.tr h.2⟩)
          · have := hb (i + 1) (by simp; omega)
            rw [show p + 1 + i = p + (i + 1) by omega]
            exact this.mono (Nat.le_refl _) (fun k _ _ => ⟨c3 261 k (by omega) (by omega), c3 262 k (by omega) (by omega)⟩) (fun a h1 h2 => c3 a _ (by omega) (by omega))
          · rw [show p + 1 + l.length = p + (x :: l).length by simp; omega]
            exact hbe.mono (Nat.le_refl _) (fun k _ _ => ⟨c3 261 k (by omega) (by omega), c3 262 k (by omega) (by omega)⟩) (fun a h1 h2 => c3 a _ (by omega) (by omega))
/-- what the reference's law tells -/
theorem w_lawTells {k P hi : Nat} {o : Option LAWT} {pl : Int32} (h18 : σ.1 236 18 = nI sd) (hsd : sd ≤ 1) (hk : k < 4) (hP : P ≤ 260) (hh : hi ≤ 840) (hL : LOm sd σ hi P k o) (g : ∀ L, o = some L → LG L) : Ok (f_X12_lawTells (nI k) pl σ) (fun r s => r = (o.map (fun L => lawR (σ.1 264) L.1 L.2)).getD pl ∧ frm wTo wl0 σ s) := by
  unfold f_X12_lawTells
  have e4 : (4 : Int32) * nI sd + nI k = nI (4 * sd + k) := by
    rw [show (4 : Int32) = nI 4 from rfl]
    rcases (show sd = 0 ∨ sd = 1 by omega) with rfl | rfl <;> rcases (show k = 0 ∨ k = 1 ∨ k = 2 ∨ k = 3 by omega) with rfl | rfl | rfl | rfl <;> rfl
  refine Ok.bd ?_
  rw [h18, e4, nIt (n := 4 * sd + k) (by omega), Int.toNat_natCast]
  refine Ok.t (by omega) (Ok.t (by omega) ?_)
  cases o with
  | none =>
    obtain ⟨a1, a2⟩ := hL
    exact Ok.t (by rw [a1, a2]) (Ok.ret ⟨rfl, frm.rf⟩)
  | some L =>
    show Ok _ (fun r s => r = lawR (σ.1 264) L.1 L.2 ∧ frm wTo wl0 σ s)
    obtain ⟨p0, a1, a2, a3, a4, a5⟩ := hL
    obtain ⟨g1, g2, g3⟩ := g L rfl
    refine Ok.f (by rw [a1, a2, nIt (by omega), nIt (by omega)]; omega) (Ok.bd (Ok.t (by omega) (Ok.bd ?_)))
    generalize hs : hI σ 236 46 0 = s1
    have F1 : frm wTo wl0 σ s1 := by rw [← hs]; exact frm.rf.I rfl
    have e46 : s1.1 236 46 = 0 := by rw [← hs, rI_s]
    have n1 : ∀ a k, a ≠ 236 → s1.1 a k = σ.1 a k := fun a k ha => by rw [← hs, rI_i ha]
    have ev : s1.1 264 = σ.1 264 := funext fun j => n1 264 j (by decide)
    rw [n1 254 _ (by decide), a1, ← ev]
    refine (w_lawM (lo := 420 * sd) rfl (by omega) hh (E := p0 + L.1.length + 1) (by omega) L.2 g3 L.1 p0 5000 s1 g2 (fun i hi => ?_) ?_ rfl (by rw [n1 255 _ (by decide)]; exact a2) e46 (by omega)).mono (fun r s h => ⟨h.1, F1.tr h.2⟩)
    · exact (a5.1 i hi).mono (Nat.le_refl _) (fun k _ _ => ⟨n1 261 k (by decide), n1 262 k (by decide)⟩) (fun a h1 h2 => n1 a _ (by omega))
    · exact a5.2.mono (Nat.le_refl _) (fun k _ _ => ⟨n1 261 k (by decide), n1 262 k (by decide)⟩) (fun a h1 h2 => n1 a _ (by omega))
end LAWM
