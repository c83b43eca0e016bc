/-! what a text without a fault tells is within its bounds -/
section RDOK
variable {kd vl pl : Nat → Int} {nm : Nat → Int64}
theorem ex_bind {α β : Type} {x : Except FA α} {f : α → Except FA β} {r : β} (h : (x >>= f) = .ok r) : ∃ a, x = .ok a ∧ f a = .ok r := by
  cases x with
  | error e => exact nomatch h
  | ok a => exact ⟨a, rfl, h⟩
def hd0 : List Nat → Nat
  | [] => 6
  | w :: _ => w
def okS : List Nat → Prop
  | [] => True
  | w :: S => okS S ∧ (w = 6 ∨ (w = 8 ∨ w = 9) ∧ hd0 S = 6 ∨ (w = 10 ∨ w = 15) ∧ (hd0 S = 6 ∨ hd0 S = 8 ∨ hd0 S = 9))
def uS : List Nat → Nat
  | [] => 0
  | w :: S => if w = 6 then uS S else uS S + 1
theorem uS_le : ∀ {S : List Nat}, okS S → uS S ≤ 2 * depS S + 2 ∧ (hd0 S = 6 → uS S ≤ 2 * depS S) ∧ ((hd0 S = 8 ∨ hd0 S = 9) → uS S ≤ 2 * depS S + 1) := by
  intro S
  induction S with
  | nil => intro _; exact ⟨Nat.zero_le _, fun _ => Nat.zero_le _, fun _ => Nat.zero_le _⟩
  | cons w S ih =>
    intro h
    obtain ⟨h1, h2⟩ := h
    obtain ⟨i1, i2, i3⟩ := ih h1
    have hh : hd0 (w :: S) = w := rfl
    have hu : uS (w :: S) = if w = 6 then uS S else uS S + 1 := rfl
    rw [hh, hu]
    rcases h2 with rfl | ⟨h2, h3⟩ | ⟨h2, h3⟩
    · rw [depS_open, if_pos rfl]
      exact ⟨by omega, fun _ => by omega, fun _ => by omega⟩
    · rw [depS_op (by omega), if_neg (by omega)]
      have := i2 h3
      exact ⟨by omega, fun _ => by omega, fun _ => by omega⟩
    · rw [depS_op (by omega), if_neg (by omega)]
      have : uS S ≤ 2 * depS S + 1 := by
        rcases h3 with h3 | h3
        · have := i2 h3; omega
        · exact i3 h3
      exact ⟨by omega, fun _ => by omega, fun _ => by omega⟩
theorem out_ok {b : Bool} : ∀ {S : List Nat} {c : COD}, okS S → wfO 16 c 0 = some (uS S + 1) → okS (outS b S c).1 ∧ wfO 16 (outS b S c).2 0 = some (uS (outS b S c).1 + 1) ∧ depS (outS b S c).1 = depS S ∧ (b = false → hd0 (outS b S c).1 = 6) ∧ (hd0 (outS b S c).1 = 6 ∨ hd0 (outS b S c).1 = 8 ∨ hd0 (outS b S c).1 = 9) := by
  intro S
  induction S with
  | nil => intro c h1 h2; exact ⟨trivial, h2, rfl, fun _ => rfl, Or.inl rfl⟩
  | cons w S ih =>
    intro c h1 h2
    have hu : uS (w :: S) = if w = 6 then uS S else uS S + 1 := rfl
    have ho : outS b (w :: S) c = if w = 6 ∨ (b = true ∧ (w = 8 ∨ w = 9)) then (w :: S, c) else outS b S (c ++ [(opk w, 0)]) := rfl
    by_cases c1 : w = 6 ∨ (b = true ∧ (w = 8 ∨ w = 9))
    · rw [ho, if_pos c1]
      refine ⟨h1, h2, rfl, fun hb => ?_, ?_⟩
      · rcases c1 with c1 | c1
        · exact c1
        · rw [hb] at c1; exact absurd c1.1 (by decide)
      · rcases c1 with c1 | c1
        · exact Or.inl c1
        · exact Or.inr c1.2
    · rw [ho, if_neg c1]
      have hw : w ≠ 6 := fun e => c1 (Or.inl e)
      rw [hu, if_neg hw] at h2
      have ok2 : 2 ≤ opk w ∧ opk w ≤ 5 := by unfold opk; repeat' split
                                             all_goals omega
      have := ih (c := c ++ [(opk w, 0)]) h1.1 (by
        rw [wfO_app h2, wfO_op ok2 (by omega)]; rfl)
      rw [depS_op hw]
      exact this
theorem exp_ok (hv : ∀ t, kd t = 2 → 0 ≤ vl t ∧ vl t ≤ 9999) : ∀ (f : Nat) (b : Bool) (t : Nat) (S : List Nat) (c : COD) (r : Nat × COD), expF kd vl pl f b t S c = .ok r → okS S → depS S ≤ 6 → wfO 16 c 0 = some (if b = true then uS S else uS S + 1) → gdC r.2 := by
  intro f
  induction f with
  | zero => intro b t S c r h; exact nomatch h
  | succ f ih =>
    intro b t S c r h hS hd hw
    have hu := (uS_le hS).1
    cases b with
    | true =>
      rw [if_pos rfl] at hw
      have h' : (if kd t = 6 then (if depS S = 6 then .error (2, pl t) else advS pl t >>= fun t1 => expF kd vl pl f true t1 (6 :: S) c) else if kd t = 2 then advS pl t >>= fun t1 => expF kd vl pl f false t1 S (c ++ [(0, vl t)]) else if 31 ≤ kd t ∧ kd t ≤ 39 then advS pl t >>= fun t1 => expF kd vl pl f false t1 S (c ++ [(1, kd t - 31)]) else .error (1, pl t)) = .ok r := h
      by_cases c1 : kd t = 6
      · rw [if_pos c1] at h'
        by_cases c2 : depS S = 6
        · rw [if_pos c2] at h'; exact nomatch h'
        · rw [if_neg c2] at h'
          obtain ⟨t1, _, h3⟩ := ex_bind h'
          exact ih true t1 (6 :: S) c r h3 ⟨hS, Or.inl rfl⟩ (by rw [depS_open]; omega) (by rw [if_pos rfl]; exact hw)
      · rw [if_neg c1] at h'
        by_cases c2 : kd t = 2
        · rw [if_pos c2] at h'
          obtain ⟨t1, _, h3⟩ := ex_bind h'
          refine ih false t1 S _ r h3 hS hd ?_
          rw [if_neg (by decide), wfO_app hw, wfO_push (Or.inl ⟨rfl, hv t c2⟩) (by omega)]; rfl
        · rw [if_neg c2] at h'
          by_cases c3 : 31 ≤ kd t ∧ kd t ≤ 39
          · rw [if_pos c3] at h'
            obtain ⟨t1, _, h3⟩ := ex_bind h'
            refine ih false t1 S _ r h3 hS hd ?_
            have c4 : 0 ≤ kd t - 31 ∧ kd t - 31 ≤ 8 := by omega
            rw [if_neg (by decide), wfO_app hw, wfO_push (Or.inr ⟨rfl, c4⟩) (by omega)]; rfl
          · rw [if_neg c3] at h'; exact nomatch h'
    | false =>
      rw [if_neg (by decide)] at hw
      have h' : (if kd t = 7 ∧ 0 < depS S then advS pl t >>= fun t1 => expF kd vl pl f false t1 (outS false S c).1.tail (outS false S c).2 else if kd t = 8 ∨ kd t = 9 then advS pl t >>= fun t1 => expF kd vl pl f true t1 ((kd t).toNat :: (outS false S c).1) (outS false S c).2 else if kd t = 10 ∨ kd t = 15 then advS pl t >>= fun t1 => expF kd vl pl f true t1 ((kd t).toNat :: (outS true S c).1) (outS true S c).2 else if 0 < depS S then .error (1, pl t) else .ok (t, (outS false S c).2)) = .ok r := h
      obtain ⟨o1, o2, o3, o4, o5⟩ := out_ok (b := false) hS hw
      obtain ⟨p1, p2, p3, p4, p5⟩ := out_ok (b := true) hS hw
      generalize hx : outS false S c = x at o1 o2 o3 o4 o5 h'
      generalize hy : outS true S c = y at p1 p2 p3 p4 p5 h'
      obtain ⟨X, d⟩ := x
      obtain ⟨Y, e⟩ := y
      simp only at o1 o2 o3 o4 o5 p1 p2 p3 p4 p5 h'
      by_cases c1 : kd t = 7 ∧ 0 < depS S
      · rw [if_pos c1] at h'
        obtain ⟨t1, _, h3⟩ := ex_bind h'
        match X, o1, o2, o3, o4 trivial, h3 with
        | [], _, _, o3, _, _ => exact absurd o3 (by show ¬ 0 = depS S; omega)
        | w :: X, o1, o2, o3, o4, h3 =>
          have e6 : w = 6 := o4
          subst e6
          rw [depS_open] at o3
          exact ih false t1 X d r h3 o1.1 (by omega) (by rw [if_neg (by decide), o2]; rfl)
      · rw [if_neg c1] at h'
        by_cases c2 : kd t = 8 ∨ kd t = 9
        · rw [if_pos c2] at h'
          obtain ⟨t1, _, h3⟩ := ex_bind h'
          have hk : (kd t).toNat = 8 ∨ (kd t).toNat = 9 := by omega
          refine ih true t1 _ d r h3 ⟨o1, Or.inr (Or.inl ⟨hk, o4 trivial⟩)⟩ (by rw [depS_op (by omega), o3]; exact hd) ?_
          rw [if_pos rfl, o2]
          show _ = some (if (kd t).toNat = 6 then uS X else uS X + 1)
          rw [if_neg (by omega)]
        · rw [if_neg c2] at h'
          by_cases c3 : kd t = 10 ∨ kd t = 15
          · rw [if_pos c3] at h'
            obtain ⟨t1, _, h3⟩ := ex_bind h'
            have hk : (kd t).toNat = 10 ∨ (kd t).toNat = 15 := by omega
            refine ih true t1 _ e r h3 ⟨p1, Or.inr (Or.inr ⟨hk, p5⟩)⟩ (by rw [depS_op (by omega), p3]; exact hd) ?_
            rw [if_pos rfl, p2]
            show _ = some (if (kd t).toNat = 6 then uS Y else uS Y + 1)
            rw [if_neg (by omega)]
          · rw [if_neg c3] at h'
            by_cases c4 : 0 < depS S
            · rw [if_pos c4] at h'; exact nomatch h'
            · rw [if_neg c4] at h'
              cases h'
              match X, o1, o2, o3, o4 trivial with
              | [], _, o2, _, _ => exact o2
              | w :: X, _, _, o3, o4 =>
                have e6 : w = 6 := o4
                subst e6
                rw [depS_open] at o3
                omega
theorem exS_ok (hv : ∀ t, kd t = 2 → 0 ≤ vl t ∧ vl t ≤ 9999) {t : Nat} {r : Nat × COD} (h : exS kd vl pl t = .ok r) : gdC r.2 := exp_ok hv _ true t [] [] r h trivial (by decide) rfl
theorem last_ok (hv : ∀ t, kd t = 2 → 0 ≤ vl t ∧ vl t ≤ 9999) {t : Nat} {brs : List (COD × COD × COD)} {r : Nat × LAWT} (hb : ∀ x ∈ brs, gdC x.1 ∧ gdC x.2.1 ∧ gdC x.2.2) (hl : brs.length ≤ 4) (h : lastS kd vl pl brs t = .ok r) : LG r.2 := by
  obtain ⟨a, h1, h2⟩ := ex_bind h
  obtain ⟨t1, _, h3⟩ := ex_bind h2
  cases h3
  exact ⟨hl, hb, exS_ok hv h1⟩
theorem cond_ok (hv : ∀ t, kd t = 2 → 0 ≤ vl t ∧ vl t ≤ 9999) {t : Nat} {r : Nat × COD × COD × COD} (h : condS kd vl pl t = .ok r) : gdC r.2.1 ∧ gdC r.2.2.1 ∧ gdC r.2.2.2 := by
  obtain ⟨t1, _, h⟩ := ex_bind h
  obtain ⟨a, h1, h⟩ := ex_bind h
  obtain ⟨t2, _, h⟩ := ex_bind h
  obtain ⟨b, h2, h⟩ := ex_bind h
  obtain ⟨t3, _, h⟩ := ex_bind h
  obtain ⟨c, h3, h⟩ := ex_bind h
  obtain ⟨t4, _, h⟩ := ex_bind h
  cases h
  exact ⟨exS_ok hv h1, exS_ok hv h2, exS_ok hv h3⟩
theorem ifs_ok (hv : ∀ t, kd t = 2 → 0 ≤ vl t ∧ vl t ≤ 9999) : ∀ {m : Nat} {brs : List (COD × COD × COD)} {t : Nat} {r : Nat × LAWT}, (∀ x ∈ brs, gdC x.1 ∧ gdC x.2.1 ∧ gdC x.2.2) → brs.length + m ≤ 4 → ifsS kd vl pl m brs t = .ok r → LG r.2 := by
  intro m
  induction m with
  | zero =>
    intro brs t r hb hl h
    have h' : (if kd t = 28 then .error (2, pl t) else lastS kd vl pl brs t) = .ok r := h
    by_cases c : kd t = 28
    · rw [if_pos c] at h'; exact nomatch h'
    · rw [if_neg c] at h'; exact last_ok hv hb hl h'
  | succ m ih =>
    intro brs t r hb hl h
    have h' : (if kd t = 28 then condS kd vl pl t >>= fun a => ifsS kd vl pl m (brs ++ [a.2]) a.1 else lastS kd vl pl brs t) = .ok r := h
    by_cases c : kd t = 28
    · rw [if_pos c] at h'
      obtain ⟨a, h1, h2⟩ := ex_bind h'
      refine ih (fun x hx => ?_) (by simp; omega) h2
      rcases List.mem_append.mp hx with hx | hx
      · exact hb x hx
      · rw [List.mem_singleton.mp hx]; exact cond_ok hv h1
    · rw [if_neg c] at h'; exact last_ok hv hb (by omega) h'
theorem law_ok (hv : ∀ t, kd t = 2 → 0 ≤ vl t ∧ vl t ≤ 9999) {k : Int} {t : Nat} {r : Nat × LAWT} (h : lawS kd vl pl k t = .ok r) : LG r.2 := by
  obtain ⟨t1, _, h⟩ := ex_bind h
  obtain ⟨t2, _, h⟩ := ex_bind h
  exact ifs_ok hv (fun x hx => absurd hx (by simp)) (by decide) h
theorem lt_ok {t : Nat} {k : Int} {q : FA} (hk : k ≠ 0) : (ltS pl t k q).1 ≠ 0 := by
  unfold ltS
  by_cases c : q.1 = 0
  · rw [if_pos c]; exact hk
  · rw [if_neg c]; exact c
theorem num_ok {a b : Int} {t : Nat} {lt : FA} {r : Nat × Int × FA} (h : numS kd vl pl a b t lt = .ok r) (h0 : r.2.2.1 = 0) : lt.1 = 0 ∧ a ≤ r.2.1 ∧ r.2.1 ≤ b := by
  obtain ⟨t1, _, h⟩ := ex_bind h
  cases h
  by_cases c : vl t < a ∨ b < vl t
  · have h1 : (if vl t < a ∨ b < vl t then ltS pl t 5 lt else lt).1 = 0 := h0
    rw [if_pos c] at h1
    exact absurd h1 (lt_ok (by decide))
  · have h1 : (if vl t < a ∨ b < vl t then ltS pl t 5 lt else lt).1 = 0 := h0
    rw [if_neg c] at h1
    exact ⟨h1, by show a ≤ vl t; omega, by show vl t ≤ b; omega⟩
theorem name_ok {t nc : Nat} {ns : Nat → Int64} {lt : FA} {r : Nat × FA} (h : nameS kd pl nm t nc ns lt = .ok r) (h0 : r.2.1 = 0) : lt.1 = 0 := by
  obtain ⟨t1, _, h⟩ := ex_bind h
  cases h
  have h1 : (if hasN nc ns (nm t) = true then ltS pl t 3 lt else lt).1 = 0 := h0
  by_cases c : hasN nc ns (nm t) = true
  · rw [if_pos c] at h1; exact absurd h1 (lt_ok (by decide))
  · rw [if_neg c] at h1; exact h1
theorem thing_ok {nT t nc : Nat} {ns : Nat → Int64} {lt : FA} {r : Nat × (Int × Int × Int) × FA} (h : thingS kd vl pl nm nT t nc ns lt = .ok r) (h0 : r.2.2.1 = 0) : lt.1 = 0 ∧ (1 ≤ r.2.1.1 ∧ r.2.1.1 ≤ 9) ∧ (0 ≤ r.2.1.2.1 ∧ r.2.1.2.1 ≤ 9) ∧ (0 ≤ r.2.1.2.2 ∧ r.2.1.2.2 ≤ 9) := by
  unfold thingS at h
  by_cases c : nT < 7
  · rw [if_pos c] at h
    obtain ⟨t1, _, h⟩ := ex_bind h
    obtain ⟨a, ha, h⟩ := ex_bind h
    obtain ⟨b, hb, h⟩ := ex_bind h
    obtain ⟨c, hc, h⟩ := ex_bind h
    obtain ⟨d, hd, h⟩ := ex_bind h
    obtain ⟨t2, _, h⟩ := ex_bind h
    cases h
    have x1 := num_ok hd h0
    have x2 := num_ok hc x1.1
    have x3 := num_ok hb x2.1
    exact ⟨name_ok ha x3.1, x3.2, x2.2, x1.2⟩
  · rw [if_neg c] at h; exact nomatch h
theorem hts_ok : ∀ {m n : Nat} {hs : Nat → Int} {t : Nat} {lt : FA} {r : Nat × Nat × (Nat → Int) × FA}, htsS kd vl pl n hs t lt m = .ok r → r.2.2.2.1 = 0 → (lt.1 = 0 ∧ ((∀ i, i < n → 0 ≤ hs i ∧ hs i ≤ 9) → ∀ i, i < r.2.1 → 0 ≤ r.2.2.1 i ∧ r.2.2.1 i ≤ 9)) := by
  intro m
  induction m with
  | zero =>
    intro n hs t lt r h h0
    have h' : (if kd t = 2 then .error (2, pl t) else tkS kd pl 4 t >>= fun t2 => .ok (t2, n, hs, lt)) = .ok r := by
      unfold htsS at h; exact h
    by_cases c : kd t = 2
    · rw [if_pos c] at h'; exact nomatch h'
    · rw [if_neg c] at h'
      obtain ⟨t1, _, h2⟩ := ex_bind h'
      cases h2
      exact ⟨h0, fun h => h⟩
  | succ m ih =>
    intro n hs t lt r h h0
    have h' : (if kd t = 2 then numS kd vl pl 0 9 t lt >>= fun a => htsS kd vl pl (n + 1) (upI hs n a.2.1) a.1 a.2.2 m else tkS kd pl 4 t >>= fun t2 => .ok (t2, n, hs, lt)) = .ok r := by
      unfold htsS at h; exact h
    by_cases c : kd t = 2
    · rw [if_pos c] at h'
      obtain ⟨a, ha, h2⟩ := ex_bind h'
      obtain ⟨i1, i2⟩ := ih h2 h0
      obtain ⟨j1, j2⟩ := num_ok ha i1
      refine ⟨j1, fun hh => i2 (fun i hi => ?_)⟩
      unfold upI
      by_cases e : i = n
      · rw [if_pos e]; exact j2
      · rw [if_neg e]; exact hh i (by omega)
    · rw [if_neg c] at h'
      obtain ⟨t1, _, h2⟩ := ex_bind h'
      cases h2
      exact ⟨h0, fun h => h⟩
theorem pat_ok {nP t nc : Nat} {ns : Nat → Int64} {lt : FA} {r : Nat × Nat × (Nat → Int) × FA} (h : patS kd vl pl nm nP t nc ns lt = .ok r) (h0 : r.2.2.2.1 = 0) : lt.1 = 0 ∧ ∀ i, i < r.2.1 → 0 ≤ r.2.2.1 i ∧ r.2.2.1 i ≤ 9 := by
  unfold patS at h
  by_cases c : nP < 5
  · rw [if_pos c] at h
    obtain ⟨t1, _, h⟩ := ex_bind h
    obtain ⟨a, ha, h⟩ := ex_bind h
    obtain ⟨b, hb, h⟩ := ex_bind h
    obtain ⟨i1, i2⟩ := hts_ok h h0
    obtain ⟨j1, j2⟩ := num_ok hb i1
    refine ⟨name_ok ha j1, i2 (fun i hi => ?_)⟩
    unfold upI
    rw [if_pos (by omega)]; exact j2
  · rw [if_neg c] at h; exact nomatch h
theorem one_ok {k most : Int} {t : Nat} {lt : FA} {r : Nat × Int × FA} (h : oneS kd vl pl k most t lt = .ok r) (h0 : r.2.2.1 = 0) : lt.1 = 0 ∧ 0 ≤ r.2.1 ∧ r.2.1 ≤ most := by
  obtain ⟨t1, _, h⟩ := ex_bind h
  obtain ⟨a, ha, h⟩ := ex_bind h
  obtain ⟨t2, _, h⟩ := ex_bind h
  cases h
  exact num_ok (r := a) ha h0
def DOK (d : DAT) : Prop := (∀ e, e < d.1.1.1 → (1 ≤ d.1.1.2.1 e ∧ d.1.1.2.1 e ≤ 9) ∧ (0 ≤ d.1.1.2.2.1 e ∧ d.1.1.2.2.1 e ≤ 9) ∧ (0 ≤ d.1.1.2.2.2 e ∧ d.1.1.2.2.2 e ≤ 9)) ∧ (∀ p, p < d.1.2.1 → ∀ i, i < d.1.2.2.1 p → 0 ≤ d.1.2.2.2 p i ∧ d.1.2.2.2 p i ≤ 9) ∧ ((0 ≤ d.2.1.1 ∧ d.2.1.1 ≤ 99) ∧ (0 ≤ d.2.1.2 ∧ d.2.1.2 ≤ 9999)) ∧ ∀ k L, d.2.2 k = some L → LG L
theorem tell_ok (hv : ∀ t, kd t = 2 → 0 ≤ vl t ∧ vl t ≤ 9999) {s r : PST} (h : tellS kd vl pl nm s = .ok r) (h0 : r.2.2.1.1 = 0) : s.2.2.1.1 = 0 ∧ (DOK s.2.2.2 → DOK r.2.2.2) := by
  unfold tellS at h
  by_cases c1 : kd s.1 = 20
  · rw [if_pos c1] at h
    obtain ⟨a, ha, h⟩ := ex_bind h
    cases h
    obtain ⟨i1, i2⟩ := thing_ok ha h0
    refine ⟨i1, fun hd => ⟨fun e he => ?_, hd.2.1, hd.2.2.1, hd.2.2.2⟩⟩
    have he' : e < s.2.2.2.1.1.1 + 1 := he
    show (1 ≤ upI s.2.2.2.1.1.2.1 s.2.2.2.1.1.1 a.2.1.1 e ∧ upI s.2.2.2.1.1.2.1 s.2.2.2.1.1.1 a.2.1.1 e ≤ 9) ∧ (0 ≤ upI s.2.2.2.1.1.2.2.1 s.2.2.2.1.1.1 a.2.1.2.1 e ∧ upI s.2.2.2.1.1.2.2.1 s.2.2.2.1.1.1 a.2.1.2.1 e ≤ 9) ∧ (0 ≤ upI s.2.2.2.1.1.2.2.2 s.2.2.2.1.1.1 a.2.1.2.2 e ∧ upI s.2.2.2.1.1.2.2.2 s.2.2.2.1.1.1 a.2.1.2.2 e ≤ 9)
    unfold upI
    by_cases e0 : e = s.2.2.2.1.1.1
    · rw [if_pos e0, if_pos e0, if_pos e0]; exact i2
    · rw [if_neg e0, if_neg e0, if_neg e0]; exact hd.1 e (by omega)
  · rw [if_neg c1] at h
    by_cases c2 : kd s.1 = 21
    · rw [if_pos c2] at h
      obtain ⟨a, ha, h⟩ := ex_bind h
      cases h
      obtain ⟨i1, i2⟩ := pat_ok ha h0
      refine ⟨i1, fun hd => ⟨hd.1, fun p hp i hi => ?_, hd.2.2.1, hd.2.2.2⟩⟩
      have hp' : p < s.2.2.2.1.2.1 + 1 := hp
      have hi' : i < (if p = s.2.2.2.1.2.1 then a.2.1 else s.2.2.2.1.2.2.1 p) := hi
      show 0 ≤ (if p = s.2.2.2.1.2.1 then a.2.2.1 else s.2.2.2.1.2.2.2 p) i ∧ (if p = s.2.2.2.1.2.1 then a.2.2.1 else s.2.2.2.1.2.2.2 p) i ≤ 9
      by_cases e0 : p = s.2.2.2.1.2.1
      · rw [if_pos e0] at hi' ⊢; exact i2 i hi'
      · rw [if_neg e0] at hi' ⊢; exact hd.2.1 p (by omega) i hi'
    · rw [if_neg c2] at h
      by_cases c3 : 22 ≤ kd s.1 ∧ kd s.1 ≤ 25
      · rw [if_pos c3] at h
        obtain ⟨a, ha, h⟩ := ex_bind h
        cases h
        refine ⟨h0, fun hd => ⟨hd.1, hd.2.1, hd.2.2.1, fun k L hk => ?_⟩⟩
        have hk' : (if k = (kd s.1 - 22).toNat then some a.2 else s.2.2.2.2.2 k) = some L := hk
        by_cases e0 : k = (kd s.1 - 22).toNat
        · rw [if_pos e0] at hk'; cases hk'; exact law_ok hv ha
        · rw [if_neg e0] at hk'; exact hd.2.2.2 k L hk'
      · rw [if_neg c3] at h
        by_cases c4 : kd s.1 = 26
        · rw [if_pos c4] at h
          obtain ⟨a, ha, h⟩ := ex_bind h
          cases h
          obtain ⟨i1, i2⟩ := one_ok ha h0
          exact ⟨i1, fun hd => ⟨hd.1, hd.2.1, ⟨i2, hd.2.2.1.2⟩, hd.2.2.2⟩⟩
        · rw [if_neg c4] at h
          by_cases c5 : kd s.1 = 27
          · rw [if_pos c5] at h
            obtain ⟨a, ha, h⟩ := ex_bind h
            cases h
            obtain ⟨i1, i2⟩ := one_ok ha h0
            exact ⟨i1, fun hd => ⟨hd.1, hd.2.1, ⟨hd.2.2.1.1, i2⟩, hd.2.2.2⟩⟩
          · rw [if_neg c5] at h; exact nomatch h
theorem top_ok (hv : ∀ t, kd t = 2 → 0 ≤ vl t ∧ vl t ≤ 9999) : ∀ {f : Nat} {s r : PST}, topS kd vl pl nm f s = .ok r → r.2.2.1.1 = 0 → s.2.2.1.1 = 0 ∧ (DOK s.2.2.2 → DOK r.2.2.2) := by
  intro f
  induction f with
  | zero => intro s r h; exact nomatch h
  | succ f ih =>
    intro s r h h0
    have h' : (if kd s.1 = 0 then .ok s else tellS kd vl pl nm s >>= fun s1 => topS kd vl pl nm f s1) = .ok r := h
    by_cases c : kd s.1 = 0
    · rw [if_pos c] at h'; cases h'; exact ⟨h0, fun h => h⟩
    · rw [if_neg c] at h'
      obtain ⟨a, ha, h2⟩ := ex_bind h'
      obtain ⟨i1, i2⟩ := ih h2 h0
      obtain ⟨j1, j2⟩ := tell_ok hv ha i1
      exact ⟨j1, fun hd => i2 (j2 hd)⟩
theorem dat0_ok : DOK dat0 := ⟨fun e he => absurd he (by show ¬ e < 0; omega), fun p hp => absurd hp (by show ¬ p < 0; omega), ⟨⟨by decide, by decide⟩, ⟨by decide, by decide⟩⟩, fun k L h => nomatch h⟩
theorem read_ok (hv : ∀ t, kd t = 2 → 0 ≤ vl t ∧ vl t ≤ 9999) {r : PST} (h : readS kd vl pl nm = .ok r) (h0 : r.2.2.1.1 = 0) : DOK r.2.2.2 := (top_ok hv h h0).2 dat0_ok
end RDOK
