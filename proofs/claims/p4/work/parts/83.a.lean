/-! laws: what their code tells -/
def opI (k : Nat) (a b : Int32) : Int32 := if k = 2 then a + b else if k = 3 then a - b else if k = 4 then a * b else a / b
/-- one step; none: divided by 0 -/
def stpS (v : Nat → Int32) (q : OPC) (st : List Int32) : Option (List Int32) :=
  if q.1 = 0 then some (Int32.ofInt q.2 :: st)
  else if q.1 = 1 then some (v q.2.toNat :: st)
  else match st with
    | b :: a :: r => if q.1 = 5 ∧ b.toInt = 0 then none else some (opI q.1 a b :: r)
    | _ => none
def runS (v : Nat → Int32) : COD → List Int32 → Option (List Int32)
  | [], st => some st
  | q :: c, st => match stpS v q st with
    | none => none
    | some st1 => runS v c st1
/-- how deep it ends, if it is never deeper than m -/
def wfO (m : Nat) : COD → Nat → Option Nat
  | [], d => some d
  | q :: c, d => if (q.1 = 0 ∧ 0 ≤ q.2 ∧ q.2 ≤ 9999 ∨ q.1 = 1 ∧ 0 ≤ q.2 ∧ q.2 ≤ 8) ∧ d < m then wfO m c (d + 1) else if 2 ≤ q.1 ∧ q.1 ≤ 5 ∧ 2 ≤ d then wfO m c (d - 1) else none
def gdC (c : COD) : Prop := wfO 16 c 0 = some 1
def LG (L : LAWT) : Prop := L.1.length ≤ 4 ∧ (∀ x ∈ L.1, gdC x.1 ∧ gdC x.2.1 ∧ gdC x.2.2) ∧ gdC L.2
def valS (v : Nat → Int32) (c : COD) : Option Int32 := match runS v c [] with
  | some (x :: _) => some x
  | _ => none
def lawR (v : Nat → Int32) : List (COD × COD × COD) → COD → Int32
  | [], c => (valS v c).getD 0
  | x :: l, c => match valS v x.1, valS v x.2.1 with
    | some u, some w => if u.toInt < w.toInt then (valS v x.2.2).getD 0 else lawR v l c
    | _, _ => 0
section RUNS
variable {v : Nat → Int32} {m : Nat}
theorem wfO_cons {q : OPC} {c : COD} {d e : Nat} (h : wfO m (q :: c) d = some e) : ((q.1 = 0 ∧ 0 ≤ q.2 ∧ q.2 ≤ 9999 ∨ q.1 = 1 ∧ 0 ≤ q.2 ∧ q.2 ≤ 8) ∧ d < m ∧ wfO m c (d + 1) = some e) ∨ (2 ≤ q.1 ∧ q.1 ≤ 5 ∧ 2 ≤ d ∧ wfO m c (d - 1) = some e) := by
  have h1 : (if (q.1 = 0 ∧ 0 ≤ q.2 ∧ q.2 ≤ 9999 ∨ q.1 = 1 ∧ 0 ≤ q.2 ∧ q.2 ≤ 8) ∧ d < m then wfO m c (d + 1) else if 2 ≤ q.1 ∧ q.1 ≤ 5 ∧ 2 ≤ d then wfO m c (d - 1) else none) = some e := h
  by_cases c1 : (q.1 = 0 ∧ 0 ≤ q.2 ∧ q.2 ≤ 9999 ∨ q.1 = 1 ∧ 0 ≤ q.2 ∧ q.2 ≤ 8) ∧ d < m
  · rw [if_pos c1] at h1
    exact Or.inl ⟨c1.1, c1.2, h1⟩
  · rw [if_neg c1] at h1
    by_cases c2 : 2 ≤ q.1 ∧ q.1 ≤ 5 ∧ 2 ≤ d
    · rw [if_pos c2] at h1
      exact Or.inr ⟨c2.1, c2.2.1, c2.2.2, h1⟩
    · rw [if_neg c2] at h1
      exact nomatch h1
theorem wfO_push {q : OPC} {c : COD} {d : Nat} (h : (q.1 = 0 ∧ 0 ≤ q.2 ∧ q.2 ≤ 9999 ∨ q.1 = 1 ∧ 0 ≤ q.2 ∧ q.2 ≤ 8)) (hd : d < m) : wfO m (q :: c) d = wfO m c (d + 1) := if_pos ⟨h, hd⟩
theorem wfO_op {q : OPC} {c : COD} {d : Nat} (h : 2 ≤ q.1 ∧ q.1 ≤ 5) (hd : 2 ≤ d) : wfO m (q :: c) d = wfO m c (d - 1) := by
  show (if (q.1 = 0 ∧ 0 ≤ q.2 ∧ q.2 ≤ 9999 ∨ q.1 = 1 ∧ 0 ≤ q.2 ∧ q.2 ≤ 8) ∧ d < m then wfO m c (d + 1) else if 2 ≤ q.1 ∧ q.1 ≤ 5 ∧ 2 ≤ d then wfO m c (d - 1) else none) = _
  rw [if_neg (by omega), if_pos ⟨h.1, h.2, hd⟩]
theorem wfO_app {c2 : COD} : ∀ {c : COD} {d e : Nat}, wfO m c d = some e → wfO m (c ++ c2) d = wfO m c2 e := by
  intro c
  induction c with
  | nil => intro d e h; cases h; rfl
  | cons q c ih =>
    intro d e h
    rcases wfO_cons h with ⟨h1, h2, h3⟩ | ⟨h1, h2, h3, h4⟩
    · show wfO m (q :: (c ++ c2)) d = _
      rw [wfO_push h1 h2]; exact ih h3
    · show wfO m (q :: (c ++ c2)) d = _
      rw [wfO_op ⟨h1, h2⟩ h3]; exact ih h4
theorem wfO_mono {m' k : Nat} (hk : m + k ≤ m') : ∀ {c : COD} {d e : Nat}, wfO m c d = some e → wfO m' c (d + k) = some (e + k) := by
  intro c
  induction c with
  | nil => intro d e h; cases h; rfl
  | cons q c ih =>
    intro d e h
    rcases wfO_cons h with ⟨h1, h2, h3⟩ | ⟨h1, h2, h3, h4⟩
    · rw [wfO_push h1 (by omega), show d + k + 1 = d + 1 + k by omega]; exact ih h3
    · rw [wfO_op ⟨h1, h2⟩ (by omega), show d + k - 1 = d - 1 + k by omega]; exact ih h4
theorem stp_len {q : OPC} {st st1 : List Int32} (h : stpS v q st = some st1) : (q.1 ≤ 1 → st1.length = st.length + 1) ∧ (2 ≤ q.1 → st1.length = st.length - 1 ∧ 2 ≤ st.length) := by
  unfold stpS at h
  by_cases c0 : q.1 = 0
  · rw [if_pos c0] at h; cases h; exact ⟨fun _ => rfl, fun _ => by omega⟩
  · rw [if_neg c0] at h
    by_cases c1 : q.1 = 1
    · rw [if_pos c1] at h; cases h; exact ⟨fun _ => rfl, fun _ => by omega⟩
    · rw [if_neg c1] at h
      match st, h with
      | [], h => exact nomatch h
      | [_], h => exact nomatch h
      | b :: a :: r, h =>
        simp only at h
        by_cases c2 : q.1 = 5 ∧ b.toInt = 0
        · rw [if_pos c2] at h; exact nomatch h
        · rw [if_neg c2] at h
          cases h
          exact ⟨fun _ => by omega, fun _ => ⟨rfl, by simp⟩⟩
theorem run_len : ∀ {c : COD} {st st1 : List Int32} {e : Nat}, wfO m c st.length = some e → runS v c st = some st1 → st1.length = e := by
  intro c
  induction c with
  | nil => intro st st1 e h1 h2; cases h1; cases h2; rfl
  | cons q c ih =>
    intro st st1 e h1 h2
    have h3 : (match stpS v q st with | none => none | some st2 => runS v c st2) = some st1 := h2
    cases hs : stpS v q st with
    | none => rw [hs] at h3; exact nomatch h3
    | some st2 =>
      rw [hs] at h3
      have l := stp_len hs
      rcases wfO_cons h1 with ⟨a1, a2, a3⟩ | ⟨a1, a2, a3, a4⟩
      · exact ih (by rw [l.1 (by omega)]; exact a3) h3
      · exact ih (by rw [(l.2 a1).1]; exact a4) h3
theorem stp_app {q : OPC} {st st2 : List Int32} (h : 2 ≤ q.1 → 2 ≤ st.length) : stpS v q (st ++ st2) = (stpS v q st).map (· ++ st2) := by
  unfold stpS
  by_cases c0 : q.1 = 0
  · rw [if_pos c0, if_pos c0]; rfl
  · rw [if_neg c0, if_neg c0]
    by_cases c1 : q.1 = 1
    · rw [if_pos c1, if_pos c1]; rfl
    · rw [if_neg c1, if_neg c1]
      match st, h (by omega) with
      | [], h => exact absurd h (by decide)
      | [_], h => exact absurd h (by simp)
      | b :: a :: r, _ =>
        simp only [List.cons_append]
        by_cases c2 : q.1 = 5 ∧ b.toInt = 0
        · rw [if_pos c2, if_pos c2]; rfl
        · rw [if_neg c2, if_neg c2]; rfl
theorem run_app : ∀ {c : COD} {st st2 : List Int32} {e : Nat}, wfO m c st.length = some e → runS v c (st ++ st2) = (runS v c st).map (· ++ st2) := by
  intro c
  induction c with
  | nil => intro st st2 e _; rfl
  | cons q c ih =>
    intro st st2 e h1
    show (match stpS v q (st ++ st2) with | none => none | some s => runS v c s) = (match stpS v q st with | none => none | some s => runS v c s).map (· ++ st2)
    rcases wfO_cons h1 with ⟨a1, a2, a3⟩ | ⟨a1, a2, a3, a4⟩
    · rw [stp_app (fun h => by omega)]
      cases hs : stpS v q st with
      | none => rfl
      | some st3 => exact ih (e := e) (by rw [(stp_len hs).1 (by omega)]; exact a3)
    · rw [stp_app (fun _ => a3)]
      cases hs : stpS v q st with
      | none => rfl
      | some st3 => exact ih (e := e) (by rw [((stp_len hs).2 a1).1]; exact a4)
theorem val_run {c : COD} (h : gdC c) : runS v c [] = (valS v c).map (fun x => [x]) := by
  unfold valS
  cases hr : runS v c [] with
  | none => rfl
  | some st =>
    have l := run_len (m := 16) (st := []) h hr
    match st, l with
    | [x], _ => rfl
theorem val_cong {v v' : Nat → Int32} {c : COD} (hv : ∀ k, k < 9 → v k = v' k) (h : gdC c) : valS v c = valS v' c := by
  have : ∀ (c : COD) (d e : Nat) (st : List Int32), st.length = d → wfO 16 c d = some e → runS v c st = runS v' c st := by
    intro c
    induction c with
    | nil => intro d e st _ _; rfl
    | cons q c ih =>
      intro d e st hd h1
      have es : stpS v q st = stpS v' q st := by
        unfold stpS
        by_cases c0 : q.1 = 0
        · rw [if_pos c0, if_pos c0]
        · rw [if_neg c0, if_neg c0]
          by_cases c1 : q.1 = 1
          · rw [if_pos c1, if_pos c1]
            rcases wfO_cons h1 with ⟨a1, a2, a3⟩ | ⟨a1, a2, a3, a4⟩
            · rw [hv _ (by omega)]
            · omega
          · rw [if_neg c1, if_neg c1]
      show (match stpS v q st with | none => none | some s => runS v c s) = (match stpS v' q st with | none => none | some s => runS v' c s)
      rw [es]
      cases hs : stpS v' q st with
      | none => rfl
      | some st3 =>
        rcases wfO_cons h1 with ⟨a1, a2, a3⟩ | ⟨a1, a2, a3, a4⟩
        · exact ih (d + 1) e st3 (by rw [(stp_len hs).1 (by omega), hd]) a3
        · exact ih (d - 1) e st3 (by rw [((stp_len hs).2 a1).1, hd]) a4
  unfold valS
  rw [this c 0 1 [] rfl h]
theorem lawR_cong {v v' : Nat → Int32} {L : LAWT} (hv : ∀ k, k < 9 → v k = v' k) (h : LG L) : lawR v L.1 L.2 = lawR v' L.1 L.2 := by
  obtain ⟨-, h1, h2⟩ := h
  have : ∀ (l : List (COD × COD × COD)) (c : COD), (∀ x ∈ l, gdC x.1 ∧ gdC x.2.1 ∧ gdC x.2.2) → gdC c → lawR v l c = lawR v' l c := by
    intro l c
    induction l with
    | nil => intro _ hc; show (valS v c).getD 0 = (valS v' c).getD 0; rw [val_cong hv hc]
    | cons x l ih =>
      intro hl hc
      have hx := hl x (List.mem_cons_self ..)
      show (match valS v x.1, valS v x.2.1 with | some u, some w => if u.toInt < w.toInt then (valS v x.2.2).getD 0 else lawR v l c | _, _ => 0) = (match valS v' x.1, valS v' x.2.1 with | some u, some w => if u.toInt < w.toInt then (valS v' x.2.2).getD 0 else lawR v' l c | _, _ => 0)
      rw [val_cong hv hx.1, val_cong hv hx.2.1, val_cong hv hx.2.2, ih (fun y hy => hl y (List.mem_cons_of_mem _ hy)) hc]
  exact this L.1 L.2 h1 h2
end RUNS
