/-! the world as a list: what stands at a number, and what a store makes of it -/
theorem mw_get {ids : List Nat} {ad : Nat → Nat} {ca : Nat → ClassId} {i : Nat} (h : i ∈ ids) : ∃ p : Nat, ids[p]? = some i ∧ ∀ σ : HS, (mw ids ad ca σ)[p]? = some (ad i, ceK ad ca (kd i) i (σ.1 i) (σ.2.1 i) σ.2.2) := by
  obtain ⟨p, hp⟩ := List.mem_iff_getElem?.mp h
  refine ⟨p, hp, fun σ => ?_⟩
  unfold mw
  rw [List.getElem?_map, hp]
  rfl
theorem mw_len {ids : List Nat} {ad : Nat → Nat} {ca : Nat → ClassId} {σ : HS} : (mw ids ad ca σ).length = ids.length := by
  unfold mw
  rw [List.length_map]
theorem mw_at {ids : List Nat} {ad : Nat → Nat} {ca : Nat → ClassId} {σ : HS} {k : Nat} {q : Nat × va_E} (h : (mw ids ad ca σ)[k]? = some q) : ∃ i : Nat, ids[k]? = some i ∧ q = (ad i, ceK ad ca (kd i) i (σ.1 i) (σ.2.1 i) σ.2.2) := by
  unfold mw at h
  rw [List.getElem?_map] at h
  cases hi : ids[k]? with
  | none => rw [hi] at h; cases h
  | some i => rw [hi] at h; exact ⟨i, rfl, (Option.some.inj h).symm⟩
theorem mw_ats {ids : List Nat} {ad : Nat → Nat} {ca : Nat → ClassId} {k i : Nat} (h : ids[k]? = some i) (σ : HS) : (mw ids ad ca σ)[k]? = some (ad i, ceK ad ca (kd i) i (σ.1 i) (σ.2.1 i) σ.2.2) := by
  unfold mw
  rw [List.getElem?_map, h]
  rfl
theorem mw_set {ids : List Nat} {A : Nat → Prop} {ad : Nat → Nat} {ca : Nat → ClassId} {σ σ' : HS} {i p : Nat} {X : va_E} (hD : va_D A (mw ids ad ca σ)) (hp : ids[p]? = some i) (hX : ceK ad ca (kd i) i (σ'.1 i) (σ'.2.1 i) σ'.2.2 = X)
    (ho : ∀ j, j ≠ i → ceK ad ca (kd j) j (σ'.1 j) (σ'.2.1 j) σ'.2.2 = ceK ad ca (kd j) j (σ.1 j) (σ.2.1 j) σ.2.2) : (mw ids ad ca σ).set p (ad i, X) = mw ids ad ca σ' := by
  apply List.ext_getElem?
  intro j
  rw [List.getElem?_set]
  by_cases e : p = j
  · subst e
    rw [if_pos rfl, mw_ats hp σ', hX, mw_len, if_pos (List.getElem?_eq_some_iff.mp hp).1]
  · rw [if_neg e]
    cases hj : ids[j]? with
    | none =>
      have h1 : ids.length ≤ j := List.getElem?_eq_none_iff.mp hj
      rw [List.getElem?_eq_none (by rw [mw_len]; exact h1), List.getElem?_eq_none (by rw [mw_len]; exact h1)]
    | some j1 =>
      rw [mw_ats hj σ, mw_ats hj σ', ho j1 (fun h => e (by
        subst h
        exact hD.1 p j _ _ (mw_ats hp σ) (mw_ats hj σ) rfl))]
theorem mw_setI {ids : List Nat} {A : Nat → Prop} {ad : Nat → Nat} {ca : Nat → ClassId} {σ : HS} {i k p : Nat} {v : Int32} {X : va_E} (hD : va_D A (mw ids ad ca σ)) (hp : ids[p]? = some i) (hX : ceK ad ca (kd i) i (upd (σ.1 i) k v) (σ.2.1 i) σ.2.2 = X) : (mw ids ad ca σ).set p (ad i, X) = mw ids ad ca (hI σ i k v) := by
  refine mw_set hD hp ?_ ?_
  · show ceK ad ca (kd i) i (va_up σ.1 i (upd (σ.1 i) k v) i) (σ.2.1 i) σ.2.2 = X
    rw [va_up_self]
    exact hX
  · intro j hj
    show ceK ad ca (kd j) j (va_up σ.1 i (upd (σ.1 i) k v) j) (σ.2.1 j) σ.2.2 = _
    rw [va_up_ne _ _ hj]
theorem mw_setA {ids : List Nat} {A : Nat → Prop} {ad : Nat → Nat} {ca : Nat → ClassId} {σ : HS} {i p : Nat} {f : Nat → Int32} {X : va_E} (hD : va_D A (mw ids ad ca σ)) (hp : ids[p]? = some i) (hX : ceK ad ca (kd i) i f (σ.2.1 i) σ.2.2 = X) : (mw ids ad ca σ).set p (ad i, X) = mw ids ad ca (hA σ i f) := by
  refine mw_set hD hp ?_ ?_
  · show ceK ad ca (kd i) i (va_up σ.1 i f i) (σ.2.1 i) σ.2.2 = X
    rw [va_up_self]
    exact hX
  · intro j hj
    show ceK ad ca (kd j) j (va_up σ.1 i f j) (σ.2.1 j) σ.2.2 = _
    rw [va_up_ne _ _ hj]
theorem mw_setL {ids : List Nat} {A : Nat → Prop} {ad : Nat → Nat} {ca : Nat → ClassId} {σ : HS} {i k p : Nat} {v : Int64} {X : va_E} (hD : va_D A (mw ids ad ca σ)) (hp : ids[p]? = some i) (hX : ceK ad ca (kd i) i (σ.1 i) (vp_updL (σ.2.1 i) k v) σ.2.2 = X) : (mw ids ad ca σ).set p (ad i, X) = mw ids ad ca (hL σ i k v) := by
  refine mw_set hD hp ?_ ?_
  · show ceK ad ca (kd i) i (σ.1 i) (va_up σ.2.1 i (vp_updL (σ.2.1 i) k v) i) σ.2.2 = X
    rw [va_up_self]
    exact hX
  · intro j hj
    show ceK ad ca (kd j) j (σ.1 j) (va_up σ.2.1 i (vp_updL (σ.2.1 i) k v) j) σ.2.2 = _
    rw [va_up_ne _ _ hj]
theorem mw_D {ids : List Nat} {ad : Nat → Nat} {ca : Nat → ClassId} {A : Nat → Prop} {σ : HS} (h : va_D A (mw ids ad ca σ)) (σ' : HS) : va_D A (mw ids ad ca σ') := by
  refine ⟨fun i j p q hp hq e => ?_, fun k q hq => ?_⟩
  · obtain ⟨i1, hi, rfl⟩ := mw_at hp
    obtain ⟨j1, hj, rfl⟩ := mw_at hq
    exact h.1 i j _ _ (mw_ats hi σ) (mw_ats hj σ) e
  · obtain ⟨i1, hk, rfl⟩ := mw_at hq
    have := h.2 k _ (mw_ats hk σ)
    exact this
theorem tys_get {ids : List Nat} {ca : Nat → ClassId} {i : Nat} (hi : i ∈ ids) (h : 12 ≤ kd i) : ∃ t : Nat, (tys ids ca)[t]? = some (ca i, aty (kd i)) := by
  have hm : i ∈ arL ids := List.mem_filter.mpr ⟨hi, by simp [h]⟩
  obtain ⟨t, ht⟩ := List.mem_iff_getElem?.mp hm
  exact ⟨t, by unfold tys; rw [List.getElem?_map, ht]; rfl⟩
/-! locals by their places -/
def LV (ls : Array Slot) (nL : Nat) (vs : List (Option Value)) : Prop := ls.size = nL ∧ lv_wf ls ∧ ∀ (i : Nat) (v : Value), vs[i]? = some (some v) → ls[i]? = some (.val v)
def lvL (vs : List (Option Value)) : List (Nat × Value) := (List.range vs.length).filterMap (fun i => (vs.getD i none).map (fun v => (i, v)))
theorem lvL_mem {vs : List (Option Value)} {q : Nat × Value} : q ∈ lvL vs ↔ vs[q.1]? = some (some q.2) := by
  unfold lvL
  rw [List.mem_filterMap]
  constructor
  · rintro ⟨i, hi, h⟩
    have hi := List.mem_range.mp hi
    have hg : vs[i]? = some vs[i] := List.getElem?_eq_getElem hi
    simp only [List.getD, hg, Option.getD_some] at h
    cases hv : vs[i] with
    | none => rw [hv] at h; simp at h
    | some v => rw [hv] at h hg; simp at h; subst h; exact hg
  · intro h
    have hi : q.1 < vs.length := (List.getElem?_eq_some_iff.mp h).1
    refine ⟨q.1, List.mem_range.mpr hi, ?_⟩
    simp [List.getD, h]
theorem LV.has {ls : Array Slot} {nL : Nat} {vs : List (Option Value)} (h : LV ls nL vs) : lv_has ls nL (lvL vs) := ⟨h.1, h.2.1, fun q hq => h.2.2 q.1 q.2 (lvL_mem.mp hq)⟩
def catOk (vs : List (Option Value)) (i : Nat) : Bool := match i with
  | 0 => true
  | j + 1 => match vs[j]? with
    | some (some v) => !(v.category == 2)
    | _ => true
theorem catOk_use {vs : List (Option Value)} {i j : Nat} {v : Value} (h : catOk vs i = true) (e : j + 1 = i) (hv : vs[j]? = some (some v)) : (v.category == 2) = false := by
  subst e
  simp only [catOk, hv] at h
  simpa using h
theorem LV.store1 {ls : Array Slot} {nL i : Nat} {x : Value} {vs : List (Option Value)} (hc : catOk vs i = true) (h : lv_has ls nL ((i, x) :: (lvL vs).filter (fun q => !(q.1 == i) && !(q.1 + 1 == i && q.2.category == 2)))) : LV ls nL (vs.set i (some x)) := by
  refine ⟨h.1, h.2.1, fun j v hj => ?_⟩
  rw [List.getElem?_set] at hj
  by_cases e : i = j
  · subst e
    rw [if_pos rfl] at hj
    split at hj
    · cases hj
      exact h.2.2 (i, x) List.mem_cons_self
    · cases hj
  · rw [if_neg e] at hj
    refine h.2.2 (j, v) (List.mem_cons_of_mem _ (List.mem_filter.mpr ⟨lvL_mem.mpr hj, ?_⟩))
    have e1 : (j == i) = false := by simp; exact fun h => e h.symm
    by_cases e2 : j + 1 = i
    · have := catOk_use hc e2 hj
      simp [e1, this]
    · have e3 : (j + 1 == i) = false := by simpa using e2
      simp [e1, e3]
theorem LV.store2 {ls : Array Slot} {nL i : Nat} {x : Value} {vs : List (Option Value)} (hc : catOk vs i = true) (h : lv_has ls nL ((i, x) :: (lvL vs).filter (fun q => !(q.1 == i) && (!(q.1 == i + 1) && !(q.1 + 1 == i && q.2.category == 2))))) : LV ls nL ((vs.set (i + 1) none).set i (some x)) := by
  refine ⟨h.1, h.2.1, fun j v hj => ?_⟩
  rw [List.getElem?_set] at hj
  by_cases e : i = j
  · subst e
    rw [if_pos rfl] at hj
    split at hj
    · cases hj
      exact h.2.2 (i, x) List.mem_cons_self
    · cases hj
  · rw [if_neg e, List.getElem?_set] at hj
    by_cases e4 : i + 1 = j
    · rw [if_pos e4] at hj
      split at hj <;> cases hj
    · rw [if_neg e4] at hj
      refine h.2.2 (j, v) (List.mem_cons_of_mem _ (List.mem_filter.mpr ⟨lvL_mem.mpr hj, ?_⟩))
      have e1 : (j == i) = false := by simp; exact fun h => e h.symm
      have e5 : (j == i + 1) = false := by simp; exact fun h => e4 h.symm
      by_cases e2 : j + 1 = i
      · have := catOk_use hc e2 hj
        simp [e1, e5, this]
      · have e3 : (j + 1 == i) = false := by simpa using e2
        simp [e1, e3, e5]
def entL (av : List Value) : List (Option Value) := av.flatMap (fun v => if v.category = 2 then [some v, none] else [some v])
theorem entL_args : ∀ (av : List Value) (k i : Nat) (v : Value), (entL av)[i]? = some (some v) → (k + i, v) ∈ lv_args k av
  | [], k, i, v, h => by simp [entL] at h
  | a :: av, k, i, v, h => by
    have he : entL (a :: av) = (if a.category = 2 then [some a, none] else [some a]) ++ entL av := rfl
    rw [he] at h
    unfold lv_args
    by_cases c : a.category = 2
    · rw [if_pos c] at h ⊢
      match i, h with
      | 0, h => simp at h; subst h; simp
      | 1, h => simp at h
      | i + 2, h =>
        have h' : (entL av)[i]? = some (some v) := by simpa using h
        have := entL_args av (k + 2) i v h'
        rw [show k + (i + 2) = k + 2 + i by omega]
        exact List.mem_cons_of_mem _ this
    · rw [if_neg c] at h ⊢
      match i, h with
      | 0, h => simp at h; subst h; simp
      | i + 1, h =>
        have h' : (entL av)[i]? = some (some v) := by simpa using h
        have := entL_args av (k + 1) i v h'
        rw [show k + (i + 1) = k + 1 + i by omega]
        exact List.mem_cons_of_mem _ this
theorem LV.entry (av : List Value) {n : Nat} (h : (lg_sl av).length ≤ n) (z : Nat) : LV ((lg_sl av ++ List.replicate (n - (lg_sl av).length) Slot.unset).toArray) n (entL av ++ List.replicate z none) := by
  have h0 := lv_entry av h
  refine ⟨h0.1, h0.2.1, fun i v hv => ?_⟩
  rw [List.getElem?_append] at hv
  split at hv
  · have := entL_args av 0 i v hv
    rw [Nat.zero_add] at this
    exact h0.2.2 (i, v) this
  · rw [List.getElem?_replicate] at hv
    split at hv <;> cases hv
theorem LV.sub {ls : Array Slot} {nL : Nat} {vs vs' : List (Option Value)} (h : LV ls nL vs) (hs : ∀ (i : Nat) (v : Value), vs'[i]? = some (some v) → vs[i]? = some (some v)) : LV ls nL vs' := ⟨h.1, h.2.1, fun i v hv => h.2.2 i v (hs i v hv)⟩

/-! the walk of a method over the world: context, judgement, rows -/
abbrev GT : Type := Program × Launch × Env × Room × State × MethodId × Array Value × List Frame × Method × Code × Nat × Nat × (State → Prop) × va_G × (Nat → Prop) × Heap × Nat
/-- from the place pc, with locals vs, operands st and the world σ, the method comes to its end -/
def AW (ids : List Nat) (ad : Nat → Nat) (ca : Nat → ClassId) (Γ : GT) (pc : Nat) (vs : List (Option Value)) (st : List Value) (σ : HS) : Prop := match Γ with
  | (p, l, e, R, s, m, args, below, meth, c, kc, ks, Q, D, A, H0, nL) => ∀ (H : Heap) (locs : List Loc) (ls : Array Slot), va_P D vwCl (mw ids ad ca σ) H → va_S A H0 H locs → LV ls nL vs → W p l e R s m args below meth c H locs kc ks Q (F0 m pc ls st)
/-- what stays while a method is walked -/
def CT (ids : List Nat) (ad : Nat → Nat) (ca : Nat → ClassId) (Γ : GT) (cc : ByteArray) (own : String) (l0 : Launch) (D0 : va_G) (fr lo nL0 : Nat) : Prop := match Γ with
  | (p, l, e, R, s, m, args, below, meth, c, kc, ks, Q, D, A, H0, nL) => CallFix p m c cc nL s args gw_tbl own ∧ va_K D vwCl (tys ids ca) s ∧ EN s ∧ (∀ σ : HS, va_D A (mw ids ad ca σ)) ∧ (∀ q, H0.size ≤ q → A q) ∧ l = l0 ∧ D = D0 ∧ fr ≤ R.frames ∧ lo ≤ R.locals ∧ kc ≤ R.cells ∧ ks ≤ R.slots ∧ nL = nL0
section AWR
variable {ids : List Nat} {ad : Nat → Nat} {ca : Nat → ClassId} {Γ : GT} {cc : ByteArray} {own : String} {l0 : Launch} {D0 : va_G} {fr lo nL0 : Nat} {pc : Nat} {vs : List (Option Value)} {st : List Value} {σ : HS}
theorem AW.sub {vs' : List (Option Value)} (hs : ∀ (i : Nat) (v : Value), vs'[i]? = some (some v) → vs[i]? = some (some v)) (k : AW ids ad ca Γ pc vs' st σ) : AW ids ad ca Γ pc vs st σ := by
  obtain ⟨p, l, e, R, s, m, args, below, meth, c, kc, ks, Q, D, A, H0, nL⟩ := Γ
  intro H locs ls hP hS hl
  exact k H locs ls hP hS (hl.sub hs)
-- GENERATED by rules.py
theorem a_iconst (C : CT ids ad ca Γ cc own l0 D0 fr lo nL0) {n : Int} {v : Int32} (hd : decode cc pc = .ok (.iconst n, 1)) (hv : Int32.ofInt n = v) (k : AW ids ad ca Γ (pc + 1) vs (.int v :: st) σ) : AW ids ad ca Γ pc vs st σ := by
  obtain ⟨p, l, e, R, s, m, args, below, meth, c, kc, ks, Q, D, A, H0, nL⟩ := Γ
  obtain ⟨⟨hx, hb, hml, hown, hts⟩, hK, hE, hD, hA0, rfl, rfl, hfr, hlo, hkc, hks, rfl⟩ := C
  intro H locs ls hP hS hl
  exact lv_iconst hx hb hd hv (k H locs ls hP hS hl)
theorem a_bipush (C : CT ids ad ca Γ cc own l0 D0 fr lo nL0) {n : Int} {v : Int32} (hd : decode cc pc = .ok (.bipush n, 2)) (hv : (Int8.ofInt n).toInt32 = v) (k : AW ids ad ca Γ (pc + 2) vs (.int v :: st) σ) : AW ids ad ca Γ pc vs st σ := by
  obtain ⟨p, l, e, R, s, m, args, below, meth, c, kc, ks, Q, D, A, H0, nL⟩ := Γ
  obtain ⟨⟨hx, hb, hml, hown, hts⟩, hK, hE, hD, hA0, rfl, rfl, hfr, hlo, hkc, hks, rfl⟩ := C
  intro H locs ls hP hS hl
  exact lv_bipush hx hb hd hv (k H locs ls hP hS hl)
theorem a_sipush (C : CT ids ad ca Γ cc own l0 D0 fr lo nL0) {n : Int} {v : Int32} (hd : decode cc pc = .ok (.sipush n, 3)) (hv : (Int16.ofInt n).toInt32 = v) (k : AW ids ad ca Γ (pc + 3) vs (.int v :: st) σ) : AW ids ad ca Γ pc vs st σ := by
  obtain ⟨p, l, e, R, s, m, args, below, meth, c, kc, ks, Q, D, A, H0, nL⟩ := Γ
  obtain ⟨⟨hx, hb, hml, hown, hts⟩, hK, hE, hD, hA0, rfl, rfl, hfr, hlo, hkc, hks, rfl⟩ := C
  intro H locs ls hP hS hl
  exact lv_sipush hx hb hd hv (k H locs ls hP hS hl)
theorem a_lconst (C : CT ids ad ca Γ cc own l0 D0 fr lo nL0) {n : Fin 2} {v : Int64} (hd : decode cc pc = .ok (.lconst n, 1)) (hv : Int64.ofNat (n : Nat) = v) (k : AW ids ad ca Γ (pc + 1) vs (.long v :: st) σ) : AW ids ad ca Γ pc vs st σ := by
  obtain ⟨p, l, e, R, s, m, args, below, meth, c, kc, ks, Q, D, A, H0, nL⟩ := Γ
  obtain ⟨⟨hx, hb, hml, hown, hts⟩, hK, hE, hD, hA0, rfl, rfl, hfr, hlo, hkc, hks, rfl⟩ := C
  intro H locs ls hP hS hl
  exact lv_lconst hx hb hd hv (k H locs ls hP hS hl)
theorem a_ldc (C : CT ids ad ca Γ cc own l0 D0 fr lo nL0) {ix : Nat} {v : Int32} (hd : decode cc pc = .ok (.ldc ix, 2)) (hw : Cond.constant own ix v ∈ gw_tbl) (k : AW ids ad ca Γ (pc + 2) vs (.int v :: st) σ) : AW ids ad ca Γ pc vs st σ := by
  obtain ⟨p, l, e, R, s, m, args, below, meth, c, kc, ks, Q, D, A, H0, nL⟩ := Γ
  obtain ⟨⟨hx, hb, hml, hown, hts⟩, hK, hE, hD, hA0, rfl, rfl, hfr, hlo, hkc, hks, rfl⟩ := C
  intro H locs ls hP hS hl
  exact lv_ldc hx hb hown (hts _ hw) hd (k H locs ls hP hS hl)
theorem a_ldcw (C : CT ids ad ca Γ cc own l0 D0 fr lo nL0) {ix : Nat} {v : Int32} (hd : decode cc pc = .ok (.ldc_w ix, 3)) (hw : Cond.constant own ix v ∈ gw_tbl) (k : AW ids ad ca Γ (pc + 3) vs (.int v :: st) σ) : AW ids ad ca Γ pc vs st σ := by
  obtain ⟨p, l, e, R, s, m, args, below, meth, c, kc, ks, Q, D, A, H0, nL⟩ := Γ
  obtain ⟨⟨hx, hb, hml, hown, hts⟩, hK, hE, hD, hA0, rfl, rfl, hfr, hlo, hkc, hks, rfl⟩ := C
  intro H locs ls hP hS hl
  exact lv_ldcw hx hb hown (hts _ hw) hd (k H locs ls hP hS hl)
theorem a_ldc2 (C : CT ids ad ca Γ cc own l0 D0 fr lo nL0) {ix : Nat} {v : Int64} (hd : decode cc pc = .ok (.ldc2_w ix, 3)) (hw : Cond.constantLong own ix v ∈ gw_tbl) (k : AW ids ad ca Γ (pc + 3) vs (.long v :: st) σ) : AW ids ad ca Γ pc vs st σ := by
  obtain ⟨p, l, e, R, s, m, args, below, meth, c, kc, ks, Q, D, A, H0, nL⟩ := Γ
  obtain ⟨⟨hx, hb, hml, hown, hts⟩, hK, hE, hD, hA0, rfl, rfl, hfr, hlo, hkc, hks, rfl⟩ := C
  intro H locs ls hP hS hl
  exact lv_ldc2 hx hb hown (hts _ hw) hd (k H locs ls hP hS hl)
theorem a_iload_n (C : CT ids ad ca Γ cc own l0 D0 fr lo nL0) {q : Fin 4} {i : Nat} {x : Int32} (hd : decode cc pc = .ok (.iload_n q, 1)) (hi : (q : Nat) = i) (hv : vs[i]? = some (some (.int x))) (k : AW ids ad ca Γ (pc + 1) vs (.int x :: st) σ) : AW ids ad ca Γ pc vs st σ := by
  obtain ⟨p, l, e, R, s, m, args, below, meth, c, kc, ks, Q, D, A, H0, nL⟩ := Γ
  obtain ⟨⟨hx, hb, hml, hown, hts⟩, hK, hE, hD, hA0, rfl, rfl, hfr, hlo, hkc, hks, rfl⟩ := C
  intro H locs ls hP hS hl
  exact lv_iload_n hx hb hd hi (hl.2.2 _ _ hv) (k H locs ls hP hS hl)
theorem a_iload (C : CT ids ad ca Γ cc own l0 D0 fr lo nL0) {i : Nat} {x : Int32} (hd : decode cc pc = .ok (.iload i, 2)) (hv : vs[i]? = some (some (.int x))) (k : AW ids ad ca Γ (pc + 2) vs (.int x :: st) σ) : AW ids ad ca Γ pc vs st σ := by
  obtain ⟨p, l, e, R, s, m, args, below, meth, c, kc, ks, Q, D, A, H0, nL⟩ := Γ
  obtain ⟨⟨hx, hb, hml, hown, hts⟩, hK, hE, hD, hA0, rfl, rfl, hfr, hlo, hkc, hks, rfl⟩ := C
  intro H locs ls hP hS hl
  exact lv_iload hx hb hd (hl.2.2 _ _ hv) (k H locs ls hP hS hl)
theorem a_lload_n (C : CT ids ad ca Γ cc own l0 D0 fr lo nL0) {q : Fin 4} {i : Nat} {x : Int64} (hd : decode cc pc = .ok (.lload_n q, 1)) (hi : (q : Nat) = i) (hv : vs[i]? = some (some (.long x))) (k : AW ids ad ca Γ (pc + 1) vs (.long x :: st) σ) : AW ids ad ca Γ pc vs st σ := by
  obtain ⟨p, l, e, R, s, m, args, below, meth, c, kc, ks, Q, D, A, H0, nL⟩ := Γ
  obtain ⟨⟨hx, hb, hml, hown, hts⟩, hK, hE, hD, hA0, rfl, rfl, hfr, hlo, hkc, hks, rfl⟩ := C
  intro H locs ls hP hS hl
  exact lv_lload_n hx hb hd hi (hl.2.2 _ _ hv) (k H locs ls hP hS hl)
theorem a_lload (C : CT ids ad ca Γ cc own l0 D0 fr lo nL0) {i : Nat} {x : Int64} (hd : decode cc pc = .ok (.lload i, 2)) (hv : vs[i]? = some (some (.long x))) (k : AW ids ad ca Γ (pc + 2) vs (.long x :: st) σ) : AW ids ad ca Γ pc vs st σ := by
  obtain ⟨p, l, e, R, s, m, args, below, meth, c, kc, ks, Q, D, A, H0, nL⟩ := Γ
  obtain ⟨⟨hx, hb, hml, hown, hts⟩, hK, hE, hD, hA0, rfl, rfl, hfr, hlo, hkc, hks, rfl⟩ := C
  intro H locs ls hP hS hl
  exact lv_lload hx hb hd (hl.2.2 _ _ hv) (k H locs ls hP hS hl)
theorem a_aload_n (C : CT ids ad ca Γ cc own l0 D0 fr lo nL0) {q : Fin 4} {i : Nat} {x : Nat} (hd : decode cc pc = .ok (.aload_n q, 1)) (hi : (q : Nat) = i) (hv : vs[i]? = some (some (.ref x))) (k : AW ids ad ca Γ (pc + 1) vs (.ref x :: st) σ) : AW ids ad ca Γ pc vs st σ := by
  obtain ⟨p, l, e, R, s, m, args, below, meth, c, kc, ks, Q, D, A, H0, nL⟩ := Γ
  obtain ⟨⟨hx, hb, hml, hown, hts⟩, hK, hE, hD, hA0, rfl, rfl, hfr, hlo, hkc, hks, rfl⟩ := C
  intro H locs ls hP hS hl
  exact lv_aload_n hx hb hd hi (hl.2.2 _ _ hv) (k H locs ls hP hS hl)
theorem a_istore_n (C : CT ids ad ca Γ cc own l0 D0 fr lo nL0) {q : Fin 4} {i : Nat} {x : Int32} (hd : decode cc pc = .ok (.istore_n q, 1)) (hi : (q : Nat) = i) (hn : i < nL0) (hc : catOk vs i = true) {vs1 : List (Option Value)} (hvs : vs.set i (some (.int x)) = vs1) (k : AW ids ad ca Γ (pc + 1) vs1 st σ) : AW ids ad ca Γ pc vs (.int x :: st) σ := by
  obtain ⟨p, l, e, R, s, m, args, below, meth, c, kc, ks, Q, D, A, H0, nL⟩ := Γ
  obtain ⟨⟨hx, hb, hml, hown, hts⟩, hK, hE, hD, hA0, rfl, rfl, hfr, hlo, hkc, hks, rfl⟩ := C
  intro H locs ls hP hS hl
  subst hvs
  exact lv_istore_n hx hb hd hi hl.has hn rfl (fun ls1 h1 => k H locs ls1 hP hS (LV.store1 hc h1))
theorem a_istore (C : CT ids ad ca Γ cc own l0 D0 fr lo nL0) {i : Nat} {x : Int32} (hd : decode cc pc = .ok (.istore i, 2)) (hn : i < nL0) (hc : catOk vs i = true) {vs1 : List (Option Value)} (hvs : vs.set i (some (.int x)) = vs1) (k : AW ids ad ca Γ (pc + 2) vs1 st σ) : AW ids ad ca Γ pc vs (.int x :: st) σ := by
  obtain ⟨p, l, e, R, s, m, args, below, meth, c, kc, ks, Q, D, A, H0, nL⟩ := Γ
  obtain ⟨⟨hx, hb, hml, hown, hts⟩, hK, hE, hD, hA0, rfl, rfl, hfr, hlo, hkc, hks, rfl⟩ := C
  intro H locs ls hP hS hl
  subst hvs
  exact lv_istore hx hb hd hl.has hn rfl (fun ls1 h1 => k H locs ls1 hP hS (LV.store1 hc h1))
theorem a_astore_n (C : CT ids ad ca Γ cc own l0 D0 fr lo nL0) {q : Fin 4} {i : Nat} {x : Nat} (hd : decode cc pc = .ok (.astore_n q, 1)) (hi : (q : Nat) = i) (hn : i < nL0) (hc : catOk vs i = true) {vs1 : List (Option Value)} (hvs : vs.set i (some (.ref x)) = vs1) (k : AW ids ad ca Γ (pc + 1) vs1 st σ) : AW ids ad ca Γ pc vs (.ref x :: st) σ := by
  obtain ⟨p, l, e, R, s, m, args, below, meth, c, kc, ks, Q, D, A, H0, nL⟩ := Γ
  obtain ⟨⟨hx, hb, hml, hown, hts⟩, hK, hE, hD, hA0, rfl, rfl, hfr, hlo, hkc, hks, rfl⟩ := C
  intro H locs ls hP hS hl
  subst hvs
  exact lv_astore_n hx hb hd hi hl.has hn rfl (fun ls1 h1 => k H locs ls1 hP hS (LV.store1 hc h1))
theorem a_lstore_n (C : CT ids ad ca Γ cc own l0 D0 fr lo nL0) {q : Fin 4} {i : Nat} {x : Int64} (hd : decode cc pc = .ok (.lstore_n q, 1)) (hi : (q : Nat) = i) (hn : i + 1 < nL0) (hc : catOk vs i = true) {vs1 : List (Option Value)} (hvs : (vs.set (i + 1) none).set i (some (.long x)) = vs1) (k : AW ids ad ca Γ (pc + 1) vs1 st σ) : AW ids ad ca Γ pc vs (.long x :: st) σ := by
  obtain ⟨p, l, e, R, s, m, args, below, meth, c, kc, ks, Q, D, A, H0, nL⟩ := Γ
  obtain ⟨⟨hx, hb, hml, hown, hts⟩, hK, hE, hD, hA0, rfl, rfl, hfr, hlo, hkc, hks, rfl⟩ := C
  intro H locs ls hP hS hl
  subst hvs
  exact lv_lstore_n hx hb hd hi hl.has hn rfl (fun ls1 h1 => k H locs ls1 hP hS (LV.store2 hc h1))
theorem a_lstore (C : CT ids ad ca Γ cc own l0 D0 fr lo nL0) {i : Nat} {x : Int64} (hd : decode cc pc = .ok (.lstore i, 2)) (hn : i + 1 < nL0) (hc : catOk vs i = true) {vs1 : List (Option Value)} (hvs : (vs.set (i + 1) none).set i (some (.long x)) = vs1) (k : AW ids ad ca Γ (pc + 2) vs1 st σ) : AW ids ad ca Γ pc vs (.long x :: st) σ := by
  obtain ⟨p, l, e, R, s, m, args, below, meth, c, kc, ks, Q, D, A, H0, nL⟩ := Γ
  obtain ⟨⟨hx, hb, hml, hown, hts⟩, hK, hE, hD, hA0, rfl, rfl, hfr, hlo, hkc, hks, rfl⟩ := C
  intro H locs ls hP hS hl
  subst hvs
  exact lv_lstore hx hb hd hl.has hn rfl (fun ls1 h1 => k H locs ls1 hP hS (LV.store2 hc h1))
theorem a_iinc (C : CT ids ad ca Γ cc own l0 D0 fr lo nL0) {i : Nat} {n : Int} {x v : Int32} (hd : decode cc pc = .ok (.iinc i n, 3)) (hv : vs[i]? = some (some (.int x))) (he : x + Int32.ofInt n = v) (hn : i < nL0) (hc : catOk vs i = true) {vs1 : List (Option Value)} (hvs : vs.set i (some (.int v)) = vs1) (k : AW ids ad ca Γ (pc + 3) vs1 st σ) : AW ids ad ca Γ pc vs st σ := by
  obtain ⟨p, l, e, R, s, m, args, below, meth, c, kc, ks, Q, D, A, H0, nL⟩ := Γ
  obtain ⟨⟨hx, hb, hml, hown, hts⟩, hK, hE, hD, hA0, rfl, rfl, hfr, hlo, hkc, hks, rfl⟩ := C
  intro H locs ls hP hS hl
  subst hvs
  have hm : (i, Value.int x) ∈ lvL vs := lvL_mem.mpr hv
  obtain ⟨j, hj⟩ := List.mem_iff_getElem?.mp hm
  exact lv_iinc hx hb hd hl.has hj he hn rfl (fun ls1 h1 => k H locs ls1 hP hS (LV.store1 hc h1))
theorem a_iadd (C : CT ids ad ca Γ cc own l0 D0 fr lo nL0) {x y : Int32} (hd : decode cc pc = .ok (.iadd, 1)) (k : AW ids ad ca Γ (pc + 1) vs (.int (x + y) :: st) σ) : AW ids ad ca Γ pc vs (.int y :: .int x :: st) σ := by
  obtain ⟨p, l, e, R, s, m, args, below, meth, c, kc, ks, Q, D, A, H0, nL⟩ := Γ
  obtain ⟨⟨hx, hb, hml, hown, hts⟩, hK, hE, hD, hA0, rfl, rfl, hfr, hlo, hkc, hks, rfl⟩ := C
  intro H locs ls hP hS hl
  exact lv_iadd hx hb hd (k H locs ls hP hS hl)
theorem a_isub (C : CT ids ad ca Γ cc own l0 D0 fr lo nL0) {x y : Int32} (hd : decode cc pc = .ok (.isub, 1)) (k : AW ids ad ca Γ (pc + 1) vs (.int (x - y) :: st) σ) : AW ids ad ca Γ pc vs (.int y :: .int x :: st) σ := by
  obtain ⟨p, l, e, R, s, m, args, below, meth, c, kc, ks, Q, D, A, H0, nL⟩ := Γ
  obtain ⟨⟨hx, hb, hml, hown, hts⟩, hK, hE, hD, hA0, rfl, rfl, hfr, hlo, hkc, hks, rfl⟩ := C
  intro H locs ls hP hS hl
  exact lv_isub hx hb hd (k H locs ls hP hS hl)
theorem a_imul (C : CT ids ad ca Γ cc own l0 D0 fr lo nL0) {x y : Int32} (hd : decode cc pc = .ok (.imul, 1)) (k : AW ids ad ca Γ (pc + 1) vs (.int (x * y) :: st) σ) : AW ids ad ca Γ pc vs (.int y :: .int x :: st) σ := by
  obtain ⟨p, l, e, R, s, m, args, below, meth, c, kc, ks, Q, D, A, H0, nL⟩ := Γ
  obtain ⟨⟨hx, hb, hml, hown, hts⟩, hK, hE, hD, hA0, rfl, rfl, hfr, hlo, hkc, hks, rfl⟩ := C
  intro H locs ls hP hS hl
  exact lv_imul hx hb hd (k H locs ls hP hS hl)
theorem a_iand (C : CT ids ad ca Γ cc own l0 D0 fr lo nL0) {x y : Int32} (hd : decode cc pc = .ok (.iand, 1)) (k : AW ids ad ca Γ (pc + 1) vs (.int (x &&& y) :: st) σ) : AW ids ad ca Γ pc vs (.int y :: .int x :: st) σ := by
  obtain ⟨p, l, e, R, s, m, args, below, meth, c, kc, ks, Q, D, A, H0, nL⟩ := Γ
  obtain ⟨⟨hx, hb, hml, hown, hts⟩, hK, hE, hD, hA0, rfl, rfl, hfr, hlo, hkc, hks, rfl⟩ := C
  intro H locs ls hP hS hl
  exact lv_iand hx hb hd (k H locs ls hP hS hl)
theorem a_ior (C : CT ids ad ca Γ cc own l0 D0 fr lo nL0) {x y : Int32} (hd : decode cc pc = .ok (.ior, 1)) (k : AW ids ad ca Γ (pc + 1) vs (.int (x ||| y) :: st) σ) : AW ids ad ca Γ pc vs (.int y :: .int x :: st) σ := by
  obtain ⟨p, l, e, R, s, m, args, below, meth, c, kc, ks, Q, D, A, H0, nL⟩ := Γ
  obtain ⟨⟨hx, hb, hml, hown, hts⟩, hK, hE, hD, hA0, rfl, rfl, hfr, hlo, hkc, hks, rfl⟩ := C
  intro H locs ls hP hS hl
  exact lv_ior hx hb hd (k H locs ls hP hS hl)
theorem a_ixor (C : CT ids ad ca Γ cc own l0 D0 fr lo nL0) {x y : Int32} (hd : decode cc pc = .ok (.ixor, 1)) (k : AW ids ad ca Γ (pc + 1) vs (.int (x ^^^ y) :: st) σ) : AW ids ad ca Γ pc vs (.int y :: .int x :: st) σ := by
  obtain ⟨p, l, e, R, s, m, args, below, meth, c, kc, ks, Q, D, A, H0, nL⟩ := Γ
  obtain ⟨⟨hx, hb, hml, hown, hts⟩, hK, hE, hD, hA0, rfl, rfl, hfr, hlo, hkc, hks, rfl⟩ := C
  intro H locs ls hP hS hl
  exact lv_ixor hx hb hd (k H locs ls hP hS hl)
theorem a_ishl (C : CT ids ad ca Γ cc own l0 D0 fr lo nL0) {x y : Int32} (hd : decode cc pc = .ok (.ishl, 1)) (k : AW ids ad ca Γ (pc + 1) vs (.int (x <<< (y &&& 31)) :: st) σ) : AW ids ad ca Γ pc vs (.int y :: .int x :: st) σ := by
  obtain ⟨p, l, e, R, s, m, args, below, meth, c, kc, ks, Q, D, A, H0, nL⟩ := Γ
  obtain ⟨⟨hx, hb, hml, hown, hts⟩, hK, hE, hD, hA0, rfl, rfl, hfr, hlo, hkc, hks, rfl⟩ := C
  intro H locs ls hP hS hl
  exact lv_ishl hx hb hd (k H locs ls hP hS hl)
theorem a_ishr (C : CT ids ad ca Γ cc own l0 D0 fr lo nL0) {x y : Int32} (hd : decode cc pc = .ok (.ishr, 1)) (k : AW ids ad ca Γ (pc + 1) vs (.int (x >>> (y &&& 31)) :: st) σ) : AW ids ad ca Γ pc vs (.int y :: .int x :: st) σ := by
  obtain ⟨p, l, e, R, s, m, args, below, meth, c, kc, ks, Q, D, A, H0, nL⟩ := Γ
  obtain ⟨⟨hx, hb, hml, hown, hts⟩, hK, hE, hD, hA0, rfl, rfl, hfr, hlo, hkc, hks, rfl⟩ := C
  intro H locs ls hP hS hl
  exact lv_ishr hx hb hd (k H locs ls hP hS hl)
theorem a_iushr (C : CT ids ad ca Γ cc own l0 D0 fr lo nL0) {x y : Int32} (hd : decode cc pc = .ok (.iushr, 1)) (k : AW ids ad ca Γ (pc + 1) vs (.int (x.toUInt32 >>> (y.toUInt32 &&& Int32.toUInt32 31)).toInt32 :: st) σ) : AW ids ad ca Γ pc vs (.int y :: .int x :: st) σ := by
  obtain ⟨p, l, e, R, s, m, args, below, meth, c, kc, ks, Q, D, A, H0, nL⟩ := Γ
  obtain ⟨⟨hx, hb, hml, hown, hts⟩, hK, hE, hD, hA0, rfl, rfl, hfr, hlo, hkc, hks, rfl⟩ := C
  intro H locs ls hP hS hl
  exact lv_iushr hx hb hd rfl (k H locs ls hP hS hl)
theorem a_idiv (C : CT ids ad ca Γ cc own l0 D0 fr lo nL0) {x y : Int32} (hd : decode cc pc = .ok (.idiv, 1)) (hne : ¬ y = 0) (k : AW ids ad ca Γ (pc + 1) vs (.int (x / y) :: st) σ) : AW ids ad ca Γ pc vs (.int y :: .int x :: st) σ := by
  obtain ⟨p, l, e, R, s, m, args, below, meth, c, kc, ks, Q, D, A, H0, nL⟩ := Γ
  obtain ⟨⟨hx, hb, hml, hown, hts⟩, hK, hE, hD, hA0, rfl, rfl, hfr, hlo, hkc, hks, rfl⟩ := C
  intro H locs ls hP hS hl
  exact lv_idiv hx hb hd hne (k H locs ls hP hS hl)
theorem a_irem (C : CT ids ad ca Γ cc own l0 D0 fr lo nL0) {x y : Int32} (hd : decode cc pc = .ok (.irem, 1)) (hne : ¬ y = 0) (k : AW ids ad ca Γ (pc + 1) vs (.int (x - x / y * y) :: st) σ) : AW ids ad ca Γ pc vs (.int y :: .int x :: st) σ := by
  obtain ⟨p, l, e, R, s, m, args, below, meth, c, kc, ks, Q, D, A, H0, nL⟩ := Γ
  obtain ⟨⟨hx, hb, hml, hown, hts⟩, hK, hE, hD, hA0, rfl, rfl, hfr, hlo, hkc, hks, rfl⟩ := C
  intro H locs ls hP hS hl
  exact lv_irem hx hb hd hne (k H locs ls hP hS hl)
theorem a_ineg (C : CT ids ad ca Γ cc own l0 D0 fr lo nL0) {x : Int32} (hd : decode cc pc = .ok (.ineg, 1)) (k : AW ids ad ca Γ (pc + 1) vs (.int (-x) :: st) σ) : AW ids ad ca Γ pc vs (.int x :: st) σ := by
  obtain ⟨p, l, e, R, s, m, args, below, meth, c, kc, ks, Q, D, A, H0, nL⟩ := Γ
  obtain ⟨⟨hx, hb, hml, hown, hts⟩, hK, hE, hD, hA0, rfl, rfl, hfr, hlo, hkc, hks, rfl⟩ := C
  intro H locs ls hP hS hl
  exact lv_ineg hx hb hd (k H locs ls hP hS hl)
theorem a_ladd (C : CT ids ad ca Γ cc own l0 D0 fr lo nL0) {x y : Int64} (hd : decode cc pc = .ok (.ladd, 1)) (k : AW ids ad ca Γ (pc + 1) vs (.long (x + y) :: st) σ) : AW ids ad ca Γ pc vs (.long y :: .long x :: st) σ := by
  obtain ⟨p, l, e, R, s, m, args, below, meth, c, kc, ks, Q, D, A, H0, nL⟩ := Γ
  obtain ⟨⟨hx, hb, hml, hown, hts⟩, hK, hE, hD, hA0, rfl, rfl, hfr, hlo, hkc, hks, rfl⟩ := C
  intro H locs ls hP hS hl
  exact lv_ladd hx hb hd (k H locs ls hP hS hl)
theorem a_lmul (C : CT ids ad ca Γ cc own l0 D0 fr lo nL0) {x y : Int64} (hd : decode cc pc = .ok (.lmul, 1)) (k : AW ids ad ca Γ (pc + 1) vs (.long (x * y) :: st) σ) : AW ids ad ca Γ pc vs (.long y :: .long x :: st) σ := by
  obtain ⟨p, l, e, R, s, m, args, below, meth, c, kc, ks, Q, D, A, H0, nL⟩ := Γ
  obtain ⟨⟨hx, hb, hml, hown, hts⟩, hK, hE, hD, hA0, rfl, rfl, hfr, hlo, hkc, hks, rfl⟩ := C
  intro H locs ls hP hS hl
  exact lv_lmul hx hb hd (k H locs ls hP hS hl)
theorem a_lcmp (C : CT ids ad ca Γ cc own l0 D0 fr lo nL0) {x y : Int64} (hd : decode cc pc = .ok (.lcmp, 1)) (k : AW ids ad ca Γ (pc + 1) vs (.int (lg_cmp x y) :: st) σ) : AW ids ad ca Γ pc vs (.long y :: .long x :: st) σ := by
  obtain ⟨p, l, e, R, s, m, args, below, meth, c, kc, ks, Q, D, A, H0, nL⟩ := Γ
  obtain ⟨⟨hx, hb, hml, hown, hts⟩, hK, hE, hD, hA0, rfl, rfl, hfr, hlo, hkc, hks, rfl⟩ := C
  intro H locs ls hP hS hl
  exact W.lcmp hx hb hd (k H locs ls hP hS hl)
theorem a_i2l (C : CT ids ad ca Γ cc own l0 D0 fr lo nL0) {x : Int32} (hd : decode cc pc = .ok (.i2l, 1)) (k : AW ids ad ca Γ (pc + 1) vs (.long (x.toInt64) :: st) σ) : AW ids ad ca Γ pc vs (.int x :: st) σ := by
  obtain ⟨p, l, e, R, s, m, args, below, meth, c, kc, ks, Q, D, A, H0, nL⟩ := Γ
  obtain ⟨⟨hx, hb, hml, hown, hts⟩, hK, hE, hD, hA0, rfl, rfl, hfr, hlo, hkc, hks, rfl⟩ := C
  intro H locs ls hP hS hl
  exact lv_i2l hx hb hd rfl (k H locs ls hP hS hl)
theorem a_l2i (C : CT ids ad ca Γ cc own l0 D0 fr lo nL0) {x : Int64} (hd : decode cc pc = .ok (.l2i, 1)) (k : AW ids ad ca Γ (pc + 1) vs (.int (x.toInt32) :: st) σ) : AW ids ad ca Γ pc vs (.long x :: st) σ := by
  obtain ⟨p, l, e, R, s, m, args, below, meth, c, kc, ks, Q, D, A, H0, nL⟩ := Γ
  obtain ⟨⟨hx, hb, hml, hown, hts⟩, hK, hE, hD, hA0, rfl, rfl, hfr, hlo, hkc, hks, rfl⟩ := C
  intro H locs ls hP hS hl
  exact lv_l2i hx hb hd rfl (k H locs ls hP hS hl)
theorem a_i2b (C : CT ids ad ca Γ cc own l0 D0 fr lo nL0) {x : Int32} (hd : decode cc pc = .ok (.i2b, 1)) (k : AW ids ad ca Γ (pc + 1) vs (.int (x.toInt8.toInt32) :: st) σ) : AW ids ad ca Γ pc vs (.int x :: st) σ := by
  obtain ⟨p, l, e, R, s, m, args, below, meth, c, kc, ks, Q, D, A, H0, nL⟩ := Γ
  obtain ⟨⟨hx, hb, hml, hown, hts⟩, hK, hE, hD, hA0, rfl, rfl, hfr, hlo, hkc, hks, rfl⟩ := C
  intro H locs ls hP hS hl
  exact lv_i2b hx hb hd rfl (k H locs ls hP hS hl)
theorem a_i2c (C : CT ids ad ca Γ cc own l0 D0 fr lo nL0) {x : Int32} (hd : decode cc pc = .ok (.i2c, 1)) (k : AW ids ad ca Γ (pc + 1) vs (.int ((x.toUInt32 % 65536).toInt32) :: st) σ) : AW ids ad ca Γ pc vs (.int x :: st) σ := by
  obtain ⟨p, l, e, R, s, m, args, below, meth, c, kc, ks, Q, D, A, H0, nL⟩ := Γ
  obtain ⟨⟨hx, hb, hml, hown, hts⟩, hK, hE, hD, hA0, rfl, rfl, hfr, hlo, hkc, hks, rfl⟩ := C
  intro H locs ls hP hS hl
  exact lv_i2c hx hb hd rfl (k H locs ls hP hS hl)
theorem a_dup (C : CT ids ad ca Γ cc own l0 D0 fr lo nL0) {v : Value} (hd : decode cc pc = .ok (.dup, 1)) (hv : v.category = 1) (k : AW ids ad ca Γ (pc + 1) vs (v :: v :: st) σ) : AW ids ad ca Γ pc vs (v :: st) σ := by
  obtain ⟨p, l, e, R, s, m, args, below, meth, c, kc, ks, Q, D, A, H0, nL⟩ := Γ
  obtain ⟨⟨hx, hb, hml, hown, hts⟩, hK, hE, hD, hA0, rfl, rfl, hfr, hlo, hkc, hks, rfl⟩ := C
  intro H locs ls hP hS hl
  exact lv_dup hx hb hd hv (k H locs ls hP hS hl)
theorem a_dup2 (C : CT ids ad ca Γ cc own l0 D0 fr lo nL0) {v w : Value} (hd : decode cc pc = .ok (.dup2, 1)) (hv : v.category = 1) (hw : w.category = 1) (k : AW ids ad ca Γ (pc + 1) vs (v :: w :: v :: w :: st) σ) : AW ids ad ca Γ pc vs (v :: w :: st) σ := by
  obtain ⟨p, l, e, R, s, m, args, below, meth, c, kc, ks, Q, D, A, H0, nL⟩ := Γ
  obtain ⟨⟨hx, hb, hml, hown, hts⟩, hK, hE, hD, hA0, rfl, rfl, hfr, hlo, hkc, hks, rfl⟩ := C
  intro H locs ls hP hS hl
  exact lv_dup2_11 hx hb hd hv hw (k H locs ls hP hS hl)
theorem a_pop (C : CT ids ad ca Γ cc own l0 D0 fr lo nL0) {v : Value} (hd : decode cc pc = .ok (.pop, 1)) (hv : v.category = 1) (k : AW ids ad ca Γ (pc + 1) vs st σ) : AW ids ad ca Γ pc vs (v :: st) σ := by
  obtain ⟨p, l, e, R, s, m, args, below, meth, c, kc, ks, Q, D, A, H0, nL⟩ := Γ
  obtain ⟨⟨hx, hb, hml, hown, hts⟩, hK, hE, hD, hA0, rfl, rfl, hfr, hlo, hkc, hks, rfl⟩ := C
  intro H locs ls hP hS hl
  exact lv_pop hx hb hd hv (k H locs ls hP hS hl)
theorem a_goto (C : CT ids ad ca Γ cc own l0 D0 fr lo nL0) {off : Int} {tgt : Nat} (hd : decode cc pc = .ok (.goto off, 3)) (ht : (pc : Int) + off = (tgt : Int)) (k : AW ids ad ca Γ tgt vs st σ) : AW ids ad ca Γ pc vs st σ := by
  obtain ⟨p, l, e, R, s, m, args, below, meth, c, kc, ks, Q, D, A, H0, nL⟩ := Γ
  obtain ⟨⟨hx, hb, hml, hown, hts⟩, hK, hE, hD, hA0, rfl, rfl, hfr, hlo, hkc, hks, rfl⟩ := C
  intro H locs ls hP hS hl
  exact lv_goto hx hb hd ht (k H locs ls hP hS hl)
theorem a_if_eq (C : CT ids ad ca Γ cc own l0 D0 fr lo nL0) {x : Int32} {off : Int} {tgt : Nat} (hd : decode cc pc = .ok (.ifCond .eq off, 3)) (ht : (pc : Int) + off = (tgt : Int)) (kt : x = 0 → AW ids ad ca Γ tgt vs st σ) (kf : ¬ x = 0 → AW ids ad ca Γ (pc + 3) vs st σ) : AW ids ad ca Γ pc vs (.int x :: st) σ := by
  obtain ⟨p, l, e, R, s, m, args, below, meth, c, kc, ks, Q, D, A, H0, nL⟩ := Γ
  obtain ⟨⟨hx, hb, hml, hown, hts⟩, hK, hE, hD, hA0, rfl, rfl, hfr, hlo, hkc, hks, rfl⟩ := C
  intro H locs ls hP hS hl
  exact lv_if_eq hx hb hd ht (fun h => kt h H locs ls hP hS hl) (fun h => kf h H locs ls hP hS hl)
theorem a_if_ne (C : CT ids ad ca Γ cc own l0 D0 fr lo nL0) {x : Int32} {off : Int} {tgt : Nat} (hd : decode cc pc = .ok (.ifCond .ne off, 3)) (ht : (pc : Int) + off = (tgt : Int)) (kt : ¬ x = 0 → AW ids ad ca Γ tgt vs st σ) (kf : x = 0 → AW ids ad ca Γ (pc + 3) vs st σ) : AW ids ad ca Γ pc vs (.int x :: st) σ := by
  obtain ⟨p, l, e, R, s, m, args, below, meth, c, kc, ks, Q, D, A, H0, nL⟩ := Γ
  obtain ⟨⟨hx, hb, hml, hown, hts⟩, hK, hE, hD, hA0, rfl, rfl, hfr, hlo, hkc, hks, rfl⟩ := C
  intro H locs ls hP hS hl
  exact lv_if_ne hx hb hd ht (fun h => kt h H locs ls hP hS hl) (fun h => kf h H locs ls hP hS hl)
theorem a_if_lt (C : CT ids ad ca Γ cc own l0 D0 fr lo nL0) {x : Int32} {off : Int} {tgt : Nat} (hd : decode cc pc = .ok (.ifCond .lt off, 3)) (ht : (pc : Int) + off = (tgt : Int)) (kt : x < 0 → AW ids ad ca Γ tgt vs st σ) (kf : ¬ x < 0 → AW ids ad ca Γ (pc + 3) vs st σ) : AW ids ad ca Γ pc vs (.int x :: st) σ := by
  obtain ⟨p, l, e, R, s, m, args, below, meth, c, kc, ks, Q, D, A, H0, nL⟩ := Γ
  obtain ⟨⟨hx, hb, hml, hown, hts⟩, hK, hE, hD, hA0, rfl, rfl, hfr, hlo, hkc, hks, rfl⟩ := C
  intro H locs ls hP hS hl
  exact lv_if_lt hx hb hd ht (fun h => kt h H locs ls hP hS hl) (fun h => kf h H locs ls hP hS hl)
theorem a_if_ge (C : CT ids ad ca Γ cc own l0 D0 fr lo nL0) {x : Int32} {off : Int} {tgt : Nat} (hd : decode cc pc = .ok (.ifCond .ge off, 3)) (ht : (pc : Int) + off = (tgt : Int)) (kt : 0 ≤ x → AW ids ad ca Γ tgt vs st σ) (kf : ¬ 0 ≤ x → AW ids ad ca Γ (pc + 3) vs st σ) : AW ids ad ca Γ pc vs (.int x :: st) σ := by
  obtain ⟨p, l, e, R, s, m, args, below, meth, c, kc, ks, Q, D, A, H0, nL⟩ := Γ
  obtain ⟨⟨hx, hb, hml, hown, hts⟩, hK, hE, hD, hA0, rfl, rfl, hfr, hlo, hkc, hks, rfl⟩ := C
  intro H locs ls hP hS hl
  exact lv_if_ge hx hb hd ht (fun h => kt h H locs ls hP hS hl) (fun h => kf h H locs ls hP hS hl)
theorem a_if_gt (C : CT ids ad ca Γ cc own l0 D0 fr lo nL0) {x : Int32} {off : Int} {tgt : Nat} (hd : decode cc pc = .ok (.ifCond .gt off, 3)) (ht : (pc : Int) + off = (tgt : Int)) (kt : 0 < x → AW ids ad ca Γ tgt vs st σ) (kf : ¬ 0 < x → AW ids ad ca Γ (pc + 3) vs st σ) : AW ids ad ca Γ pc vs (.int x :: st) σ := by
  obtain ⟨p, l, e, R, s, m, args, below, meth, c, kc, ks, Q, D, A, H0, nL⟩ := Γ
  obtain ⟨⟨hx, hb, hml, hown, hts⟩, hK, hE, hD, hA0, rfl, rfl, hfr, hlo, hkc, hks, rfl⟩ := C
  intro H locs ls hP hS hl
  exact lv_if_gt hx hb hd ht (fun h => kt h H locs ls hP hS hl) (fun h => kf h H locs ls hP hS hl)
theorem a_if_le (C : CT ids ad ca Γ cc own l0 D0 fr lo nL0) {x : Int32} {off : Int} {tgt : Nat} (hd : decode cc pc = .ok (.ifCond .le off, 3)) (ht : (pc : Int) + off = (tgt : Int)) (kt : x ≤ 0 → AW ids ad ca Γ tgt vs st σ) (kf : ¬ x ≤ 0 → AW ids ad ca Γ (pc + 3) vs st σ) : AW ids ad ca Γ pc vs (.int x :: st) σ := by
  obtain ⟨p, l, e, R, s, m, args, below, meth, c, kc, ks, Q, D, A, H0, nL⟩ := Γ
  obtain ⟨⟨hx, hb, hml, hown, hts⟩, hK, hE, hD, hA0, rfl, rfl, hfr, hlo, hkc, hks, rfl⟩ := C
  intro H locs ls hP hS hl
  exact lv_if_le hx hb hd ht (fun h => kt h H locs ls hP hS hl) (fun h => kf h H locs ls hP hS hl)
theorem a_ic_eq (C : CT ids ad ca Γ cc own l0 D0 fr lo nL0) {x y : Int32} {off : Int} {tgt : Nat} (hd : decode cc pc = .ok (.if_icmp .eq off, 3)) (ht : (pc : Int) + off = (tgt : Int)) (kt : x = y → AW ids ad ca Γ tgt vs st σ) (kf : ¬ x = y → AW ids ad ca Γ (pc + 3) vs st σ) : AW ids ad ca Γ pc vs (.int y :: .int x :: st) σ := by
  obtain ⟨p, l, e, R, s, m, args, below, meth, c, kc, ks, Q, D, A, H0, nL⟩ := Γ
  obtain ⟨⟨hx, hb, hml, hown, hts⟩, hK, hE, hD, hA0, rfl, rfl, hfr, hlo, hkc, hks, rfl⟩ := C
  intro H locs ls hP hS hl
  exact lv_icmp_eq hx hb hd ht (fun h => kt h H locs ls hP hS hl) (fun h => kf h H locs ls hP hS hl)
theorem a_ic_ne (C : CT ids ad ca Γ cc own l0 D0 fr lo nL0) {x y : Int32} {off : Int} {tgt : Nat} (hd : decode cc pc = .ok (.if_icmp .ne off, 3)) (ht : (pc : Int) + off = (tgt : Int)) (kt : ¬ x = y → AW ids ad ca Γ tgt vs st σ) (kf : x = y → AW ids ad ca Γ (pc + 3) vs st σ) : AW ids ad ca Γ pc vs (.int y :: .int x :: st) σ := by
  obtain ⟨p, l, e, R, s, m, args, below, meth, c, kc, ks, Q, D, A, H0, nL⟩ := Γ
  obtain ⟨⟨hx, hb, hml, hown, hts⟩, hK, hE, hD, hA0, rfl, rfl, hfr, hlo, hkc, hks, rfl⟩ := C
  intro H locs ls hP hS hl
  exact lv_icmp_ne hx hb hd ht (fun h => kt h H locs ls hP hS hl) (fun h => kf h H locs ls hP hS hl)
theorem a_ic_lt (C : CT ids ad ca Γ cc own l0 D0 fr lo nL0) {x y : Int32} {off : Int} {tgt : Nat} (hd : decode cc pc = .ok (.if_icmp .lt off, 3)) (ht : (pc : Int) + off = (tgt : Int)) (kt : x < y → AW ids ad ca Γ tgt vs st σ) (kf : ¬ x < y → AW ids ad ca Γ (pc + 3) vs st σ) : AW ids ad ca Γ pc vs (.int y :: .int x :: st) σ := by
  obtain ⟨p, l, e, R, s, m, args, below, meth, c, kc, ks, Q, D, A, H0, nL⟩ := Γ
  obtain ⟨⟨hx, hb, hml, hown, hts⟩, hK, hE, hD, hA0, rfl, rfl, hfr, hlo, hkc, hks, rfl⟩ := C
  intro H locs ls hP hS hl
  exact lv_icmp_lt hx hb hd ht (fun h => kt h H locs ls hP hS hl) (fun h => kf h H locs ls hP hS hl)
theorem a_ic_ge (C : CT ids ad ca Γ cc own l0 D0 fr lo nL0) {x y : Int32} {off : Int} {tgt : Nat} (hd : decode cc pc = .ok (.if_icmp .ge off, 3)) (ht : (pc : Int) + off = (tgt : Int)) (kt : y ≤ x → AW ids ad ca Γ tgt vs st σ) (kf : ¬ y ≤ x → AW ids ad ca Γ (pc + 3) vs st σ) : AW ids ad ca Γ pc vs (.int y :: .int x :: st) σ := by
  obtain ⟨p, l, e, R, s, m, args, below, meth, c, kc, ks, Q, D, A, H0, nL⟩ := Γ
  obtain ⟨⟨hx, hb, hml, hown, hts⟩, hK, hE, hD, hA0, rfl, rfl, hfr, hlo, hkc, hks, rfl⟩ := C
  intro H locs ls hP hS hl
  exact lv_icmp_ge hx hb hd ht (fun h => kt h H locs ls hP hS hl) (fun h => kf h H locs ls hP hS hl)
theorem a_ic_gt (C : CT ids ad ca Γ cc own l0 D0 fr lo nL0) {x y : Int32} {off : Int} {tgt : Nat} (hd : decode cc pc = .ok (.if_icmp .gt off, 3)) (ht : (pc : Int) + off = (tgt : Int)) (kt : y < x → AW ids ad ca Γ tgt vs st σ) (kf : ¬ y < x → AW ids ad ca Γ (pc + 3) vs st σ) : AW ids ad ca Γ pc vs (.int y :: .int x :: st) σ := by
  obtain ⟨p, l, e, R, s, m, args, below, meth, c, kc, ks, Q, D, A, H0, nL⟩ := Γ
  obtain ⟨⟨hx, hb, hml, hown, hts⟩, hK, hE, hD, hA0, rfl, rfl, hfr, hlo, hkc, hks, rfl⟩ := C
  intro H locs ls hP hS hl
  exact lv_icmp_gt hx hb hd ht (fun h => kt h H locs ls hP hS hl) (fun h => kf h H locs ls hP hS hl)
theorem a_ic_le (C : CT ids ad ca Γ cc own l0 D0 fr lo nL0) {x y : Int32} {off : Int} {tgt : Nat} (hd : decode cc pc = .ok (.if_icmp .le off, 3)) (ht : (pc : Int) + off = (tgt : Int)) (kt : x ≤ y → AW ids ad ca Γ tgt vs st σ) (kf : ¬ x ≤ y → AW ids ad ca Γ (pc + 3) vs st σ) : AW ids ad ca Γ pc vs (.int y :: .int x :: st) σ := by
  obtain ⟨p, l, e, R, s, m, args, below, meth, c, kc, ks, Q, D, A, H0, nL⟩ := Γ
  obtain ⟨⟨hx, hb, hml, hown, hts⟩, hK, hE, hD, hA0, rfl, rfl, hfr, hlo, hkc, hks, rfl⟩ := C
  intro H locs ls hP hS hl
  exact lv_icmp_le hx hb hd ht (fun h => kt h H locs ls hP hS hl) (fun h => kf h H locs ls hP hS hl)
theorem a_tableIn (C : CT ids ad ca Γ cc own l0 D0 fr lo nL0) {dflt lo9 hi9 : Int} {offs : Array Int} {len : Nat} {x : Int32} {off : Int} {tgt : Nat} (hd : decode cc pc = .ok (.tableswitch dflt lo9 hi9 offs, len)) (h1 : ¬ x.toInt < lo9) (h2 : ¬ hi9 < x.toInt) (ho : offs[(x.toInt - lo9).toNat]? = some off) (ht : (pc : Int) + off = (tgt : Int)) (k : AW ids ad ca Γ tgt vs st σ) : AW ids ad ca Γ pc vs (.int x :: st) σ := by
  obtain ⟨p, l, e, R, s, m, args, below, meth, c, kc, ks, Q, D, A, H0, nL⟩ := Γ
  obtain ⟨⟨hx, hb, hml, hown, hts⟩, hK, hE, hD, hA0, rfl, rfl, hfr, hlo, hkc, hks, rfl⟩ := C
  intro H locs ls hP hS hl
  exact lv_tableIn hx hb hd h1 h2 ho ht (k H locs ls hP hS hl)
theorem a_tableOut (C : CT ids ad ca Γ cc own l0 D0 fr lo nL0) {dflt lo9 hi9 : Int} {offs : Array Int} {len : Nat} {x : Int32} {tgt : Nat} (hd : decode cc pc = .ok (.tableswitch dflt lo9 hi9 offs, len)) (h : x.toInt < lo9 ∨ hi9 < x.toInt) (ht : (pc : Int) + dflt = (tgt : Int)) (k : AW ids ad ca Γ tgt vs st σ) : AW ids ad ca Γ pc vs (.int x :: st) σ := by
  obtain ⟨p, l, e, R, s, m, args, below, meth, c, kc, ks, Q, D, A, H0, nL⟩ := Γ
  obtain ⟨⟨hx, hb, hml, hown, hts⟩, hK, hE, hD, hA0, rfl, rfl, hfr, hlo, hkc, hks, rfl⟩ := C
  intro H locs ls hP hS hl
  exact lv_tableOut hx hb hd h ht (k H locs ls hP hS hl)
theorem a_lookup (C : CT ids ad ca Γ cc own l0 D0 fr lo nL0) {dflt : Int} {ps : Array (Int × Int)} {len : Nat} {x : Int32} {off : Int} {tgt : Nat} (hd : decode cc pc = .ok (.lookupswitch dflt ps, len)) (hp : (ps.toList.zip (ps.toList.drop 1)).all (fun (a, next) => a.1 < next.1) = true) (ho : Op.lookupswitch.offset ps.toList dflt x.toInt = off) (ht : (pc : Int) + off = (tgt : Int)) (k : AW ids ad ca Γ tgt vs st σ) : AW ids ad ca Γ pc vs (.int x :: st) σ := by
  obtain ⟨p, l, e, R, s, m, args, below, meth, c, kc, ks, Q, D, A, H0, nL⟩ := Γ
  obtain ⟨⟨hx, hb, hml, hown, hts⟩, hK, hE, hD, hA0, rfl, rfl, hfr, hlo, hkc, hks, rfl⟩ := C
  intro H locs ls hP hS hl
  exact lv_lookup hx hb hd hp ho ht (k H locs ls hP hS hl)
theorem a_mmax (C : CT ids ad ca Γ cc own l0 D0 fr lo nL0) {ix : Nat} {x y : Int32} (hd : decode cc pc = .ok (.invokestatic ix, 3)) (h1 : Cond.methodLink own ix Lib.Math.max.name ∈ gw_tbl) (h2 : Cond.static Lib.Math.max.name ∈ gw_tbl) (h3 : Cond.initialized "java/lang/Math" ∈ gw_tbl) (h4 : Cond.code Lib.Math.max.name Lib.Math.max.code 2 (some .int) ∈ gw_tbl) (h5 : 1 ≤ fr) (h6 : (st.map fun v => v.category).sum + 13 ≤ lo) (k : AW ids ad ca Γ (pc + 3) vs (.int (if x < y then y else x) :: st) σ) : AW ids ad ca Γ pc vs (.int y :: .int x :: st) σ := by
  obtain ⟨p, l, e, R, s, m, args, below, meth, c, kc, ks, Q, D, A, H0, nL⟩ := Γ
  obtain ⟨⟨hx, hb, hml, hown, hts⟩, hK, hE, hD, hA0, rfl, rfl, hfr, hlo, hkc, hks, rfl⟩ := C
  intro H locs ls hP hS hl
  exact va_mmax hx hb (hml.trans hl.1.symm) hown (hts _ h1) (hts _ h2) (hts _ h3) (hts _ h4) (Nat.le_trans h5 hfr) (Nat.le_trans h6 hlo) hkc hks hd (k H locs ls hP hS hl)
theorem a_mmin (C : CT ids ad ca Γ cc own l0 D0 fr lo nL0) {ix : Nat} {x y : Int32} (hd : decode cc pc = .ok (.invokestatic ix, 3)) (h1 : Cond.methodLink own ix Lib.Math.min.name ∈ gw_tbl) (h2 : Cond.static Lib.Math.min.name ∈ gw_tbl) (h3 : Cond.initialized "java/lang/Math" ∈ gw_tbl) (h4 : Cond.code Lib.Math.min.name Lib.Math.min.code 2 (some .int) ∈ gw_tbl) (h5 : 1 ≤ fr) (h6 : (st.map fun v => v.category).sum + 13 ≤ lo) (k : AW ids ad ca Γ (pc + 3) vs (.int (if y < x then y else x) :: st) σ) : AW ids ad ca Γ pc vs (.int y :: .int x :: st) σ := by
  obtain ⟨p, l, e, R, s, m, args, below, meth, c, kc, ks, Q, D, A, H0, nL⟩ := Γ
  obtain ⟨⟨hx, hb, hml, hown, hts⟩, hK, hE, hD, hA0, rfl, rfl, hfr, hlo, hkc, hks, rfl⟩ := C
  intro H locs ls hP hS hl
  exact va_mmin hx hb (hml.trans hl.1.symm) hown (hts _ h1) (hts _ h2) (hts _ h3) (hts _ h4) (Nat.le_trans h5 hfr) (Nat.le_trans h6 hlo) hkc hks hd (k H locs ls hP hS hl)
theorem a_iald (C : CT ids ad ca Γ cc own l0 D0 fr lo nL0) {i : Nat} {j : Int32} (jn : Nat) (hk : kd i = 20) (hi : i ∈ ids) (h0 : ¬ j < 0) (hj : j.toNatClampNeg = jn) (hn : jn < al i) (hd : decode cc pc = .ok (.iaload, 1)) {v : Int32} (hv : (σ.1 i jn) = v) (k : AW ids ad ca Γ (pc + 1) vs (.int v :: st) σ) : AW ids ad ca Γ pc vs (.int j :: .ref (ad i) :: st) σ := by
  obtain ⟨p, l, e, R, s, m, args, below, meth, c, kc, ks, Q, D, A, H0, nL⟩ := Γ
  obtain ⟨⟨hx, hb, hml, hown, hts⟩, hK, hE, hD, hA0, rfl, rfl, hfr, hlo, hkc, hks, rfl⟩ := C
  intro H locs ls hP hS hl
  obtain ⟨t, ht⟩ := tys_get (ca := ca) hi (by omega)
  obtain ⟨ip, hip, hg⟩ := mw_get (ad := ad) (ca := ca) hi
  have hg := hg σ
  rw [hk] at ht hg
  subst hj
  subst hv
  exact va_iald hx hb hK hP ip t hg ht (fun h => h.elim h0 (fun h => absurd h (by omega))) hd (k H locs ls hP hS hl)
theorem a_zald (C : CT ids ad ca Γ cc own l0 D0 fr lo nL0) {i : Nat} {j : Int32} (jn : Nat) (hk : kd i = 21) (hi : i ∈ ids) (h0 : ¬ j < 0) (hj : j.toNatClampNeg = jn) (hn : jn < al i) (hd : decode cc pc = .ok (.baload, 1)) {v : Int32} (hv : (σ.1 i jn) = v) (k : AW ids ad ca Γ (pc + 1) vs (.int v :: st) σ) : AW ids ad ca Γ pc vs (.int j :: .ref (ad i) :: st) σ := by
  obtain ⟨p, l, e, R, s, m, args, below, meth, c, kc, ks, Q, D, A, H0, nL⟩ := Γ
  obtain ⟨⟨hx, hb, hml, hown, hts⟩, hK, hE, hD, hA0, rfl, rfl, hfr, hlo, hkc, hks, rfl⟩ := C
  intro H locs ls hP hS hl
  obtain ⟨t, ht⟩ := tys_get (ca := ca) hi (by omega)
  obtain ⟨ip, hip, hg⟩ := mw_get (ad := ad) (ca := ca) hi
  have hg := hg σ
  rw [hk] at ht hg
  subst hj
  subst hv
  exact va_zald hx hb hK hP ip t hg ht (fun h => h.elim h0 (fun h => absurd h (by omega))) hd (k H locs ls hP hS hl)
theorem a_bald (C : CT ids ad ca Γ cc own l0 D0 fr lo nL0) {i : Nat} {j : Int32} (jn : Nat) (hk : kd i = 22) (hi : i ∈ ids) (h0 : ¬ j < 0) (hj : j.toNatClampNeg = jn) (hn : jn < al i) (hd : decode cc pc = .ok (.baload, 1)) {v : Int32} (hv : (σ.1 i jn) = v) (k : AW ids ad ca Γ (pc + 1) vs (.int v :: st) σ) : AW ids ad ca Γ pc vs (.int j :: .ref (ad i) :: st) σ := by
  obtain ⟨p, l, e, R, s, m, args, below, meth, c, kc, ks, Q, D, A, H0, nL⟩ := Γ
  obtain ⟨⟨hx, hb, hml, hown, hts⟩, hK, hE, hD, hA0, rfl, rfl, hfr, hlo, hkc, hks, rfl⟩ := C
  intro H locs ls hP hS hl
  obtain ⟨t, ht⟩ := tys_get (ca := ca) hi (by omega)
  obtain ⟨ip, hip, hg⟩ := mw_get (ad := ad) (ca := ca) hi
  have hg := hg σ
  rw [hk] at ht hg
  subst hj
  subst hv
  exact va_bald hx hb hK hP ip t hg ht (fun h => h.elim h0 (fun h => absurd h (by omega))) hd (k H locs ls hP hS hl)
theorem a_lald (C : CT ids ad ca Γ cc own l0 D0 fr lo nL0) {i : Nat} {j : Int32} (jn : Nat) (hk : kd i = 23) (hi : i ∈ ids) (h0 : ¬ j < 0) (hj : j.toNatClampNeg = jn) (hn : jn < al i) (hd : decode cc pc = .ok (.laload, 1)) {v : Int64} (hv : (σ.2.1 i jn) = v) (k : AW ids ad ca Γ (pc + 1) vs (.long v :: st) σ) : AW ids ad ca Γ pc vs (.int j :: .ref (ad i) :: st) σ := by
  obtain ⟨p, l, e, R, s, m, args, below, meth, c, kc, ks, Q, D, A, H0, nL⟩ := Γ
  obtain ⟨⟨hx, hb, hml, hown, hts⟩, hK, hE, hD, hA0, rfl, rfl, hfr, hlo, hkc, hks, rfl⟩ := C
  intro H locs ls hP hS hl
  obtain ⟨t, ht⟩ := tys_get (ca := ca) hi (by omega)
  obtain ⟨ip, hip, hg⟩ := mw_get (ad := ad) (ca := ca) hi
  have hg := hg σ
  rw [hk] at ht hg
  subst hj
  subst hv
  exact va_lald hx hb hK hP ip t hg ht (fun h => h.elim h0 (fun h => absurd h (by omega))) hd (k H locs ls hP hS hl)
theorem a_iast (C : CT ids ad ca Γ cc own l0 D0 fr lo nL0) {i : Nat} {j : Int32} {x : Int32} (jn : Nat) (hk : kd i = 20) (hi : i ∈ ids) (h0 : ¬ j < 0) (hj : j.toNatClampNeg = jn) (hn : jn < al i) (hd : decode cc pc = .ok (.iastore, 1)) (k : AW ids ad ca Γ (pc + 1) vs st (hI σ i jn x)) : AW ids ad ca Γ pc vs (.int x :: .int j :: .ref (ad i) :: st) σ := by
  obtain ⟨p, l, e, R, s, m, args, below, meth, c, kc, ks, Q, D, A, H0, nL⟩ := Γ
  obtain ⟨⟨hx, hb, hml, hown, hts⟩, hK, hE, hD, hA0, rfl, rfl, hfr, hlo, hkc, hks, rfl⟩ := C
  intro H locs ls hP hS hl
  obtain ⟨t, ht⟩ := tys_get (ca := ca) hi (by omega)
  obtain ⟨ip, hip, hg⟩ := mw_get (ad := ad) (ca := ca) hi
  have hg := hg σ
  rw [hk] at ht hg
  subst hj
  refine va_iast hx hb hK hP (hD σ) hS ip t hg ht (fun h => h.elim h0 (fun h => absurd h (by omega))) hd (fun H1 locs1 hP1 hD1 hS1 => ?_)
  rw [mw_setI (hD σ) hip (by rw [hk]; rfl)] at hP1
  exact k H1 locs1 ls hP1 hS1 hl
theorem a_zast (C : CT ids ad ca Γ cc own l0 D0 fr lo nL0) {i : Nat} {j : Int32} {x : Int32} (jn : Nat) (hw : vp_nar .boolean x = x) (hk : kd i = 21) (hi : i ∈ ids) (h0 : ¬ j < 0) (hj : j.toNatClampNeg = jn) (hn : jn < al i) (hd : decode cc pc = .ok (.bastore, 1)) (k : AW ids ad ca Γ (pc + 1) vs st (hI σ i jn x)) : AW ids ad ca Γ pc vs (.int x :: .int j :: .ref (ad i) :: st) σ := by
  obtain ⟨p, l, e, R, s, m, args, below, meth, c, kc, ks, Q, D, A, H0, nL⟩ := Γ
  obtain ⟨⟨hx, hb, hml, hown, hts⟩, hK, hE, hD, hA0, rfl, rfl, hfr, hlo, hkc, hks, rfl⟩ := C
  intro H locs ls hP hS hl
  obtain ⟨t, ht⟩ := tys_get (ca := ca) hi (by omega)
  obtain ⟨ip, hip, hg⟩ := mw_get (ad := ad) (ca := ca) hi
  have hg := hg σ
  rw [hk] at ht hg
  subst hj
  refine va_zast hx hb hK hP (hD σ) hS ip t hg ht (fun h => h.elim h0 (fun h => absurd h (by omega))) hd (fun H1 locs1 hP1 hD1 hS1 => ?_)
  rw [mw_setI (hD σ) hip (by rw [hk]; rw [hw]; rfl)] at hP1
  exact k H1 locs1 ls hP1 hS1 hl
theorem a_last (C : CT ids ad ca Γ cc own l0 D0 fr lo nL0) {i : Nat} {j : Int32} {x : Int64} (jn : Nat) (hk : kd i = 23) (hi : i ∈ ids) (h0 : ¬ j < 0) (hj : j.toNatClampNeg = jn) (hn : jn < al i) (hd : decode cc pc = .ok (.lastore, 1)) (k : AW ids ad ca Γ (pc + 1) vs st (hL σ i jn x)) : AW ids ad ca Γ pc vs (.long x :: .int j :: .ref (ad i) :: st) σ := by
  obtain ⟨p, l, e, R, s, m, args, below, meth, c, kc, ks, Q, D, A, H0, nL⟩ := Γ
  obtain ⟨⟨hx, hb, hml, hown, hts⟩, hK, hE, hD, hA0, rfl, rfl, hfr, hlo, hkc, hks, rfl⟩ := C
  intro H locs ls hP hS hl
  obtain ⟨t, ht⟩ := tys_get (ca := ca) hi (by omega)
  obtain ⟨ip, hip, hg⟩ := mw_get (ad := ad) (ca := ca) hi
  have hg := hg σ
  rw [hk] at ht hg
  subst hj
  refine va_last hx hb hK hP (hD σ) hS ip t hg ht (fun h => h.elim h0 (fun h => absurd h (by omega))) hd (fun H1 locs1 hP1 hD1 hS1 => ?_)
  rw [mw_setL (hD σ) hip (by rw [hk]; rfl)] at hP1
  exact k H1 locs1 ls hP1 hS1 hl
theorem a_alen (C : CT ids ad ca Γ cc own l0 D0 fr lo nL0) {i : Nat} {v : Int32} (h12 : 12 ≤ kd i) (hi : i ∈ ids) (hv : Int32.ofNat (al i) = v) (hd : decode cc pc = .ok (.arraylength, 1)) (k : AW ids ad ca Γ (pc + 1) vs (.int v :: st) σ) : AW ids ad ca Γ pc vs (.ref (ad i) :: st) σ := by
  obtain ⟨p, l, e, R, s, m, args, below, meth, c, kc, ks, Q, D, A, H0, nL⟩ := Γ
  obtain ⟨⟨hx, hb, hml, hown, hts⟩, hK, hE, hD, hA0, rfl, rfl, hfr, hlo, hkc, hks, rfl⟩ := C
  intro H locs ls hP hS hl
  obtain ⟨t, ht⟩ := tys_get (ca := ca) hi h12
  obtain ⟨ip, hip, hg⟩ := mw_get (ad := ad) (ca := ca) hi
  have hg := hg σ
  have hc : ∃ x : vp_A, ceK ad ca (kd i) i (σ.1 i) (σ.2.1 i) σ.2.2 = .inl (ca i, x) ∧ x.1 = al i := by
    unfold ceK
    rw [if_neg (by omega)]
    split
    · exact ⟨_, rfl, rfl⟩
    · split
      · exact ⟨_, rfl, rfl⟩
      · exact ⟨_, rfl, rfl⟩
  obtain ⟨x, e1, e2⟩ := hc
  rw [e1] at hg
  exact va_alen hx hb hK hP ip t hg ht (by rw [e2]; exact hv) hd (k H locs ls hP hS hl)
theorem a_aald (C : CT ids ad ca Γ cc own l0 D0 fr lo nL0) {i : Nat} {j : Int32} {y : Nat} (jn : Nat) (hk : kd i = 24 ∨ kd i = 25) (hi : i ∈ ids) (h0 : ¬ j < 0) (hj : j.toNatClampNeg = jn) (hn : jn < al i) (hy : rfK ad (kd i) i jn = some (ad y)) (hd : decode cc pc = .ok (.aaload, 1)) (k : AW ids ad ca Γ (pc + 1) vs (.ref (ad y) :: st) σ) : AW ids ad ca Γ pc vs (.int j :: .ref (ad i) :: st) σ := by
  obtain ⟨p, l, e, R, s, m, args, below, meth, c, kc, ks, Q, D, A, H0, nL⟩ := Γ
  obtain ⟨⟨hx, hb, hml, hown, hts⟩, hK, hE, hD, hA0, rfl, rfl, hfr, hlo, hkc, hks, rfl⟩ := C
  intro H locs ls hP hS hl
  obtain ⟨t, ht⟩ := tys_get (ca := ca) hi (by omega)
  obtain ⟨ip, hip, hg⟩ := mw_get (ad := ad) (ca := ca) hi
  have hg := hg σ
  have hty : aty (kd i) = .object RX0 := by rcases hk with h | h <;> rw [h] <;> rfl
  have hce : ceK ad ca (kd i) i (σ.1 i) (σ.2.1 i) σ.2.2 = .inl (ca i, al i, .inr (.inr (.inr (.inr (rfK ad (kd i) i))))) := by rcases hk with h | h <;> rw [h] <;> rfl
  rw [hty] at ht
  rw [hce] at hg
  subst hj
  refine va_aldq hx hb hK hP ip t hg ht (fun h => h.elim h0 (fun h => absurd h (by omega))) hd ?_
  rw [hy]
  exact k H locs ls hP hS hl
theorem ceK_ob {n i : Nat} {g : Nat → Int32} {gl : Nat → Int64} {tx : Nat → Nat} (h : n < 12) : ceK ad ca n i g gl tx = .inr (n, fsK ad n i g tx) := by
  unfold ceK
  rw [if_pos h]
theorem a_get (C : CT ids ad ca Γ cc own l0 D0 fr lo nL0) {i n q ix : Nat} {v : Value} (F : FL own ix n q) (hk : kd i = n) (hi : i ∈ ids) (hv : (fsK ad n i (σ.1 i) σ.2.2)[q]? = some v) (hd : decode cc pc = .ok (.getfield ix, 3)) (k : AW ids ad ca Γ (pc + 3) vs (v :: st) σ) : AW ids ad ca Γ pc vs (.ref (ad i) :: st) σ := by
  obtain ⟨p, l, e, R, s, m, args, below, meth, c, kc, ks, Q, D, A, H0, nL⟩ := Γ
  obtain ⟨⟨hx, hb, hml, hown, hts⟩, hK, hE, hD, hA0, rfl, rfl, hfr, hlo, hkc, hks, rfl⟩ := C
  intro H locs ls hP hS hl
  obtain ⟨Cn, T, N, hc, hq, h12, hw, hin⟩ := F
  obtain ⟨ip, hip, hg⟩ := mw_get (ad := ad) (ca := ca) hi
  have hg := hg σ
  rw [hk, ceK_ob h12] at hg
  exact va_get hx hb hts hin hown hK hP ip hg hc q hq (hts _ hw) (fun _ h => h) hv hd (k H locs ls hP hS hl)
theorem a_put (C : CT ids ad ca Γ cc own l0 D0 fr lo nL0) {i n q ix : Nat} {ty : FieldType} {v : Int32} (F : FP own ix n q ty) (hk : kd i = n) (hi : i ∈ ids) (hn : narrow ty (.int v) = .int v) (hf : fits ty (.int v) = true) (hd : decode cc pc = .ok (.putfield ix, 3)) (k : AW ids ad ca Γ (pc + 3) vs st (hI σ i q v)) : AW ids ad ca Γ pc vs (.int v :: .ref (ad i) :: st) σ := by
  obtain ⟨p, l, e, R, s, m, args, below, meth, c, kc, ks, Q, D, A, H0, nL⟩ := Γ
  obtain ⟨⟨hx, hb, hml, hown, hts⟩, hK, hE, hD, hA0, rfl, rfl, hfr, hlo, hkc, hks, rfl⟩ := C
  intro H locs ls hP hS hl
  obtain ⟨Cn, T, N, ty0, ⟨hc, hq, h12, hw, hin⟩, hty, hnm, hfin, hdd, hset⟩ := F
  obtain ⟨ip, hip, hg⟩ := mw_get (ad := ad) (ca := ca) hi
  have hg := hg σ
  rw [hk, ceK_ob h12] at hg
  refine va_put hx hb hts hin ty0 hty hnm hown hK hP (hD σ) hS ip hg hc q hq (hts _ hw) (fun _ h => h) hfin hdd hn hf (hset ad i (σ.1 i) σ.2.2 v).2 hd (fun H1 locs1 hP1 hD1 hS1 => ?_)
  rw [mw_setI (hD σ) hip (by rw [hk, ceK_ob h12, (hset ad i (σ.1 i) σ.2.2 v).1])] at hP1
  exact k H1 locs1 ls hP1 hS1 hl
theorem a_copyi (C : CT ids ad ca Γ cc own l0 D0 fr lo nL0) {ix i0 i1 : Nat} {sp dp n : Int32} (a b z : Nat) (h1 : Cond.methodLink own ix arraycopyName ∈ gw_tbl) (h2 : Cond.native arraycopyName ∈ gw_tbl) (h3 : Cond.static arraycopyName ∈ gw_tbl) (h4 : Cond.initialized "java/lang/System" ∈ gw_tbl) (hk0 : kd i0 = 20) (hi0 : i0 ∈ ids) (hk1 : kd i1 = 20) (hi1 : i1 ∈ ids) (g1 : ¬ sp < 0) (g2 : ¬ dp < 0) (g3 : ¬ n < 0) (ea : sp.toNatClampNeg = a) (eb : dp.toNatClampNeg = b) (ez : n.toNatClampNeg = z) (g4 : a + z ≤ al i0) (g5 : b + z ≤ al i1) (h5 : 1 ≤ fr) (h6 : (st.map fun v => v.category).sum + (nativeFrameWords "java/lang/System" "arraycopy" 5 + 11) ≤ lo) (hd : decode cc pc = .ok (.invokestatic ix, 3)) (k : AW ids ad ca Γ (pc + 3) vs st (hA σ i1 (va_cpy (σ.1 i0) (σ.1 i1) a b z))) : AW ids ad ca Γ pc vs (.int n :: .int dp :: .ref (ad i1) :: .int sp :: .ref (ad i0) :: st) σ := by
  obtain ⟨p, l, e, R, s, m, args, below, meth, c, kc, ks, Q, D, A, H0, nL⟩ := Γ
  obtain ⟨⟨hx, hb, hml, hown, hts⟩, hK, hE, hD, hA0, rfl, rfl, hfr, hlo, hkc, hks, rfl⟩ := C
  intro H locs ls hP hS hl
  obtain ⟨t0, ht0⟩ := tys_get (ca := ca) hi0 (by omega)
  obtain ⟨t1, ht1⟩ := tys_get (ca := ca) hi1 (by omega)
  obtain ⟨ip0, hip0, hg0⟩ := mw_get (ad := ad) (ca := ca) hi0
  have hg0 := hg0 σ
  obtain ⟨ip1, hip1, hg1⟩ := mw_get (ad := ad) (ca := ca) hi1
  have hg1 := hg1 σ
  rw [hk0] at ht0 hg0
  rw [hk1] at ht1 hg1
  subst ea eb ez
  refine va_copyi hx hb (hml.trans hl.1.symm) hown (hts _ h1) (hts _ h2) (hts _ h3) (hts _ h4) hK hP (hD σ) hS ip0 ip1 t0 t1 hg0 hg1 ht0 ht1 rfl g1 g2 g3 g4 g5 (fun _ _ => rfl) (Nat.le_trans h5 hfr) (Nat.le_trans h6 hlo) hd (fun H1 locs1 hP1 hD1 hS1 => ?_)
  rw [mw_setA (hD σ) hip1 (by rw [hk1]; rfl)] at hP1
  exact k H1 locs1 ls hP1 hS1 hl
theorem kd_sj : ∀ j : Nat, kd j = 10 → j = 0 := by
  have h : ∀ j, j < NN → kd j = 10 → j = 0 := by decide +kernel
  have hl : kdL.length = 277 := by decide +kernel
  intro j hj
  by_cases hlt : j < NN
  · exact h j hlt hj
  · have h2 : kd j = 99 := by
      unfold kd
      rw [List.getD_eq_getElem?_getD, List.getElem?_eq_none (by rw [hl]; exact Nat.not_lt.mp hlt)]
      rfl
    omega
theorem fsK_tx {n i : Nat} {g : Nat → Int32} {tx tx1 : Nat → Nat} (h : n ≠ 10) : fsK ad n i g tx = fsK ad n i g tx1 := by
  unfold fsK
  split <;> first | rfl | exact absurd rfl h
def FPR (own : String) (ix q kk : Nat) : Prop := ∃ (Cn : String) (T : u_T) (N : Nat) (ty0 : Nat → FieldType) (ty : FieldType), (vwCl[10]? = some (Cn, T, N) ∧ q < N ∧ Cond.fieldLink own ix (T q).1 (T q).2.1 (T q).2.2.1 ∈ gw_tbl ∧ (∀ w ∈ u_ws Cn T N, w ∈ gw_tbl)) ∧ (∀ k, k < N → parseFieldDescriptor (T k).2.2.1 = some (ty0 k)) ∧ (∀ a, a < N → ∀ b, b < N → a ≠ b → (T a).2.1 ≠ (T b).2.1) ∧ (T q).2.2.2 = false ∧ parseFieldDescriptor (T q).2.2.1 = some ty ∧ (∀ v : Nat, narrow ty (.ref v) = .ref v ∧ fits ty (.ref v) = true) ∧ (∀ (ad : Nat → Nat) (i : Nat) (g : Nat → Int32) (tx : Nat → Nat) (v : Nat), fsK ad 10 i g (va_up tx kk v) = (fsK ad 10 i g tx).set q (.ref (ad v)) ∧ q < (fsK ad 10 i g tx).length)
theorem a_putR (C : CT ids ad ca Γ cc own l0 D0 fr lo nL0) (hi : 0 ∈ ids) {q kk ix v : Nat} (F : FPR own ix q kk) (hd : decode cc pc = .ok (.putfield ix, 3)) (k : AW ids ad ca Γ (pc + 3) vs st (hR σ kk v)) : AW ids ad ca Γ pc vs (.ref (ad v) :: .ref (ad 0) :: st) σ := by
  obtain ⟨p, l, e, R, s, m, args, below, meth, c, kc, ks, Q, D, A, H0, nL⟩ := Γ
  obtain ⟨⟨hx, hb, hml, hown, hts⟩, hK, hE, hD, hA0, rfl, rfl, hfr, hlo, hkc, hks, rfl⟩ := C
  intro H locs ls hP hS hl
  obtain ⟨Cn, T, N, ty0, ty, ⟨hc, hq, hw, hin⟩, hty, hnm, hfin, hdd, hnf, hset⟩ := F
  have hk : kd 0 = 10 := by decide
  obtain ⟨ip, hip, hg⟩ := mw_get (ad := ad) (ca := ca) hi
  have hg := hg σ
  rw [hk, ceK_ob (by decide)] at hg
  refine va_put hx hb hts hin ty0 hty hnm hown hK hP (hD σ) hS ip hg hc q hq (hts _ hw) (fun _ h => h) hfin hdd (hnf (ad v)).1 (hnf (ad v)).2 (hset ad 0 (σ.1 0) σ.2.2 v).2 hd (fun H1 locs1 hP1 hD1 hS1 => ?_)
  have e : (mw ids ad ca σ).set ip (ad 0, .inr (10, (fsK ad 10 0 (σ.1 0) σ.2.2).set q (.ref (ad v)))) = mw ids ad ca (hR σ kk v) := by
    refine mw_set (hD σ) hip ?_ ?_
    · rw [hk, ceK_ob (by decide)]
      exact congrArg (fun z => (Sum.inr (10, z) : va_E)) (hset ad 0 (σ.1 0) σ.2.2 v).1
    · intro j hj
      have hj2 : kd j ≠ 10 := fun h => hj (kd_sj j h)
      show ceK ad ca (kd j) j (σ.1 j) (σ.2.1 j) (va_up σ.2.2 kk v) = ceK ad ca (kd j) j (σ.1 j) (σ.2.1 j) σ.2.2
      unfold ceK
      rw [fsK_tx (tx1 := σ.2.2) hj2]
  rw [e] at hP1
  exact k H1 locs1 ls hP1 hS1 hl
theorem fpr_82 : FPR RX11 82 13 0 := ⟨RX11, TX11, 15, tyX11, .object RX10, ⟨rfl, by decide, gwm 473 (by decide +kernel) rfl, uw_10⟩, tyX11_ok, nmX11, rfl, by decide +kernel, fun _ => ⟨rfl, rfl⟩, fun _ _ _ _ _ => ⟨rfl, by show 13 < 15; decide⟩⟩
theorem fpr_86 : FPR RX11 86 14 1 := ⟨RX11, TX11, 15, tyX11, .object RX10, ⟨rfl, by decide, gwm 474 (by decide +kernel) rfl, uw_10⟩, tyX11_ok, nmX11, rfl, by decide +kernel, fun _ => ⟨rfl, rfl⟩, fun _ _ _ _ _ => ⟨rfl, by show 14 < 15; decide⟩⟩
end AWR
/-! contracts over the world, and calls -/
theorem lw_goodIn {ws : List Cond} (h : ∀ w ∈ ws, w ∈ gw_tbl) : GoodIn gw_tbl ws := fun w hw => ⟨h w hw, good_of_word (List.mem_filter.mp (h w hw)).2⟩
def KPre (D : va_G) (ids : List Nat) (ad : Nat → Nat) (ca : Nat → ClassId) (σ : HS) (sz : Nat) (U : State) : Prop := U.heap.size = sz ∧ va_P D vwCl (mw ids ad ca σ) U.heap ∧ va_K D vwCl (tys ids ca) U ∧ va_D (fun _ => True) (mw ids ad ca σ) ∧ EN U
def KAt (D : va_G) (ids : List Nat) (ad : Nat → Nat) (ca : Nat → ClassId) (A : Nat → Prop) (σ : HS) (t : State) : Prop := va_P D vwCl (mw ids ad ca σ) t.heap ∧ va_K D vwCl (tys ids ca) t ∧ va_D A (mw ids ad ca σ)
/-- y, called with av in the world σ, answers r and leaves a world, as post says -/
def Ki (l : Launch) (D : va_G) (ids : List Nat) (ad : Nat → Nat) (ca : Nat → ClassId) (y : MethodName) (cc : ByteArray) (nL : Nat) (ty : FieldType) (fr lo : Nat) (av : List Value) (σ : HS) (post : Int32 → HS → Prop) : Prop :=
  ∀ sz : Nat, Met l y (.code y cc nL (some ty) :: gw_tbl) { frames := fr, cells := 0, slots := 0, locals := lo } (va_Pc av (KPre D ids ad ca σ sz)) (va_Qi post (KAt D ids ad ca (va_A (mw ids ad ca σ) sz)) (va_A (mw ids ad ca σ) sz)) 0 0 (va_A (mw ids ad ca σ) sz)
def Kv (l : Launch) (D : va_G) (ids : List Nat) (ad : Nat → Nat) (ca : Nat → ClassId) (y : MethodName) (cc : ByteArray) (nL : Nat) (fr lo : Nat) (av : List Value) (σ : HS) (post : HS → Prop) : Prop :=
  ∀ sz : Nat, Met l y (.code y cc nL none :: gw_tbl) { frames := fr, cells := 0, slots := 0, locals := lo } (va_Pc av (KPre D ids ad ca σ sz)) (va_Qv post (KAt D ids ad ca (va_A (mw ids ad ca σ) sz)) (va_A (mw ids ad ca σ) sz)) 0 0 (va_A (mw ids ad ca σ) sz)
def Kl (l : Launch) (D : va_G) (ids : List Nat) (ad : Nat → Nat) (ca : Nat → ClassId) (y : MethodName) (cc : ByteArray) (nL : Nat) (fr lo : Nat) (av : List Value) (σ : HS) (post : Int64 → HS → Prop) : Prop :=
  ∀ sz : Nat, Met l y (.code y cc nL (some .long) :: gw_tbl) { frames := fr, cells := 0, slots := 0, locals := lo } (va_Pc av (KPre D ids ad ca σ sz)) (va_Ql post (KAt D ids ad ca (va_A (mw ids ad ca σ) sz)) (va_A (mw ids ad ca σ) sz)) 0 0 (va_A (mw ids ad ca σ) sz)
def RI (ids : List Nat) (ad : Nat → Nat) (ca : Nat → ClassId) (Γ : GT) (cc : ByteArray) (ty : FieldType) (post : Int32 → HS → Prop) : Prop := match Γ with
  | (p, l, e, R, s, m, args, below, meth, c, kc, ks, Q, D, A, H0, nL) => ∀ (H : Heap) (locs : List Loc) (ls : Array Slot) (pc : Nat) (σ : HS) (v : Int32), va_P D vwCl (mw ids ad ca σ) H → va_S A H0 H locs → post v σ → decode cc pc = .ok (.ireturn, 1) → narrow ty (.int v) = .int v → W p l e R s m args below meth c H locs kc ks Q (F0 m pc ls [.int v])
def RV (ids : List Nat) (ad : Nat → Nat) (ca : Nat → ClassId) (Γ : GT) (cc : ByteArray) (post : HS → Prop) : Prop := match Γ with
  | (p, l, e, R, s, m, args, below, meth, c, kc, ks, Q, D, A, H0, nL) => ∀ (H : Heap) (locs : List Loc) (ls : Array Slot) (pc : Nat) (σ : HS), va_P D vwCl (mw ids ad ca σ) H → va_S A H0 H locs → post σ → decode cc pc = .ok (.return_, 1) → W p l e R s m args below meth c H locs kc ks Q (F0 m pc ls [])
def RL_ (ids : List Nat) (ad : Nat → Nat) (ca : Nat → ClassId) (Γ : GT) (cc : ByteArray) (post : Int64 → HS → Prop) : Prop := match Γ with
  | (p, l, e, R, s, m, args, below, meth, c, kc, ks, Q, D, A, H0, nL) => ∀ (H : Heap) (locs : List Loc) (ls : Array Slot) (pc : Nat) (σ : HS) (v : Int64), va_P D vwCl (mw ids ad ca σ) H → va_S A H0 H locs → post v σ → decode cc pc = .ok (.lreturn, 1) → W p l e R s m args below meth c H locs kc ks Q (F0 m pc ls [.long v])
section KR
variable {l : Launch} {D : va_G} {ids : List Nat} {ad : Nat → Nat} {ca : Nat → ClassId} {y : MethodName} {cc : ByteArray} {nL fr lo : Nat} {ty : FieldType} {av : List Value} {σ : HS}
theorem Ki.of {post : Int32 → HS → Prop} (hy : plainName y.cls = true) (hL : (lg_sl av).length ≤ nL) (z : Nat)
    (body : ∀ Γ : GT, CT ids ad ca Γ cc y.cls l D fr lo nL → RI ids ad ca Γ cc ty post → AW ids ad ca Γ 0 (entL av ++ List.replicate z none) [] σ) : Ki l D ids ad ca y cc nL ty fr lo av σ post := by
  intro sz
  refine Met.ofW (cc := cc) (maxL := nL) (ret := some ty) hy rfl ?_
  intro p e s m args below meth c s₁ B hml hv
  obtain ⟨rfl, hsz, hP, hK, hD0, hE⟩ := hv
  have hts := atoms_spec (ws := (.code y cc nL (some ty) :: gw_tbl)) B.pre
  subst hsz
  have hD := hD0.self (sz := s.heap.size)
  rw [lg_entry_eq]
  refine body (p, l, e, { frames := fr, cells := 0, slots := 0, locals := lo }, s, m, av.toArray, below, meth, c, 0, 0, _, D, va_A (mw ids ad ca σ) s.heap.size, s.heap, nL) ⟨⟨B.exec, B.bytes, hml, findClass_of_methodNamed B.named, fun w h => hts w (List.mem_cons_of_mem _ h)⟩, hK, hE, fun σ' => mw_D hD σ', fun q h => Or.inr h, rfl, rfl, Nat.le_refl _, Nat.le_refl _, Nat.le_refl _, Nat.le_refl _, rfl⟩ ?_ s.heap [] _ hP va_S.rf (LV.entry av hL z)
  intro H locs ls pc σ' v hP' hS hp hd hn
  exact W.zret B.exec B.bytes B.returns hn (fun t ht hW => ⟨⟨v, σ', rfl, hp, by rw [ht]; exact hP', va_K.moved hW.alike hK, mw_D hD σ'⟩, hS.F ht⟩) hS.2.2 hd B.notSynchronized
theorem Kv.of {post : HS → Prop} (hy : plainName y.cls = true) (hL : (lg_sl av).length ≤ nL) (z : Nat)
    (body : ∀ Γ : GT, CT ids ad ca Γ cc y.cls l D fr lo nL → RV ids ad ca Γ cc post → AW ids ad ca Γ 0 (entL av ++ List.replicate z none) [] σ) : Kv l D ids ad ca y cc nL fr lo av σ post := by
  intro sz
  refine Met.ofW (cc := cc) (maxL := nL) (ret := none) hy rfl ?_
  intro p e s m args below meth c s₁ B hml hv
  obtain ⟨rfl, hsz, hP, hK, hD0, hE⟩ := hv
  have hts := atoms_spec (ws := (.code y cc nL none :: gw_tbl)) B.pre
  subst hsz
  have hD := hD0.self (sz := s.heap.size)
  rw [lg_entry_eq]
  refine body (p, l, e, { frames := fr, cells := 0, slots := 0, locals := lo }, s, m, av.toArray, below, meth, c, 0, 0, _, D, va_A (mw ids ad ca σ) s.heap.size, s.heap, nL) ⟨⟨B.exec, B.bytes, hml, findClass_of_methodNamed B.named, fun w h => hts w (List.mem_cons_of_mem _ h)⟩, hK, hE, fun σ' => mw_D hD σ', fun q h => Or.inr h, rfl, rfl, Nat.le_refl _, Nat.le_refl _, Nat.le_refl _, Nat.le_refl _, rfl⟩ ?_ s.heap [] _ hP va_S.rf (LV.entry av hL z)
  intro H locs ls pc σ' hP' hS hp hd
  exact W.vret B.exec B.bytes B.returns (fun t ht hW => ⟨⟨σ', rfl, hp, by rw [ht]; exact hP', va_K.moved hW.alike hK, mw_D hD σ'⟩, hS.F ht⟩) hS.2.2 hd B.notSynchronized
theorem Kl.of {post : Int64 → HS → Prop} (hy : plainName y.cls = true) (hL : (lg_sl av).length ≤ nL) (z : Nat)
    (body : ∀ Γ : GT, CT ids ad ca Γ cc y.cls l D fr lo nL → RL_ ids ad ca Γ cc post → AW ids ad ca Γ 0 (entL av ++ List.replicate z none) [] σ) : Kl l D ids ad ca y cc nL fr lo av σ post := by
  intro sz
  refine Met.ofW (cc := cc) (maxL := nL) (ret := some .long) hy rfl ?_
  intro p e s m args below meth c s₁ B hml hv
  obtain ⟨rfl, hsz, hP, hK, hD0, hE⟩ := hv
  have hts := atoms_spec (ws := (.code y cc nL (some .long) :: gw_tbl)) B.pre
  subst hsz
  have hD := hD0.self (sz := s.heap.size)
  rw [lg_entry_eq]
  refine body (p, l, e, { frames := fr, cells := 0, slots := 0, locals := lo }, s, m, av.toArray, below, meth, c, 0, 0, _, D, va_A (mw ids ad ca σ) s.heap.size, s.heap, nL) ⟨⟨B.exec, B.bytes, hml, findClass_of_methodNamed B.named, fun w h => hts w (List.mem_cons_of_mem _ h)⟩, hK, hE, fun σ' => mw_D hD σ', fun q h => Or.inr h, rfl, rfl, Nat.le_refl _, Nat.le_refl _, Nat.le_refl _, Nat.le_refl _, rfl⟩ ?_ s.heap [] _ hP va_S.rf (LV.entry av hL z)
  intro H locs ls pc σ' v hP' hS hp hd
  exact W.lret B.exec B.bytes B.returns (fun t ht hW => ⟨⟨v, σ', rfl, hp, by rw [ht]; exact hP', va_K.moved hW.alike hK, mw_D hD σ'⟩, hS.F ht⟩) hS.2.2 hd B.notSynchronized
end KR
section RETR
variable {ids : List Nat} {ad : Nat → Nat} {ca : Nat → ClassId} {Γ : GT} {cc : ByteArray} {own : String} {l0 : Launch} {D0 : va_G} {fr lo nL0 : Nat} {pc : Nat} {vs : List (Option Value)} {st : List Value} {σ : HS}
theorem a_iret {ty : FieldType} {post : Int32 → HS → Prop} {v : Int32} (Rt : RI ids ad ca Γ cc ty post) (hd : decode cc pc = .ok (.ireturn, 1)) (hn : narrow ty (.int v) = .int v) (hp : post v σ) : AW ids ad ca Γ pc vs [.int v] σ := by
  obtain ⟨p, l, e, R, s, m, args, below, meth, c, kc, ks, Q, D, A, H0, nL⟩ := Γ
  intro H locs ls hP hS hl
  exact Rt H locs ls pc σ v hP hS hp hd hn
theorem a_vret {post : HS → Prop} (Rt : RV ids ad ca Γ cc post) (hd : decode cc pc = .ok (.return_, 1)) (hp : post σ) : AW ids ad ca Γ pc vs [] σ := by
  obtain ⟨p, l, e, R, s, m, args, below, meth, c, kc, ks, Q, D, A, H0, nL⟩ := Γ
  intro H locs ls hP hS hl
  exact Rt H locs ls pc σ hP hS hp hd
theorem a_lret {post : Int64 → HS → Prop} {v : Int64} (Rt : RL_ ids ad ca Γ cc post) (hd : decode cc pc = .ok (.lreturn, 1)) (hp : post v σ) : AW ids ad ca Γ pc vs [.long v] σ := by
  obtain ⟨p, l, e, R, s, m, args, below, meth, c, kc, ks, Q, D, A, H0, nL⟩ := Γ
  intro H locs ls hP hS hl
  exact Rt H locs ls pc σ v hP hS hp hd
theorem KPre.blind {D : va_G} {av : List Value} {sz : Nat} : FrameBlind (va_Pc av (KPre D ids ad ca σ sz)) := fun a U g mk q => by
  obtain ⟨q0, q1, qP, qK, qD, qE⟩ := q
  exact ⟨q0, q1, qP, va_K.moved (u := U) (U := U.calling g mk a) (Vm.Alike.refl U.vm) qK, qD, EN.same (s := U) (U := U.calling g mk a) rfl qE⟩
theorem mw_freeA {A : Nat → Prop} {H0 H : Heap} {locs : List Loc} (hD : va_D A (mw ids ad ca σ)) (hS : va_S A H0 H locs) (hA : ∀ q, H0.size ≤ q → A q) : ∀ q, va_A (mw ids ad ca σ) H.size q → A q := fun q h => by
  rcases h with ⟨k, e, h⟩ | h
  · exact hD.2 k (q, e) h
  · exact hA q (Nat.le_trans hS.1 h)
-- GENERATED by calls.py
theorem a_callVi (C : CT ids ad ca Γ cc own l0 D0 fr lo nL0) {y : MethodName} {cc' : ByteArray} {nL' fr' lo' n ix : Nat} {ty : FieldType} {As st0 : List Value} {post : Int32 → HS → Prop} {i n0 : Nat} (hk : kd i = n0) (hi : i ∈ ids) (hq : ∃ (T : u_T) (N : Nat), vwCl[n0]? = some (y.cls, T, N)) (h12 : n0 < 12) (hM : Ki l0 D0 ids ad ca y cc' nL' ty fr' lo' (.ref (ad i) :: As) σ post) (hw : MI y cc' nL' (some ty) n) (hlink : Cond.methodLink own ix y ∈ gw_tbl) (hst : st0 = As.reverse ++ .ref (ad i) :: st) (hn : As.length = n) (hf1 : fr' + 1 ≤ fr) (hl1 : 8 + (nL' + 11) + lo' ≤ lo) (hcat : (st.map fun v => v.category).sum ≤ 8) (hd : decode cc pc = .ok (.invokevirtual ix, 3)) (k : ∀ (r : Int32) (σ' : HS), post r σ' → AW ids ad ca Γ (pc + 3) vs (.int r :: st) σ') : AW ids ad ca Γ pc vs st0 σ := by
  obtain ⟨p, l, e, R, s, m, args, below, meth, c, kc, ks, Q, D, A, H0, nL⟩ := Γ
  obtain ⟨⟨hx, hb, hml, hown, hts⟩, hK, hE, hD, hA0, rfl, rfl, hfr, hlo, hkc, hks, rfl⟩ := C
  intro H locs ls hP hS hl
  obtain ⟨w1, w2, w3, w4, w5, w6, w7⟩ := hw
  obtain ⟨T, N, hq⟩ := hq
  subst hst
  obtain ⟨ip, hip, hg⟩ := mw_get (ad := ad) (ca := ca) hi
  have hg := hg σ
  rw [hk, ceK_ob h12] at hg
  have hG : GoodIn gw_tbl (wsV own ix y.cls y (.code y cc' nL' (some ty) :: gw_tbl)) := lw_goodIn (fun w h => by
    simp only [wsV, List.cons_append, List.nil_append, List.mem_cons] at h
    rcases h with rfl | rfl | rfl | rfl | rfl | h
    · exact hlink
    · exact w1
    · exact w2
    · exact w3
    · exact w4
    · exact h)
  have hFc := mw_freeA (hD σ) hS hA0
  refine va_calli (va_runV (As := As) (rest := st) ⟨hx, hb, hml, hown, hts⟩ (hM H.size) (cwV n hts hG rfl rfl rfl ⟨rfl, w5, w6, w7⟩ ⟨Nat.le_trans hf1 hfr, Nat.le_trans hl1 hlo⟩) ⟨KPre.blind, va_recv hK hP hq hg, fun U hU hW => ⟨rfl, by rw [hU], by rw [hU]; exact hP, va_K.moved hW.alike hK, (hD σ).weaken (fun _ _ _ _ => trivial), hE.warm hW⟩⟩ rfl hn hl.1 rfl (lv_room hcat) hd ⟨hkc, hks⟩) hS (fun q _ h => hFc q h) hFc (fun r u t H1 locs1 ht hvm hw hB hz1 hk1 hS1 => ?_)
  have hP1 := hB.1
  rw [ht] at hP1
  exact k r u hw H1 locs1 ls hP1 hS1 hl
theorem a_callVv (C : CT ids ad ca Γ cc own l0 D0 fr lo nL0) {y : MethodName} {cc' : ByteArray} {nL' fr' lo' n ix : Nat} {As st0 : List Value} {post : HS → Prop} {i n0 : Nat} (hk : kd i = n0) (hi : i ∈ ids) (hq : ∃ (T : u_T) (N : Nat), vwCl[n0]? = some (y.cls, T, N)) (h12 : n0 < 12) (hM : Kv l0 D0 ids ad ca y cc' nL' fr' lo' (.ref (ad i) :: As) σ post) (hw : MI y cc' nL' none n) (hlink : Cond.methodLink own ix y ∈ gw_tbl) (hst : st0 = As.reverse ++ .ref (ad i) :: st) (hn : As.length = n) (hf1 : fr' + 1 ≤ fr) (hl1 : 8 + (nL' + 11) + lo' ≤ lo) (hcat : (st.map fun v => v.category).sum ≤ 8) (hd : decode cc pc = .ok (.invokevirtual ix, 3)) (k : ∀ (σ' : HS), post σ' → AW ids ad ca Γ (pc + 3) vs st σ') : AW ids ad ca Γ pc vs st0 σ := by
  obtain ⟨p, l, e, R, s, m, args, below, meth, c, kc, ks, Q, D, A, H0, nL⟩ := Γ
  obtain ⟨⟨hx, hb, hml, hown, hts⟩, hK, hE, hD, hA0, rfl, rfl, hfr, hlo, hkc, hks, rfl⟩ := C
  intro H locs ls hP hS hl
  obtain ⟨w1, w2, w3, w4, w5, w6, w7⟩ := hw
  obtain ⟨T, N, hq⟩ := hq
  subst hst
  obtain ⟨ip, hip, hg⟩ := mw_get (ad := ad) (ca := ca) hi
  have hg := hg σ
  rw [hk, ceK_ob h12] at hg
  have hG : GoodIn gw_tbl (wsV own ix y.cls y (.code y cc' nL' none :: gw_tbl)) := lw_goodIn (fun w h => by
    simp only [wsV, List.cons_append, List.nil_append, List.mem_cons] at h
    rcases h with rfl | rfl | rfl | rfl | rfl | h
    · exact hlink
    · exact w1
    · exact w2
    · exact w3
    · exact w4
    · exact h)
  have hFc := mw_freeA (hD σ) hS hA0
  refine va_callv (va_runV (As := As) (rest := st) ⟨hx, hb, hml, hown, hts⟩ (hM H.size) (cwV n hts hG rfl rfl rfl ⟨rfl, w5, w6, w7⟩ ⟨Nat.le_trans hf1 hfr, Nat.le_trans hl1 hlo⟩) ⟨KPre.blind, va_recv hK hP hq hg, fun U hU hW => ⟨rfl, by rw [hU], by rw [hU]; exact hP, va_K.moved hW.alike hK, (hD σ).weaken (fun _ _ _ _ => trivial), hE.warm hW⟩⟩ rfl hn hl.1 rfl (lv_room hcat) hd ⟨hkc, hks⟩) hS (fun q _ h => hFc q h) hFc (fun u t H1 locs1 ht hvm hw hB hz1 hk1 hS1 => ?_)
  have hP1 := hB.1
  rw [ht] at hP1
  exact k u hw H1 locs1 ls hP1 hS1 hl
theorem a_callSi (C : CT ids ad ca Γ cc own l0 D0 fr lo nL0) {y : MethodName} {cc' : ByteArray} {nL' fr' lo' n ix : Nat} {ty : FieldType} {As st0 : List Value} {post : Int32 → HS → Prop} (hM : Ki l0 D0 ids ad ca y cc' nL' ty fr' lo' As σ post) (hw : MS y cc' nL' (some ty) n) (hlink : Cond.methodLink own ix y ∈ gw_tbl) (hst : st0 = As.reverse ++ st) (hn : As.length = n) (hf1 : fr' + 1 ≤ fr) (hl1 : 8 + (nL' + 11) + lo' ≤ lo) (hcat : (st.map fun v => v.category).sum ≤ 8) (hd : decode cc pc = .ok (.invokestatic ix, 3)) (k : ∀ (r : Int32) (σ' : HS), post r σ' → AW ids ad ca Γ (pc + 3) vs (.int r :: st) σ') : AW ids ad ca Γ pc vs st0 σ := by
  obtain ⟨p, l, e, R, s, m, args, below, meth, c, kc, ks, Q, D, A, H0, nL⟩ := Γ
  obtain ⟨⟨hx, hb, hml, hown, hts⟩, hK, hE, hD, hA0, rfl, rfl, hfr, hlo, hkc, hks, rfl⟩ := C
  intro H locs ls hP hS hl
  obtain ⟨w1, w3, w4, w5, w6, w7⟩ := hw
  subst hst
  have hG : GoodIn gw_tbl (va_wsS own ix y (.code y cc' nL' (some ty) :: gw_tbl)) := lw_goodIn (fun w h => by
    simp only [va_wsS, List.cons_append, List.nil_append, List.mem_cons] at h
    rcases h with rfl | rfl | rfl | rfl | h
    · exact hlink
    · exact w1
    · exact w3
    · exact w4
    · exact h)
  have hFc := mw_freeA (hD σ) hS hA0
  refine va_calli (va_runS (As := As) (rest := st) ⟨hx, hb, hml, hown, hts⟩ (hM H.size) (va_cwS n hts hG rfl rfl rfl ⟨w5, w6, w7⟩ ⟨Nat.le_trans hf1 hfr, Nat.le_trans hl1 hlo⟩) ⟨KPre.blind, fun U hU hW => ⟨rfl, by rw [hU], by rw [hU]; exact hP, va_K.moved hW.alike hK, (hD σ).weaken (fun _ _ _ _ => trivial), hE.warm hW⟩⟩ rfl hn hl.1 rfl (lv_room hcat) hd ⟨hkc, hks⟩) hS (fun q _ h => hFc q h) hFc (fun r u t H1 locs1 ht hvm hw hB hz1 hk1 hS1 => ?_)
  have hP1 := hB.1
  rw [ht] at hP1
  exact k r u hw H1 locs1 ls hP1 hS1 hl
theorem a_callSv (C : CT ids ad ca Γ cc own l0 D0 fr lo nL0) {y : MethodName} {cc' : ByteArray} {nL' fr' lo' n ix : Nat} {As st0 : List Value} {post : HS → Prop} (hM : Kv l0 D0 ids ad ca y cc' nL' fr' lo' As σ post) (hw : MS y cc' nL' none n) (hlink : Cond.methodLink own ix y ∈ gw_tbl) (hst : st0 = As.reverse ++ st) (hn : As.length = n) (hf1 : fr' + 1 ≤ fr) (hl1 : 8 + (nL' + 11) + lo' ≤ lo) (hcat : (st.map fun v => v.category).sum ≤ 8) (hd : decode cc pc = .ok (.invokestatic ix, 3)) (k : ∀ (σ' : HS), post σ' → AW ids ad ca Γ (pc + 3) vs st σ') : AW ids ad ca Γ pc vs st0 σ := by
  obtain ⟨p, l, e, R, s, m, args, below, meth, c, kc, ks, Q, D, A, H0, nL⟩ := Γ
  obtain ⟨⟨hx, hb, hml, hown, hts⟩, hK, hE, hD, hA0, rfl, rfl, hfr, hlo, hkc, hks, rfl⟩ := C
  intro H locs ls hP hS hl
  obtain ⟨w1, w3, w4, w5, w6, w7⟩ := hw
  subst hst
  have hG : GoodIn gw_tbl (va_wsS own ix y (.code y cc' nL' none :: gw_tbl)) := lw_goodIn (fun w h => by
    simp only [va_wsS, List.cons_append, List.nil_append, List.mem_cons] at h
    rcases h with rfl | rfl | rfl | rfl | h
    · exact hlink
    · exact w1
    · exact w3
    · exact w4
    · exact h)
  have hFc := mw_freeA (hD σ) hS hA0
  refine va_callv (va_runS (As := As) (rest := st) ⟨hx, hb, hml, hown, hts⟩ (hM H.size) (va_cwS n hts hG rfl rfl rfl ⟨w5, w6, w7⟩ ⟨Nat.le_trans hf1 hfr, Nat.le_trans hl1 hlo⟩) ⟨KPre.blind, fun U hU hW => ⟨rfl, by rw [hU], by rw [hU]; exact hP, va_K.moved hW.alike hK, (hD σ).weaken (fun _ _ _ _ => trivial), hE.warm hW⟩⟩ rfl hn hl.1 rfl (lv_room hcat) hd ⟨hkc, hks⟩) hS (fun q _ h => hFc q h) hFc (fun u t H1 locs1 ht hvm hw hB hz1 hk1 hS1 => ?_)
  have hP1 := hB.1
  rw [ht] at hP1
  exact k u hw H1 locs1 ls hP1 hS1 hl
theorem a_callSl (C : CT ids ad ca Γ cc own l0 D0 fr lo nL0) {y : MethodName} {cc' : ByteArray} {nL' fr' lo' n ix : Nat} {As st0 : List Value} {post : Int64 → HS → Prop} (hM : Kl l0 D0 ids ad ca y cc' nL' fr' lo' As σ post) (hw : MS y cc' nL' (some .long) n) (hlink : Cond.methodLink own ix y ∈ gw_tbl) (hst : st0 = As.reverse ++ st) (hn : As.length = n) (hf1 : fr' + 1 ≤ fr) (hl1 : 8 + (nL' + 11) + lo' ≤ lo) (hcat : (st.map fun v => v.category).sum ≤ 8) (hd : decode cc pc = .ok (.invokestatic ix, 3)) (k : ∀ (r : Int64) (σ' : HS), post r σ' → AW ids ad ca Γ (pc + 3) vs (.long r :: st) σ') : AW ids ad ca Γ pc vs st0 σ := by
  obtain ⟨p, l, e, R, s, m, args, below, meth, c, kc, ks, Q, D, A, H0, nL⟩ := Γ
  obtain ⟨⟨hx, hb, hml, hown, hts⟩, hK, hE, hD, hA0, rfl, rfl, hfr, hlo, hkc, hks, rfl⟩ := C
  intro H locs ls hP hS hl
  obtain ⟨w1, w3, w4, w5, w6, w7⟩ := hw
  subst hst
  have hG : GoodIn gw_tbl (va_wsS own ix y (.code y cc' nL' (some .long) :: gw_tbl)) := lw_goodIn (fun w h => by
    simp only [va_wsS, List.cons_append, List.nil_append, List.mem_cons] at h
    rcases h with rfl | rfl | rfl | rfl | h
    · exact hlink
    · exact w1
    · exact w3
    · exact w4
    · exact h)
  have hFc := mw_freeA (hD σ) hS hA0
  refine va_calll (va_runS (As := As) (rest := st) ⟨hx, hb, hml, hown, hts⟩ (hM H.size) (va_cwS n hts hG rfl rfl rfl ⟨w5, w6, w7⟩ ⟨Nat.le_trans hf1 hfr, Nat.le_trans hl1 hlo⟩) ⟨KPre.blind, fun U hU hW => ⟨rfl, by rw [hU], by rw [hU]; exact hP, va_K.moved hW.alike hK, (hD σ).weaken (fun _ _ _ _ => trivial), hE.warm hW⟩⟩ rfl hn hl.1 rfl (lv_room hcat) hd ⟨hkc, hks⟩) hS (fun q _ h => hFc q h) hFc (fun r u t H1 locs1 ht hvm hw hB hz1 hk1 hS1 => ?_)
  have hP1 := hB.1
  rw [ht] at hP1
  exact k r u hw H1 locs1 ls hP1 hS1 hl
end RETR
/-! kinds and lengths by number; the fresh state -/
theorem kd_0 : kd 0 = 10 := by decide
theorem kd_1 : kd 1 = 5 := by decide
theorem kd_2 : kd 2 = 8 := by decide
theorem kd_3 : kd 3 = 20 := by decide
theorem al_3 : al 3 = 2000 := by decide
theorem kd_4 : kd 4 = 20 := by decide
theorem al_4 : al 4 = 401 := by decide
theorem kd_5 : kd 5 = 20 := by decide
theorem al_5 : al 5 = 401 := by decide
theorem kd_6 : kd 6 = 23 := by decide
theorem al_6 : al 6 = 401 := by decide
theorem kd_7 : kd 7 = 23 := by decide
theorem al_7 : al 7 = 12 := by decide
theorem kd_8 : kd 8 = 3 := by decide
theorem kd_9 : kd 9 = 1 := by decide
theorem kd_10 : kd 10 = 20 := by decide
theorem al_10 : al 10 = 9 := by decide
theorem kd_11 : kd 11 = 20 := by decide
theorem al_11 : al 11 = 32 := by decide
theorem kd_12 : kd 12 = 4 := by decide
theorem kd_13 : kd 13 = 24 := by decide
theorem al_13 : al 13 = 40 := by decide
theorem kd_14 : kd 14 = 2 := by decide
theorem kd_15 : kd 15 = 20 := by decide
theorem al_15 : al 15 = 20 := by decide
theorem kd_16 : kd 16 = 21 := by decide
theorem al_16 : al 16 = 20 := by decide
theorem kd_17 : kd 17 = 6 := by decide
theorem kd_18 : kd 18 = 20 := by decide
theorem al_18 : al 18 = 1024 := by decide
theorem kd_19 : kd 19 = 20 := by decide
theorem al_19 : al 19 = 1024 := by decide
theorem kd_20 : kd 20 = 20 := by decide
theorem al_20 : al 20 = 1024 := by decide
theorem kd_21 : kd 21 = 20 := by decide
theorem al_21 : al 21 = 12 := by decide
theorem kd_22 : kd 22 = 7 := by decide
theorem kd_23 : kd 23 = 20 := by decide
theorem al_23 : al 23 = 5 := by decide
theorem kd_24 : kd 24 = 20 := by decide
theorem al_24 : al 24 = 5 := by decide
theorem kd_25 : kd 25 = 25 := by decide
theorem al_25 : al 25 = 3 := by decide
theorem kd_26 : kd 26 = 21 := by decide
theorem al_26 : al 26 = 3 := by decide
theorem kd_27 : kd 27 = 20 := by decide
theorem al_27 : al 27 = 61 := by decide
theorem kd_28 : kd 28 = 20 := by decide
theorem al_28 : al 28 = 7 := by decide
theorem kd_29 : kd 29 = 20 := by decide
theorem al_29 : al 29 = 16 := by decide
theorem kd_30 : kd 30 = 9 := by decide
theorem kd_41 : kd 41 = 20 := by decide
theorem al_41 : al 41 = 408 := by decide
theorem kd_42 : kd 42 = 20 := by decide
theorem al_42 : al 42 = 4 := by decide
theorem kd_56 : kd 56 = 0 := by decide
theorem kd_57 : kd 57 = 20 := by decide
theorem al_57 : al 57 = 7 := by decide
theorem kd_58 : kd 58 = 20 := by decide
theorem al_58 : al 58 = 7 := by decide
theorem kd_59 : kd 59 = 20 := by decide
theorem al_59 : al 59 = 7 := by decide
theorem kd_64 : kd 64 = 0 := by decide
theorem kd_65 : kd 65 = 20 := by decide
theorem al_65 : al 65 = 7 := by decide
theorem kd_66 : kd 66 = 20 := by decide
theorem al_66 : al 66 = 7 := by decide
theorem kd_67 : kd 67 = 20 := by decide
theorem al_67 : al 67 = 7 := by decide
theorem kd_68 : kd 68 = 0 := by decide
theorem kd_69 : kd 69 = 20 := by decide
theorem al_69 : al 69 = 7 := by decide
theorem kd_70 : kd 70 = 20 := by decide
theorem al_70 : al 70 = 7 := by decide
theorem kd_71 : kd 71 = 20 := by decide
theorem al_71 : al 71 = 7 := by decide
theorem kd_72 : kd 72 = 0 := by decide
theorem kd_73 : kd 73 = 20 := by decide
theorem al_73 : al 73 = 7 := by decide
theorem kd_74 : kd 74 = 20 := by decide
theorem al_74 : al 74 = 7 := by decide
theorem kd_75 : kd 75 = 20 := by decide
theorem al_75 : al 75 = 7 := by decide
theorem kd_236 : kd 236 = 11 := by decide
theorem kd_237 : kd 237 = 22 := by decide
theorem al_237 : al 237 = 2000 := by decide
theorem kd_238 : kd 238 = 22 := by decide
theorem al_238 : al 238 = 2000 := by decide
theorem kd_239 : kd 239 = 20 := by decide
theorem al_239 : al 239 = 403 := by decide
theorem kd_240 : kd 240 = 20 := by decide
theorem al_240 : al 240 = 403 := by decide
theorem kd_241 : kd 241 = 20 := by decide
theorem al_241 : al 241 = 403 := by decide
theorem kd_242 : kd 242 = 23 := by decide
theorem al_242 : al 242 = 403 := by decide
theorem kd_243 : kd 243 = 23 := by decide
theorem al_243 : al 243 = 20 := by decide
theorem kd_244 : kd 244 = 23 := by decide
theorem al_244 : al 244 = 12 := by decide
theorem kd_245 : kd 245 = 20 := by decide
theorem al_245 : al 245 = 2 := by decide
theorem kd_246 : kd 246 = 20 := by decide
theorem al_246 : al 246 = 14 := by decide
theorem kd_247 : kd 247 = 20 := by decide
theorem al_247 : al 247 = 14 := by decide
theorem kd_248 : kd 248 = 20 := by decide
theorem al_248 : al 248 = 14 := by decide
theorem kd_249 : kd 249 = 20 := by decide
theorem al_249 : al 249 = 2 := by decide
theorem kd_250 : kd 250 = 20 := by decide
theorem al_250 : al 250 = 10 := by decide
theorem kd_251 : kd 251 = 20 := by decide
theorem al_251 : al 251 = 80 := by decide
theorem kd_252 : kd 252 = 20 := by decide
theorem al_252 : al 252 = 2 := by decide
theorem kd_253 : kd 253 = 20 := by decide
theorem al_253 : al 253 = 2 := by decide
theorem kd_254 : kd 254 = 20 := by decide
theorem al_254 : al 254 = 8 := by decide
theorem kd_255 : kd 255 = 20 := by decide
theorem al_255 : al 255 = 8 := by decide
theorem kd_256 : kd 256 = 21 := by decide
theorem al_256 : al 256 = 260 := by decide
theorem kd_257 : kd 257 = 20 := by decide
theorem al_257 : al 257 = 260 := by decide
theorem kd_258 : kd 258 = 20 := by decide
theorem al_258 : al 258 = 260 := by decide
theorem kd_259 : kd 259 = 20 := by decide
theorem al_259 : al 259 = 260 := by decide
theorem kd_260 : kd 260 = 20 := by decide
theorem al_260 : al 260 = 260 := by decide
theorem kd_261 : kd 261 = 20 := by decide
theorem al_261 : al 261 = 840 := by decide
theorem kd_262 : kd 262 = 20 := by decide
theorem al_262 : al 262 = 840 := by decide
theorem kd_263 : kd 263 = 20 := by decide
theorem al_263 : al 263 = 64 := by decide
theorem kd_264 : kd 264 = 20 := by decide
theorem al_264 : al 264 = 9 := by decide
theorem kd_265 : kd 265 = 20 := by decide
theorem al_265 : al 265 = 400 := by decide
theorem kd_266 : kd 266 = 20 := by decide
theorem al_266 : al 266 = 29 := by decide
theorem kd_267 : kd 267 = 20 := by decide
theorem al_267 : al 267 = 29 := by decide
theorem kd_268 : kd 268 = 20 := by decide
theorem al_268 : al 268 = 1160 := by decide
theorem kd_269 : kd 269 = 20 := by decide
theorem al_269 : al 269 = 16 := by decide
theorem kd_270 : kd 270 = 20 := by decide
theorem al_270 : al 270 = 1024 := by decide
theorem kd_271 : kd 271 = 20 := by decide
theorem al_271 : al 271 = 7 := by decide
theorem kd_272 : kd 272 = 20 := by decide
theorem al_272 : al 272 = 20 := by decide
theorem kd_273 : kd 273 = 21 := by decide
theorem al_273 : al 273 = 20 := by decide
theorem kd_274 : kd 274 = 20 := by decide
theorem al_274 : al 274 = 41 := by decide
theorem kd_275 : kd 275 = 21 := by decide
theorem al_275 : al 275 = 3 := by decide
theorem kd_276 : kd 276 = 20 := by decide
theorem al_276 : al 276 = 87 := by decide
def hC (σ : HS) (a b n : Nat) : HS := hA σ b (va_cpy (σ.1 a) (σ.1 b) 0 0 n)
/-- the ints of the fresh state -/
def s0I (i k : Nat) : Int32 := match kd i with
  | 0 => if k = 9 then -1 else if k = 11 then -1 else 0
  | 5 => if k = 1 then -1 else 0
  | 9 => if k = 8 then 8 else if k = 10 then 1 else 0
  | 11 => if k = 17 then -1 else 0
  | 20 => if i = 41 ∨ i = 54 then [0, -6, 0, -6, -11, -6, 0, -6].getD k 0
    else if i = 42 ∨ i = 55 then [0, 2, 4, 6].getD k 0
    else if i = 252 then (if k = 0 then 1 else 0)
    else if i = 266 ∨ i = 267 then (if k = 26 then -2 else if k = 28 then -1 else 0)
    else 0
  | _ => 0
def s0L (i k : Nat) : Int64 := if i = 243 then [10793230, 6224103356, 10819243, 2491444, 3497099, 316351, 9678763, 377761, 249, 399641, 107681, 332864552, 101525, 117630947, 43058, 10819228, 583, 12387257, 43996844, 158575].getD k 0 else 0
def s0 : HS := (s0I, s0L, fun k => if k = 0 then 30 else 43)
/-- the class's cells may have changed, the reference's haven't -/
def keepM (σ σ1 : HS) : Prop := ∀ k, 236 ≤ k → σ1.1 k = σ.1 k ∧ σ1.2.1 k = σ.2.1 k
theorem keepM.rf {σ : HS} : keepM σ σ := fun _ _ => ⟨rfl, rfl⟩
theorem keepM.tr {σ σ1 σ2 : HS} (h : keepM σ σ1) (h2 : keepM σ1 σ2) : keepM σ σ2 := fun k hk => ⟨(h2 k hk).1.trans (h k hk).1, (h2 k hk).2.trans (h k hk).2⟩
theorem keepM.I {σ σ1 : HS} {i k : Nat} {v : Int32} (h : keepM σ σ1) (hi : i < 236) : keepM σ (hI σ1 i k v) := fun q hq => ⟨(va_up_ne _ _ (show q ≠ i by omega)).trans (h q hq).1, (h q hq).2⟩
/-- only the cells in L may have changed -/
def only (L : List Nat) (σ σ1 : HS) : Prop := (∀ k, k ∉ L → σ1.1 k = σ.1 k) ∧ σ1.2 = σ.2
theorem only.rf {L : List Nat} {σ : HS} : only L σ σ := ⟨fun _ _ => rfl, rfl⟩
theorem only.tr {L : List Nat} {σ σ1 σ2 : HS} (h : only L σ σ1) (h2 : only L σ1 σ2) : only L σ σ2 := ⟨fun k hk => (h2.1 k hk).trans (h.1 k hk), h2.2.trans h.2⟩
theorem only.I {L : List Nat} {σ σ1 : HS} {i k : Nat} {v : Int32} (h : only L σ σ1) (hi : i ∈ L) : only L σ (hI σ1 i k v) := ⟨fun q hq => (va_up_ne _ _ (show q ≠ i from fun e => hq (by rw [e]; exact hi))).trans (h.1 q hq), h.2⟩
theorem only.mono {L L1 : List Nat} {σ σ1 : HS} (h : only L σ σ1) (hL : ∀ q, q ∈ L → q ∈ L1) : only L1 σ σ1 := ⟨fun q hq => h.1 q (fun e => hq (hL q e)), h.2⟩
theorem hI_s {σ : HS} {i k : Nat} {v : Int32} : (hI σ i k v).1 i k = v := by
  show va_up σ.1 i (upd (σ.1 i) k v) i k = v
  rw [va_up_self]
  exact pk_us
theorem hI_n {σ : HS} {i k j : Nat} {v : Int32} (h : j ≠ k) : (hI σ i k v).1 i j = σ.1 i j := by
  show va_up σ.1 i (upd (σ.1 i) k v) i j = σ.1 i j
  rw [va_up_self]
  exact pk_un h
theorem hI_o {σ : HS} {i k a : Nat} {v : Int32} (h : a ≠ i) : (hI σ i k v).1 a = σ.1 a := va_up_ne _ _ h
def kb_cX10_hasThing_0 : List Nat := [27, 155, 0, 15, 27, 42, 180, 0, 38, 162, 0, 7, 4, 167, 0, 4, 3, 172]
theorem ac_cX10_hasThing_0 : AL cX10_hasThing 0 kb_cX10_hasThing_0 := AL.of (m := 18) (by decide +kernel)
theorem dX10_hasThing_0 : decode cX10_hasThing 0 = .ok (.iload_n 1, 1) := o27 ac_cX10_hasThing_0 0 rfl
theorem dX10_hasThing_1 : decode cX10_hasThing 1 = .ok (.ifCond .lt 15, 3) := o155p ac_cX10_hasThing_0 1 0 15 rfl rfl
theorem dX10_hasThing_4 : decode cX10_hasThing 4 = .ok (.iload_n 1, 1) := o27 ac_cX10_hasThing_0 4 rfl
theorem dX10_hasThing_5 : decode cX10_hasThing 5 = .ok (.aload_n 0, 1) := o42 ac_cX10_hasThing_0 5 rfl
theorem dX10_hasThing_6 : decode cX10_hasThing 6 = .ok (.getfield 38, 3) := o180 ac_cX10_hasThing_0 6 0 38 rfl
theorem dX10_hasThing_9 : decode cX10_hasThing 9 = .ok (.if_icmp .ge 7, 3) := o162p ac_cX10_hasThing_0 9 0 7 rfl rfl
def kb_cX10_hasThing_16 : List Nat := [3, 172]
theorem ac_cX10_hasThing_16 : AL cX10_hasThing 16 kb_cX10_hasThing_16 := AL.of (m := 2) (by decide +kernel)
theorem dX10_hasThing_16 : decode cX10_hasThing 16 = .ok (.iconst 0, 1) := o3 ac_cX10_hasThing_16 0 rfl
theorem dX10_hasThing_17 : decode cX10_hasThing 17 = .ok (.ireturn, 1) := o172 ac_cX10_hasThing_16 1 rfl
def kb_cX10_hasPattern_0 : List Nat := [27, 155, 0, 15, 27, 42, 180, 0, 42, 162, 0, 7, 4, 167, 0, 4, 3, 172]
theorem ac_cX10_hasPattern_0 : AL cX10_hasPattern 0 kb_cX10_hasPattern_0 := AL.of (m := 18) (by decide +kernel)
theorem dX10_hasPattern_0 : decode cX10_hasPattern 0 = .ok (.iload_n 1, 1) := o27 ac_cX10_hasPattern_0 0 rfl
theorem dX10_hasPattern_1 : decode cX10_hasPattern 1 = .ok (.ifCond .lt 15, 3) := o155p ac_cX10_hasPattern_0 1 0 15 rfl rfl
theorem dX10_hasPattern_4 : decode cX10_hasPattern 4 = .ok (.iload_n 1, 1) := o27 ac_cX10_hasPattern_0 4 rfl
theorem dX10_hasPattern_5 : decode cX10_hasPattern 5 = .ok (.aload_n 0, 1) := o42 ac_cX10_hasPattern_0 5 rfl
theorem dX10_hasPattern_6 : decode cX10_hasPattern 6 = .ok (.getfield 42, 3) := o180 ac_cX10_hasPattern_0 6 0 42 rfl
theorem dX10_hasPattern_9 : decode cX10_hasPattern 9 = .ok (.if_icmp .ge 7, 3) := o162p ac_cX10_hasPattern_0 9 0 7 rfl rfl
def kb_cX10_hasPattern_16 : List Nat := [3, 172]
theorem ac_cX10_hasPattern_16 : AL cX10_hasPattern 16 kb_cX10_hasPattern_16 := AL.of (m := 2) (by decide +kernel)
theorem dX10_hasPattern_16 : decode cX10_hasPattern 16 = .ok (.iconst 0, 1) := o3 ac_cX10_hasPattern_16 0 rfl
theorem dX10_hasPattern_17 : decode cX10_hasPattern 17 = .ok (.ireturn, 1) := o172 ac_cX10_hasPattern_16 1 rfl
def kb_cJ6_bitCount_0f7a4_0 : List Nat := [26, 26, 4, 124, 19, 1, 9, 126, 100, 59, 26, 19, 1, 10, 126, 26, 5, 124, 19, 1]
theorem ac_cJ6_bitCount_0f7a4_0 : AL cJ6_bitCount_0f7a4 0 kb_cJ6_bitCount_0f7a4_0 := AL.of (m := 20) (by decide +kernel)
theorem dJ6_bitCount_0f7a4_0 : decode cJ6_bitCount_0f7a4 0 = .ok (.iload_n 0, 1) := o26 ac_cJ6_bitCount_0f7a4_0 0 rfl
theorem dJ6_bitCount_0f7a4_1 : decode cJ6_bitCount_0f7a4 1 = .ok (.iload_n 0, 1) := o26 ac_cJ6_bitCount_0f7a4_0 1 rfl
theorem dJ6_bitCount_0f7a4_2 : decode cJ6_bitCount_0f7a4 2 = .ok (.iconst 1, 1) := o4 ac_cJ6_bitCount_0f7a4_0 2 rfl
theorem dJ6_bitCount_0f7a4_3 : decode cJ6_bitCount_0f7a4 3 = .ok (.iushr, 1) := o124 ac_cJ6_bitCount_0f7a4_0 3 rfl
theorem dJ6_bitCount_0f7a4_4 : decode cJ6_bitCount_0f7a4 4 = .ok (.ldc_w 265, 3) := o19 ac_cJ6_bitCount_0f7a4_0 4 1 9 rfl
theorem dJ6_bitCount_0f7a4_7 : decode cJ6_bitCount_0f7a4 7 = .ok (.iand, 1) := o126 ac_cJ6_bitCount_0f7a4_0 7 rfl
theorem dJ6_bitCount_0f7a4_8 : decode cJ6_bitCount_0f7a4 8 = .ok (.isub, 1) := o100 ac_cJ6_bitCount_0f7a4_0 8 rfl
theorem dJ6_bitCount_0f7a4_9 : decode cJ6_bitCount_0f7a4 9 = .ok (.istore_n 0, 1) := o59 ac_cJ6_bitCount_0f7a4_0 9 rfl
theorem dJ6_bitCount_0f7a4_10 : decode cJ6_bitCount_0f7a4 10 = .ok (.iload_n 0, 1) := o26 ac_cJ6_bitCount_0f7a4_0 10 rfl
theorem dJ6_bitCount_0f7a4_11 : decode cJ6_bitCount_0f7a4 11 = .ok (.ldc_w 266, 3) := o19 ac_cJ6_bitCount_0f7a4_0 11 1 10 rfl
theorem dJ6_bitCount_0f7a4_14 : decode cJ6_bitCount_0f7a4 14 = .ok (.iand, 1) := o126 ac_cJ6_bitCount_0f7a4_0 14 rfl
theorem dJ6_bitCount_0f7a4_15 : decode cJ6_bitCount_0f7a4 15 = .ok (.iload_n 0, 1) := o26 ac_cJ6_bitCount_0f7a4_0 15 rfl
def kb_cJ6_bitCount_0f7a4_16 : List Nat := [5, 124, 19, 1, 10, 126, 96, 59, 26, 26, 7, 124, 96, 19, 1, 11, 126, 59, 26, 26]
theorem ac_cJ6_bitCount_0f7a4_16 : AL cJ6_bitCount_0f7a4 16 kb_cJ6_bitCount_0f7a4_16 := AL.of (m := 20) (by decide +kernel)
theorem dJ6_bitCount_0f7a4_16 : decode cJ6_bitCount_0f7a4 16 = .ok (.iconst 2, 1) := o5 ac_cJ6_bitCount_0f7a4_16 0 rfl
theorem dJ6_bitCount_0f7a4_17 : decode cJ6_bitCount_0f7a4 17 = .ok (.iushr, 1) := o124 ac_cJ6_bitCount_0f7a4_16 1 rfl
theorem dJ6_bitCount_0f7a4_18 : decode cJ6_bitCount_0f7a4 18 = .ok (.ldc_w 266, 3) := o19 ac_cJ6_bitCount_0f7a4_16 2 1 10 rfl
theorem dJ6_bitCount_0f7a4_21 : decode cJ6_bitCount_0f7a4 21 = .ok (.iand, 1) := o126 ac_cJ6_bitCount_0f7a4_16 5 rfl
theorem dJ6_bitCount_0f7a4_22 : decode cJ6_bitCount_0f7a4 22 = .ok (.iadd, 1) := o96 ac_cJ6_bitCount_0f7a4_16 6 rfl
theorem dJ6_bitCount_0f7a4_23 : decode cJ6_bitCount_0f7a4 23 = .ok (.istore_n 0, 1) := o59 ac_cJ6_bitCount_0f7a4_16 7 rfl
theorem dJ6_bitCount_0f7a4_24 : decode cJ6_bitCount_0f7a4 24 = .ok (.iload_n 0, 1) := o26 ac_cJ6_bitCount_0f7a4_16 8 rfl
theorem dJ6_bitCount_0f7a4_25 : decode cJ6_bitCount_0f7a4 25 = .ok (.iload_n 0, 1) := o26 ac_cJ6_bitCount_0f7a4_16 9 rfl
theorem dJ6_bitCount_0f7a4_26 : decode cJ6_bitCount_0f7a4 26 = .ok (.iconst 4, 1) := o7 ac_cJ6_bitCount_0f7a4_16 10 rfl
theorem dJ6_bitCount_0f7a4_27 : decode cJ6_bitCount_0f7a4 27 = .ok (.iushr, 1) := o124 ac_cJ6_bitCount_0f7a4_16 11 rfl
theorem dJ6_bitCount_0f7a4_28 : decode cJ6_bitCount_0f7a4 28 = .ok (.iadd, 1) := o96 ac_cJ6_bitCount_0f7a4_16 12 rfl
theorem dJ6_bitCount_0f7a4_29 : decode cJ6_bitCount_0f7a4 29 = .ok (.ldc_w 267, 3) := o19 ac_cJ6_bitCount_0f7a4_16 13 1 11 rfl
def kb_cJ6_bitCount_0f7a4_32 : List Nat := [126, 59, 26, 26, 16, 8, 124, 96, 59, 26, 26, 16, 16, 124, 96, 59, 26, 16, 63, 126]
theorem ac_cJ6_bitCount_0f7a4_32 : AL cJ6_bitCount_0f7a4 32 kb_cJ6_bitCount_0f7a4_32 := AL.of (m := 20) (by decide +kernel)
theorem dJ6_bitCount_0f7a4_32 : decode cJ6_bitCount_0f7a4 32 = .ok (.iand, 1) := o126 ac_cJ6_bitCount_0f7a4_32 0 rfl
theorem dJ6_bitCount_0f7a4_33 : decode cJ6_bitCount_0f7a4 33 = .ok (.istore_n 0, 1) := o59 ac_cJ6_bitCount_0f7a4_32 1 rfl
theorem dJ6_bitCount_0f7a4_34 : decode cJ6_bitCount_0f7a4 34 = .ok (.iload_n 0, 1) := o26 ac_cJ6_bitCount_0f7a4_32 2 rfl
theorem dJ6_bitCount_0f7a4_35 : decode cJ6_bitCount_0f7a4 35 = .ok (.iload_n 0, 1) := o26 ac_cJ6_bitCount_0f7a4_32 3 rfl
theorem dJ6_bitCount_0f7a4_36 : decode cJ6_bitCount_0f7a4 36 = .ok (.bipush 8, 2) := o16p ac_cJ6_bitCount_0f7a4_32 4 8 rfl rfl
theorem dJ6_bitCount_0f7a4_38 : decode cJ6_bitCount_0f7a4 38 = .ok (.iushr, 1) := o124 ac_cJ6_bitCount_0f7a4_32 6 rfl
theorem dJ6_bitCount_0f7a4_39 : decode cJ6_bitCount_0f7a4 39 = .ok (.iadd, 1) := o96 ac_cJ6_bitCount_0f7a4_32 7 rfl
theorem dJ6_bitCount_0f7a4_40 : decode cJ6_bitCount_0f7a4 40 = .ok (.istore_n 0, 1) := o59 ac_cJ6_bitCount_0f7a4_32 8 rfl
theorem dJ6_bitCount_0f7a4_41 : decode cJ6_bitCount_0f7a4 41 = .ok (.iload_n 0, 1) := o26 ac_cJ6_bitCount_0f7a4_32 9 rfl
theorem dJ6_bitCount_0f7a4_42 : decode cJ6_bitCount_0f7a4 42 = .ok (.iload_n 0, 1) := o26 ac_cJ6_bitCount_0f7a4_32 10 rfl
theorem dJ6_bitCount_0f7a4_43 : decode cJ6_bitCount_0f7a4 43 = .ok (.bipush 16, 2) := o16p ac_cJ6_bitCount_0f7a4_32 11 16 rfl rfl
theorem dJ6_bitCount_0f7a4_45 : decode cJ6_bitCount_0f7a4 45 = .ok (.iushr, 1) := o124 ac_cJ6_bitCount_0f7a4_32 13 rfl
theorem dJ6_bitCount_0f7a4_46 : decode cJ6_bitCount_0f7a4 46 = .ok (.iadd, 1) := o96 ac_cJ6_bitCount_0f7a4_32 14 rfl
theorem dJ6_bitCount_0f7a4_47 : decode cJ6_bitCount_0f7a4 47 = .ok (.istore_n 0, 1) := o59 ac_cJ6_bitCount_0f7a4_32 15 rfl
def kb_cJ6_bitCount_0f7a4_48 : List Nat := [26, 16, 63, 126, 172]
theorem ac_cJ6_bitCount_0f7a4_48 : AL cJ6_bitCount_0f7a4 48 kb_cJ6_bitCount_0f7a4_48 := AL.of (m := 5) (by decide +kernel)
theorem dJ6_bitCount_0f7a4_48 : decode cJ6_bitCount_0f7a4 48 = .ok (.iload_n 0, 1) := o26 ac_cJ6_bitCount_0f7a4_48 0 rfl
theorem dJ6_bitCount_0f7a4_49 : decode cJ6_bitCount_0f7a4 49 = .ok (.bipush 63, 2) := o16p ac_cJ6_bitCount_0f7a4_48 1 63 rfl rfl
theorem dJ6_bitCount_0f7a4_51 : decode cJ6_bitCount_0f7a4 51 = .ok (.iand, 1) := o126 ac_cJ6_bitCount_0f7a4_48 3 rfl
theorem dJ6_bitCount_0f7a4_52 : decode cJ6_bitCount_0f7a4 52 = .ok (.ireturn, 1) := o172 ac_cJ6_bitCount_0f7a4_48 4 rfl
def kb_cX0_firstLanding_0 : List Nat := [3, 60, 27, 42, 180, 0, 33, 162, 0, 19, 42, 27, 182, 0, 79, 153, 0, 5, 27, 172]
theorem ac_cX0_firstLanding_0 : AL cX0_firstLanding 0 kb_cX0_firstLanding_0 := AL.of (m := 20) (by decide +kernel)
theorem dX0_firstLanding_0 : decode cX0_firstLanding 0 = .ok (.iconst 0, 1) := o3 ac_cX0_firstLanding_0 0 rfl
theorem dX0_firstLanding_1 : decode cX0_firstLanding 1 = .ok (.istore_n 1, 1) := o60 ac_cX0_firstLanding_0 1 rfl
theorem dX0_firstLanding_2 : decode cX0_firstLanding 2 = .ok (.iload_n 1, 1) := o27 ac_cX0_firstLanding_0 2 rfl
theorem dX0_firstLanding_3 : decode cX0_firstLanding 3 = .ok (.aload_n 0, 1) := o42 ac_cX0_firstLanding_0 3 rfl
theorem dX0_firstLanding_4 : decode cX0_firstLanding 4 = .ok (.getfield 33, 3) := o180 ac_cX0_firstLanding_0 4 0 33 rfl
theorem dX0_firstLanding_7 : decode cX0_firstLanding 7 = .ok (.if_icmp .ge 19, 3) := o162p ac_cX0_firstLanding_0 7 0 19 rfl rfl
def kb_cX0_firstLanding_16 : List Nat := [0, 5, 27, 172, 132, 1, 1, 167, 255, 235, 2, 172]
theorem ac_cX0_firstLanding_16 : AL cX0_firstLanding 16 kb_cX0_firstLanding_16 := AL.of (m := 12) (by decide +kernel)
theorem dX0_firstLanding_26 : decode cX0_firstLanding 26 = .ok (.iconst (-1), 1) := o2 ac_cX0_firstLanding_16 10 rfl
theorem dX0_firstLanding_27 : decode cX0_firstLanding 27 = .ok (.ireturn, 1) := o172 ac_cX0_firstLanding_16 11 rfl
def kb_cX0_howManyLand_0 : List Nat := [3, 60, 3, 61, 28, 42, 180, 0, 33, 162, 0, 20, 42, 28, 182, 0, 79, 153, 0, 6]
theorem ac_cX0_howManyLand_0 : AL cX0_howManyLand 0 kb_cX0_howManyLand_0 := AL.of (m := 20) (by decide +kernel)
theorem dX0_howManyLand_0 : decode cX0_howManyLand 0 = .ok (.iconst 0, 1) := o3 ac_cX0_howManyLand_0 0 rfl
theorem dX0_howManyLand_1 : decode cX0_howManyLand 1 = .ok (.istore_n 1, 1) := o60 ac_cX0_howManyLand_0 1 rfl
theorem dX0_howManyLand_2 : decode cX0_howManyLand 2 = .ok (.iconst 0, 1) := o3 ac_cX0_howManyLand_0 2 rfl
theorem dX0_howManyLand_3 : decode cX0_howManyLand 3 = .ok (.istore_n 2, 1) := o61 ac_cX0_howManyLand_0 3 rfl
theorem dX0_howManyLand_4 : decode cX0_howManyLand 4 = .ok (.iload_n 2, 1) := o28 ac_cX0_howManyLand_0 4 rfl
theorem dX0_howManyLand_5 : decode cX0_howManyLand 5 = .ok (.aload_n 0, 1) := o42 ac_cX0_howManyLand_0 5 rfl
theorem dX0_howManyLand_6 : decode cX0_howManyLand 6 = .ok (.getfield 33, 3) := o180 ac_cX0_howManyLand_0 6 0 33 rfl
theorem dX0_howManyLand_9 : decode cX0_howManyLand 9 = .ok (.if_icmp .ge 20, 3) := o162p ac_cX0_howManyLand_0 9 0 20 rfl rfl
def kb_cX0_howManyLand_16 : List Nat := [79, 153, 0, 6, 132, 1, 1, 132, 2, 1, 167, 255, 234, 27, 172]
theorem ac_cX0_howManyLand_16 : AL cX0_howManyLand 16 kb_cX0_howManyLand_16 := AL.of (m := 15) (by decide +kernel)
theorem dX0_howManyLand_29 : decode cX0_howManyLand 29 = .ok (.iload_n 1, 1) := o27 ac_cX0_howManyLand_16 13 rfl
theorem dX0_howManyLand_30 : decode cX0_howManyLand 30 = .ok (.ireturn, 1) := o172 ac_cX0_howManyLand_16 14 rfl
def kb_cX0_landingBits_0 : List Nat := [3, 60, 3, 61, 28, 42, 180, 0, 33, 162, 0, 28, 42, 28, 182, 0, 83, 153, 0, 14]
theorem ac_cX0_landingBits_0 : AL cX0_landingBits 0 kb_cX0_landingBits_0 := AL.of (m := 20) (by decide +kernel)
theorem dX0_landingBits_0 : decode cX0_landingBits 0 = .ok (.iconst 0, 1) := o3 ac_cX0_landingBits_0 0 rfl
theorem dX0_landingBits_1 : decode cX0_landingBits 1 = .ok (.istore_n 1, 1) := o60 ac_cX0_landingBits_0 1 rfl
theorem dX0_landingBits_2 : decode cX0_landingBits 2 = .ok (.iconst 0, 1) := o3 ac_cX0_landingBits_0 2 rfl
theorem dX0_landingBits_3 : decode cX0_landingBits 3 = .ok (.istore_n 2, 1) := o61 ac_cX0_landingBits_0 3 rfl
theorem dX0_landingBits_4 : decode cX0_landingBits 4 = .ok (.iload_n 2, 1) := o28 ac_cX0_landingBits_0 4 rfl
theorem dX0_landingBits_5 : decode cX0_landingBits 5 = .ok (.aload_n 0, 1) := o42 ac_cX0_landingBits_0 5 rfl
theorem dX0_landingBits_6 : decode cX0_landingBits 6 = .ok (.getfield 33, 3) := o180 ac_cX0_landingBits_0 6 0 33 rfl
theorem dX0_landingBits_9 : decode cX0_landingBits 9 = .ok (.if_icmp .ge 28, 3) := o162p ac_cX0_landingBits_0 9 0 28 rfl rfl
def kb_cX0_landingBits_32 : List Nat := [2, 1, 167, 255, 226, 27, 172]
theorem ac_cX0_landingBits_32 : AL cX0_landingBits 32 kb_cX0_landingBits_32 := AL.of (m := 7) (by decide +kernel)
theorem dX0_landingBits_37 : decode cX0_landingBits 37 = .ok (.iload_n 1, 1) := o27 ac_cX0_landingBits_32 5 rfl
theorem dX0_landingBits_38 : decode cX0_landingBits 38 = .ok (.ireturn, 1) := o172 ac_cX0_landingBits_32 6 rfl
def kb_cX0_bitsOf_0 : List Nat := [3, 61, 3, 62, 29, 42, 180, 0, 33, 162, 0, 25, 42, 180, 0, 9, 29, 46, 27, 160]
theorem ac_cX0_bitsOf_0 : AL cX0_bitsOf 0 kb_cX0_bitsOf_0 := AL.of (m := 20) (by decide +kernel)
theorem dX0_bitsOf_0 : decode cX0_bitsOf 0 = .ok (.iconst 0, 1) := o3 ac_cX0_bitsOf_0 0 rfl
theorem dX0_bitsOf_1 : decode cX0_bitsOf 1 = .ok (.istore_n 2, 1) := o61 ac_cX0_bitsOf_0 1 rfl
theorem dX0_bitsOf_2 : decode cX0_bitsOf 2 = .ok (.iconst 0, 1) := o3 ac_cX0_bitsOf_0 2 rfl
theorem dX0_bitsOf_3 : decode cX0_bitsOf 3 = .ok (.istore_n 3, 1) := o62 ac_cX0_bitsOf_0 3 rfl
theorem dX0_bitsOf_4 : decode cX0_bitsOf 4 = .ok (.iload_n 3, 1) := o29 ac_cX0_bitsOf_0 4 rfl
theorem dX0_bitsOf_5 : decode cX0_bitsOf 5 = .ok (.aload_n 0, 1) := o42 ac_cX0_bitsOf_0 5 rfl
theorem dX0_bitsOf_6 : decode cX0_bitsOf 6 = .ok (.getfield 33, 3) := o180 ac_cX0_bitsOf_0 6 0 33 rfl
theorem dX0_bitsOf_9 : decode cX0_bitsOf 9 = .ok (.if_icmp .ge 25, 3) := o162p ac_cX0_bitsOf_0 9 0 25 rfl rfl
def kb_cX0_bitsOf_32 : List Nat := [255, 229, 28, 172]
theorem ac_cX0_bitsOf_32 : AL cX0_bitsOf 32 kb_cX0_bitsOf_32 := AL.of (m := 4) (by decide +kernel)
theorem dX0_bitsOf_34 : decode cX0_bitsOf 34 = .ok (.iload_n 2, 1) := o28 ac_cX0_bitsOf_32 2 rfl
theorem dX0_bitsOf_35 : decode cX0_bitsOf 35 = .ok (.ireturn, 1) := o172 ac_cX0_bitsOf_32 3 rfl
def kb_cX0_howManyUp_0 : List Nat := [42, 3, 182, 0, 70, 184, 0, 74, 172]
theorem ac_cX0_howManyUp_0 : AL cX0_howManyUp 0 kb_cX0_howManyUp_0 := AL.of (m := 9) (by decide +kernel)
theorem dX0_howManyUp_0 : decode cX0_howManyUp 0 = .ok (.aload_n 0, 1) := o42 ac_cX0_howManyUp_0 0 rfl
theorem dX0_howManyUp_1 : decode cX0_howManyUp 1 = .ok (.iconst 0, 1) := o3 ac_cX0_howManyUp_0 1 rfl
theorem dX0_howManyUp_2 : decode cX0_howManyUp 2 = .ok (.invokevirtual 70, 3) := o182 ac_cX0_howManyUp_0 2 0 70 rfl
theorem dX0_howManyUp_5 : decode cX0_howManyUp 5 = .ok (.invokestatic 74, 3) := o184 ac_cX0_howManyUp_0 5 0 74 rfl
theorem dX0_howManyUp_8 : decode cX0_howManyUp 8 = .ok (.ireturn, 1) := o172 ac_cX0_howManyUp_0 8 rfl
def kb_cX0_heightBy_0 : List Nat := [42, 180, 0, 25, 2, 159, 0, 8, 42, 180, 0, 25, 172, 43, 42, 180, 0, 21, 182, 0]
theorem ac_cX0_heightBy_0 : AL cX0_heightBy 0 kb_cX0_heightBy_0 := AL.of (m := 20) (by decide +kernel)
theorem dX0_heightBy_0 : decode cX0_heightBy 0 = .ok (.aload_n 0, 1) := o42 ac_cX0_heightBy_0 0 rfl
theorem dX0_heightBy_1 : decode cX0_heightBy 1 = .ok (.getfield 25, 3) := o180 ac_cX0_heightBy_0 1 0 25 rfl
theorem dX0_heightBy_4 : decode cX0_heightBy 4 = .ok (.iconst (-1), 1) := o2 ac_cX0_heightBy_0 4 rfl
theorem dX0_heightBy_5 : decode cX0_heightBy 5 = .ok (.if_icmp .eq 8, 3) := o159p ac_cX0_heightBy_0 5 0 8 rfl rfl
theorem dX0_heightBy_13 : decode cX0_heightBy 13 = .ok (.aload_n 1, 1) := o43 ac_cX0_heightBy_0 13 rfl
theorem dX0_heightBy_14 : decode cX0_heightBy 14 = .ok (.aload_n 0, 1) := o42 ac_cX0_heightBy_0 14 rfl
theorem dX0_heightBy_15 : decode cX0_heightBy 15 = .ok (.getfield 21, 3) := o180 ac_cX0_heightBy_0 15 0 21 rfl
def kb_cX0_heightBy_16 : List Nat := [0, 21, 182, 0, 93, 153, 0, 16, 43, 180, 0, 96, 42, 180, 0, 21, 46, 4, 162, 0]
theorem ac_cX0_heightBy_16 : AL cX0_heightBy 16 kb_cX0_heightBy_16 := AL.of (m := 20) (by decide +kernel)
theorem dX0_heightBy_18 : decode cX0_heightBy 18 = .ok (.invokevirtual 93, 3) := o182 ac_cX0_heightBy_16 2 0 93 rfl
theorem dX0_heightBy_21 : decode cX0_heightBy 21 = .ok (.ifCond .eq 16, 3) := o153p ac_cX0_heightBy_16 5 0 16 rfl rfl
def kb_cX0_heightBy_32 : List Nat := [46, 4, 162, 0, 5, 6, 172, 43, 180, 0, 99, 42, 180, 0, 21, 50, 42, 180, 0, 49]
theorem ac_cX0_heightBy_32 : AL cX0_heightBy 32 kb_cX0_heightBy_32 := AL.of (m := 20) (by decide +kernel)
theorem dX0_heightBy_37 : decode cX0_heightBy 37 = .ok (.iconst 3, 1) := o6 ac_cX0_heightBy_32 5 rfl
theorem dX0_heightBy_38 : decode cX0_heightBy 38 = .ok (.ireturn, 1) := o172 ac_cX0_heightBy_32 6 rfl
def kb_cX0_copy_0 : List Nat := [42, 43, 180, 0, 33, 181, 0, 33, 43, 180, 0, 9, 3, 42, 180, 0, 9, 3, 16, 7]
theorem ac_cX0_copy_0 : AL cX0_copy 0 kb_cX0_copy_0 := AL.of (m := 20) (by decide +kernel)
theorem dX0_copy_0 : decode cX0_copy 0 = .ok (.aload_n 0, 1) := o42 ac_cX0_copy_0 0 rfl
theorem dX0_copy_1 : decode cX0_copy 1 = .ok (.aload_n 1, 1) := o43 ac_cX0_copy_0 1 rfl
theorem dX0_copy_2 : decode cX0_copy 2 = .ok (.getfield 33, 3) := o180 ac_cX0_copy_0 2 0 33 rfl
theorem dX0_copy_5 : decode cX0_copy 5 = .ok (.putfield 33, 3) := o181 ac_cX0_copy_0 5 0 33 rfl
theorem dX0_copy_8 : decode cX0_copy 8 = .ok (.aload_n 1, 1) := o43 ac_cX0_copy_0 8 rfl
theorem dX0_copy_9 : decode cX0_copy 9 = .ok (.getfield 9, 3) := o180 ac_cX0_copy_0 9 0 9 rfl
theorem dX0_copy_12 : decode cX0_copy 12 = .ok (.iconst 0, 1) := o3 ac_cX0_copy_0 12 rfl
theorem dX0_copy_13 : decode cX0_copy 13 = .ok (.aload_n 0, 1) := o42 ac_cX0_copy_0 13 rfl
theorem dX0_copy_14 : decode cX0_copy 14 = .ok (.getfield 9, 3) := o180 ac_cX0_copy_0 14 0 9 rfl
def kb_cX0_copy_16 : List Nat := [9, 3, 16, 7, 184, 0, 43, 43, 180, 0, 15, 3, 42, 180, 0, 15, 3, 16, 7, 184]
theorem ac_cX0_copy_16 : AL cX0_copy 16 kb_cX0_copy_16 := AL.of (m := 20) (by decide +kernel)
theorem dX0_copy_17 : decode cX0_copy 17 = .ok (.iconst 0, 1) := o3 ac_cX0_copy_16 1 rfl
theorem dX0_copy_18 : decode cX0_copy 18 = .ok (.bipush 7, 2) := o16p ac_cX0_copy_16 2 7 rfl rfl
theorem dX0_copy_20 : decode cX0_copy 20 = .ok (.invokestatic 43, 3) := o184 ac_cX0_copy_16 4 0 43 rfl
theorem dX0_copy_23 : decode cX0_copy 23 = .ok (.aload_n 1, 1) := o43 ac_cX0_copy_16 7 rfl
theorem dX0_copy_24 : decode cX0_copy 24 = .ok (.getfield 15, 3) := o180 ac_cX0_copy_16 8 0 15 rfl
theorem dX0_copy_27 : decode cX0_copy 27 = .ok (.iconst 0, 1) := o3 ac_cX0_copy_16 11 rfl
theorem dX0_copy_28 : decode cX0_copy 28 = .ok (.aload_n 0, 1) := o42 ac_cX0_copy_16 12 rfl
theorem dX0_copy_29 : decode cX0_copy 29 = .ok (.getfield 15, 3) := o180 ac_cX0_copy_16 13 0 15 rfl
def kb_cX0_copy_32 : List Nat := [3, 16, 7, 184, 0, 43, 43, 180, 0, 18, 3, 42, 180, 0, 18, 3, 16, 7, 184, 0]
theorem ac_cX0_copy_32 : AL cX0_copy 32 kb_cX0_copy_32 := AL.of (m := 20) (by decide +kernel)
theorem dX0_copy_32 : decode cX0_copy 32 = .ok (.iconst 0, 1) := o3 ac_cX0_copy_32 0 rfl
theorem dX0_copy_33 : decode cX0_copy 33 = .ok (.bipush 7, 2) := o16p ac_cX0_copy_32 1 7 rfl rfl
theorem dX0_copy_35 : decode cX0_copy 35 = .ok (.invokestatic 43, 3) := o184 ac_cX0_copy_32 3 0 43 rfl
theorem dX0_copy_38 : decode cX0_copy 38 = .ok (.aload_n 1, 1) := o43 ac_cX0_copy_32 6 rfl
theorem dX0_copy_39 : decode cX0_copy 39 = .ok (.getfield 18, 3) := o180 ac_cX0_copy_32 7 0 18 rfl
theorem dX0_copy_42 : decode cX0_copy 42 = .ok (.iconst 0, 1) := o3 ac_cX0_copy_32 10 rfl
theorem dX0_copy_43 : decode cX0_copy 43 = .ok (.aload_n 0, 1) := o42 ac_cX0_copy_32 11 rfl
theorem dX0_copy_44 : decode cX0_copy 44 = .ok (.getfield 18, 3) := o180 ac_cX0_copy_32 12 0 18 rfl
theorem dX0_copy_47 : decode cX0_copy 47 = .ok (.iconst 0, 1) := o3 ac_cX0_copy_32 15 rfl
def kb_cX0_copy_48 : List Nat := [16, 7, 184, 0, 43, 42, 43, 180, 0, 49, 181, 0, 49, 42, 43, 180, 0, 52, 181, 0]
theorem ac_cX0_copy_48 : AL cX0_copy 48 kb_cX0_copy_48 := AL.of (m := 20) (by decide +kernel)
theorem dX0_copy_48 : decode cX0_copy 48 = .ok (.bipush 7, 2) := o16p ac_cX0_copy_48 0 7 rfl rfl
theorem dX0_copy_50 : decode cX0_copy 50 = .ok (.invokestatic 43, 3) := o184 ac_cX0_copy_48 2 0 43 rfl
theorem dX0_copy_53 : decode cX0_copy 53 = .ok (.aload_n 0, 1) := o42 ac_cX0_copy_48 5 rfl
theorem dX0_copy_54 : decode cX0_copy 54 = .ok (.aload_n 1, 1) := o43 ac_cX0_copy_48 6 rfl
theorem dX0_copy_55 : decode cX0_copy 55 = .ok (.getfield 49, 3) := o180 ac_cX0_copy_48 7 0 49 rfl
theorem dX0_copy_58 : decode cX0_copy 58 = .ok (.putfield 49, 3) := o181 ac_cX0_copy_48 10 0 49 rfl
theorem dX0_copy_61 : decode cX0_copy 61 = .ok (.aload_n 0, 1) := o42 ac_cX0_copy_48 13 rfl
theorem dX0_copy_62 : decode cX0_copy 62 = .ok (.aload_n 1, 1) := o43 ac_cX0_copy_48 14 rfl
theorem dX0_copy_63 : decode cX0_copy 63 = .ok (.getfield 52, 3) := o180 ac_cX0_copy_48 15 0 52 rfl
def kb_cX0_copy_64 : List Nat := [0, 52, 181, 0, 52, 42, 43, 180, 0, 55, 181, 0, 55, 42, 43, 180, 0, 58, 181, 0]
theorem ac_cX0_copy_64 : AL cX0_copy 64 kb_cX0_copy_64 := AL.of (m := 20) (by decide +kernel)
theorem dX0_copy_66 : decode cX0_copy 66 = .ok (.putfield 52, 3) := o181 ac_cX0_copy_64 2 0 52 rfl
theorem dX0_copy_69 : decode cX0_copy 69 = .ok (.aload_n 0, 1) := o42 ac_cX0_copy_64 5 rfl
theorem dX0_copy_70 : decode cX0_copy 70 = .ok (.aload_n 1, 1) := o43 ac_cX0_copy_64 6 rfl
theorem dX0_copy_71 : decode cX0_copy 71 = .ok (.getfield 55, 3) := o180 ac_cX0_copy_64 7 0 55 rfl
theorem dX0_copy_74 : decode cX0_copy 74 = .ok (.putfield 55, 3) := o181 ac_cX0_copy_64 10 0 55 rfl
theorem dX0_copy_77 : decode cX0_copy 77 = .ok (.aload_n 0, 1) := o42 ac_cX0_copy_64 13 rfl
theorem dX0_copy_78 : decode cX0_copy 78 = .ok (.aload_n 1, 1) := o43 ac_cX0_copy_64 14 rfl
theorem dX0_copy_79 : decode cX0_copy 79 = .ok (.getfield 58, 3) := o180 ac_cX0_copy_64 15 0 58 rfl
def kb_cX0_copy_80 : List Nat := [0, 58, 181, 0, 58, 42, 43, 180, 0, 61, 181, 0, 61, 42, 43, 180, 0, 21, 181, 0]
theorem ac_cX0_copy_80 : AL cX0_copy 80 kb_cX0_copy_80 := AL.of (m := 20) (by decide +kernel)
theorem dX0_copy_82 : decode cX0_copy 82 = .ok (.putfield 58, 3) := o181 ac_cX0_copy_80 2 0 58 rfl
theorem dX0_copy_85 : decode cX0_copy 85 = .ok (.aload_n 0, 1) := o42 ac_cX0_copy_80 5 rfl
theorem dX0_copy_86 : decode cX0_copy 86 = .ok (.aload_n 1, 1) := o43 ac_cX0_copy_80 6 rfl
theorem dX0_copy_87 : decode cX0_copy 87 = .ok (.getfield 61, 3) := o180 ac_cX0_copy_80 7 0 61 rfl
theorem dX0_copy_90 : decode cX0_copy 90 = .ok (.putfield 61, 3) := o181 ac_cX0_copy_80 10 0 61 rfl
theorem dX0_copy_93 : decode cX0_copy 93 = .ok (.aload_n 0, 1) := o42 ac_cX0_copy_80 13 rfl
theorem dX0_copy_94 : decode cX0_copy 94 = .ok (.aload_n 1, 1) := o43 ac_cX0_copy_80 14 rfl
theorem dX0_copy_95 : decode cX0_copy 95 = .ok (.getfield 21, 3) := o180 ac_cX0_copy_80 15 0 21 rfl
def kb_cX0_copy_96 : List Nat := [0, 21, 181, 0, 21, 42, 43, 180, 0, 67, 181, 0, 67, 42, 43, 180, 0, 25, 181, 0]
theorem ac_cX0_copy_96 : AL cX0_copy 96 kb_cX0_copy_96 := AL.of (m := 20) (by decide +kernel)
theorem dX0_copy_98 : decode cX0_copy 98 = .ok (.putfield 21, 3) := o181 ac_cX0_copy_96 2 0 21 rfl
theorem dX0_copy_101 : decode cX0_copy 101 = .ok (.aload_n 0, 1) := o42 ac_cX0_copy_96 5 rfl
theorem dX0_copy_102 : decode cX0_copy 102 = .ok (.aload_n 1, 1) := o43 ac_cX0_copy_96 6 rfl
theorem dX0_copy_103 : decode cX0_copy 103 = .ok (.getfield 67, 3) := o180 ac_cX0_copy_96 7 0 67 rfl
theorem dX0_copy_106 : decode cX0_copy 106 = .ok (.putfield 67, 3) := o181 ac_cX0_copy_96 10 0 67 rfl
theorem dX0_copy_109 : decode cX0_copy 109 = .ok (.aload_n 0, 1) := o42 ac_cX0_copy_96 13 rfl
theorem dX0_copy_110 : decode cX0_copy 110 = .ok (.aload_n 1, 1) := o43 ac_cX0_copy_96 14 rfl
theorem dX0_copy_111 : decode cX0_copy 111 = .ok (.getfield 25, 3) := o180 ac_cX0_copy_96 15 0 25 rfl
def kb_cX0_copy_112 : List Nat := [0, 25, 181, 0, 25, 177]
theorem ac_cX0_copy_112 : AL cX0_copy 112 kb_cX0_copy_112 := AL.of (m := 6) (by decide +kernel)
theorem dX0_copy_114 : decode cX0_copy 114 = .ok (.putfield 25, 3) := o181 ac_cX0_copy_112 2 0 25 rfl
theorem dX0_copy_117 : decode cX0_copy 117 = .ok (.return_, 1) := o177 ac_cX0_copy_112 5 rfl
def kb_cX5_keep_0 : List Nat := [42, 180, 0, 11, 42, 180, 0, 22, 50, 43, 182, 0, 25, 42, 42, 180, 0, 22, 4, 96]
theorem ac_cX5_keep_0 : AL cX5_keep 0 kb_cX5_keep_0 := AL.of (m := 20) (by decide +kernel)
theorem dX5_keep_0 : decode cX5_keep 0 = .ok (.aload_n 0, 1) := o42 ac_cX5_keep_0 0 rfl
theorem dX5_keep_1 : decode cX5_keep 1 = .ok (.getfield 11, 3) := o180 ac_cX5_keep_0 1 0 11 rfl
theorem dX5_keep_4 : decode cX5_keep 4 = .ok (.aload_n 0, 1) := o42 ac_cX5_keep_0 4 rfl
theorem dX5_keep_5 : decode cX5_keep 5 = .ok (.getfield 22, 3) := o180 ac_cX5_keep_0 5 0 22 rfl
theorem dX5_keep_8 : decode cX5_keep 8 = .ok (.aaload, 1) := o50 ac_cX5_keep_0 8 rfl
theorem dX5_keep_9 : decode cX5_keep 9 = .ok (.aload_n 1, 1) := o43 ac_cX5_keep_0 9 rfl
theorem dX5_keep_10 : decode cX5_keep 10 = .ok (.invokevirtual 25, 3) := o182 ac_cX5_keep_0 10 0 25 rfl
theorem dX5_keep_13 : decode cX5_keep 13 = .ok (.aload_n 0, 1) := o42 ac_cX5_keep_0 13 rfl
theorem dX5_keep_14 : decode cX5_keep 14 = .ok (.aload_n 0, 1) := o42 ac_cX5_keep_0 14 rfl
theorem dX5_keep_15 : decode cX5_keep 15 = .ok (.getfield 22, 3) := o180 ac_cX5_keep_0 15 0 22 rfl
def kb_cX5_keep_16 : List Nat := [0, 22, 4, 96, 16, 40, 112, 181, 0, 22, 42, 16, 40, 42, 180, 0, 18, 4, 96, 184]
theorem ac_cX5_keep_16 : AL cX5_keep 16 kb_cX5_keep_16 := AL.of (m := 20) (by decide +kernel)
theorem dX5_keep_18 : decode cX5_keep 18 = .ok (.iconst 1, 1) := o4 ac_cX5_keep_16 2 rfl
theorem dX5_keep_19 : decode cX5_keep 19 = .ok (.iadd, 1) := o96 ac_cX5_keep_16 3 rfl
theorem dX5_keep_20 : decode cX5_keep 20 = .ok (.bipush 40, 2) := o16p ac_cX5_keep_16 4 40 rfl rfl
theorem dX5_keep_22 : decode cX5_keep 22 = .ok (.irem, 1) := o112 ac_cX5_keep_16 6 rfl
theorem dX5_keep_23 : decode cX5_keep 23 = .ok (.putfield 22, 3) := o181 ac_cX5_keep_16 7 0 22 rfl
theorem dX5_keep_26 : decode cX5_keep 26 = .ok (.aload_n 0, 1) := o42 ac_cX5_keep_16 10 rfl
theorem dX5_keep_27 : decode cX5_keep 27 = .ok (.bipush 40, 2) := o16p ac_cX5_keep_16 11 40 rfl rfl
theorem dX5_keep_29 : decode cX5_keep 29 = .ok (.aload_n 0, 1) := o42 ac_cX5_keep_16 13 rfl
theorem dX5_keep_30 : decode cX5_keep 30 = .ok (.getfield 18, 3) := o180 ac_cX5_keep_16 14 0 18 rfl
def kb_cX5_keep_32 : List Nat := [18, 4, 96, 184, 0, 29, 181, 0, 18, 177]
theorem ac_cX5_keep_32 : AL cX5_keep 32 kb_cX5_keep_32 := AL.of (m := 10) (by decide +kernel)
theorem dX5_keep_33 : decode cX5_keep 33 = .ok (.iconst 1, 1) := o4 ac_cX5_keep_32 1 rfl
theorem dX5_keep_34 : decode cX5_keep 34 = .ok (.iadd, 1) := o96 ac_cX5_keep_32 2 rfl
theorem dX5_keep_35 : decode cX5_keep 35 = .ok (.invokestatic 29, 3) := o184 ac_cX5_keep_32 3 0 29 rfl
theorem dX5_keep_38 : decode cX5_keep 38 = .ok (.putfield 18, 3) := o181 ac_cX5_keep_32 6 0 18 rfl
theorem dX5_keep_41 : decode cX5_keep 41 = .ok (.return_, 1) := o177 ac_cX5_keep_32 9 rfl
def kb_cX4_oneBeat_0 : List Nat := [44, 182, 0, 22, 54, 4, 21, 4, 2, 160, 0, 23, 44, 3, 44, 180, 0, 42, 43, 180]
theorem ac_cX4_oneBeat_0 : AL cX4_oneBeat 0 kb_cX4_oneBeat_0 := AL.of (m := 20) (by decide +kernel)
theorem dX4_oneBeat_0 : decode cX4_oneBeat 0 = .ok (.aload_n 2, 1) := o44 ac_cX4_oneBeat_0 0 rfl
theorem dX4_oneBeat_1 : decode cX4_oneBeat 1 = .ok (.invokevirtual 22, 3) := o182 ac_cX4_oneBeat_0 1 0 22 rfl
theorem dX4_oneBeat_4 : decode cX4_oneBeat 4 = .ok (.istore 4, 2) := o54 ac_cX4_oneBeat_0 4 4 rfl
theorem dX4_oneBeat_6 : decode cX4_oneBeat 6 = .ok (.iload 4, 2) := o21 ac_cX4_oneBeat_0 6 4 rfl
theorem dX4_oneBeat_8 : decode cX4_oneBeat 8 = .ok (.iconst (-1), 1) := o2 ac_cX4_oneBeat_0 8 rfl
theorem dX4_oneBeat_9 : decode cX4_oneBeat 9 = .ok (.if_icmp .ne 23, 3) := o160p ac_cX4_oneBeat_0 9 0 23 rfl rfl
theorem dX4_oneBeat_12 : decode cX4_oneBeat 12 = .ok (.aload_n 2, 1) := o44 ac_cX4_oneBeat_0 12 rfl
theorem dX4_oneBeat_13 : decode cX4_oneBeat 13 = .ok (.iconst 0, 1) := o3 ac_cX4_oneBeat_0 13 rfl
theorem dX4_oneBeat_14 : decode cX4_oneBeat 14 = .ok (.aload_n 2, 1) := o44 ac_cX4_oneBeat_0 14 rfl
theorem dX4_oneBeat_15 : decode cX4_oneBeat 15 = .ok (.getfield 42, 3) := o180 ac_cX4_oneBeat_0 15 0 42 rfl
def kb_cX4_oneBeat_16 : List Nat := [0, 42, 43, 180, 0, 46, 100, 184, 0, 51, 181, 0, 42, 167, 0, 60, 21, 4, 4, 96]
theorem ac_cX4_oneBeat_16 : AL cX4_oneBeat 16 kb_cX4_oneBeat_16 := AL.of (m := 20) (by decide +kernel)
theorem dX4_oneBeat_18 : decode cX4_oneBeat 18 = .ok (.aload_n 1, 1) := o43 ac_cX4_oneBeat_16 2 rfl
theorem dX4_oneBeat_19 : decode cX4_oneBeat 19 = .ok (.getfield 46, 3) := o180 ac_cX4_oneBeat_16 3 0 46 rfl
theorem dX4_oneBeat_22 : decode cX4_oneBeat 22 = .ok (.isub, 1) := o100 ac_cX4_oneBeat_16 6 rfl
theorem dX4_oneBeat_23 : decode cX4_oneBeat 23 = .ok (.invokestatic 51, 3) := o184 ac_cX4_oneBeat_16 7 0 51 rfl
theorem dX4_oneBeat_26 : decode cX4_oneBeat 26 = .ok (.putfield 42, 3) := o181 ac_cX4_oneBeat_16 10 0 42 rfl
theorem dX4_oneBeat_29 : decode cX4_oneBeat 29 = .ok (.goto 60, 3) := o167p ac_cX4_oneBeat_16 13 0 60 rfl rfl
def kb_cX4_oneBeat_80 : List Nat := [42, 43, 44, 21, 4, 29, 182, 0, 68, 3, 54, 5, 21, 5, 44, 180, 0, 57, 162, 0]
theorem ac_cX4_oneBeat_80 : AL cX4_oneBeat 80 kb_cX4_oneBeat_80 := AL.of (m := 20) (by decide +kernel)
theorem dX4_oneBeat_89 : decode cX4_oneBeat 89 = .ok (.iconst 0, 1) := o3 ac_cX4_oneBeat_80 9 rfl
theorem dX4_oneBeat_90 : decode cX4_oneBeat 90 = .ok (.istore 5, 2) := o54 ac_cX4_oneBeat_80 10 5 rfl
theorem dX4_oneBeat_92 : decode cX4_oneBeat 92 = .ok (.iload 5, 2) := o21 ac_cX4_oneBeat_80 12 5 rfl
theorem dX4_oneBeat_94 : decode cX4_oneBeat 94 = .ok (.aload_n 2, 1) := o44 ac_cX4_oneBeat_80 14 rfl
theorem dX4_oneBeat_95 : decode cX4_oneBeat 95 = .ok (.getfield 57, 3) := o180 ac_cX4_oneBeat_80 15 0 57 rfl
def kb_cX4_oneBeat_96 : List Nat := [0, 57, 162, 0, 29, 44, 21, 5, 182, 0, 71, 153, 0, 14, 44, 180, 0, 74, 21, 5]
theorem ac_cX4_oneBeat_96 : AL cX4_oneBeat 96 kb_cX4_oneBeat_96 := AL.of (m := 20) (by decide +kernel)
theorem dX4_oneBeat_98 : decode cX4_oneBeat 98 = .ok (.if_icmp .ge 29, 3) := o162p ac_cX4_oneBeat_96 2 0 29 rfl rfl
def kb_cX4_oneBeat_112 : List Nat := [0, 74, 21, 5, 92, 46, 4, 100, 79, 132, 5, 1, 167, 255, 224, 44, 89, 180, 0, 78]
theorem ac_cX4_oneBeat_112 : AL cX4_oneBeat 112 kb_cX4_oneBeat_112 := AL.of (m := 20) (by decide +kernel)
theorem dX4_oneBeat_127 : decode cX4_oneBeat 127 = .ok (.aload_n 2, 1) := o44 ac_cX4_oneBeat_112 15 rfl
def kb_cX4_oneBeat_128 : List Nat := [89, 180, 0, 78, 4, 96, 181, 0, 78, 44, 2, 181, 0, 81, 177]
theorem ac_cX4_oneBeat_128 : AL cX4_oneBeat 128 kb_cX4_oneBeat_128 := AL.of (m := 15) (by decide +kernel)
theorem dX4_oneBeat_128 : decode cX4_oneBeat 128 = .ok (.dup, 1) := o89 ac_cX4_oneBeat_128 0 rfl
theorem dX4_oneBeat_129 : decode cX4_oneBeat 129 = .ok (.getfield 78, 3) := o180 ac_cX4_oneBeat_128 1 0 78 rfl
theorem dX4_oneBeat_132 : decode cX4_oneBeat 132 = .ok (.iconst 1, 1) := o4 ac_cX4_oneBeat_128 4 rfl
theorem dX4_oneBeat_133 : decode cX4_oneBeat 133 = .ok (.iadd, 1) := o96 ac_cX4_oneBeat_128 5 rfl
theorem dX4_oneBeat_134 : decode cX4_oneBeat 134 = .ok (.putfield 78, 3) := o181 ac_cX4_oneBeat_128 6 0 78 rfl
theorem dX4_oneBeat_137 : decode cX4_oneBeat 137 = .ok (.aload_n 2, 1) := o44 ac_cX4_oneBeat_128 9 rfl
theorem dX4_oneBeat_138 : decode cX4_oneBeat 138 = .ok (.iconst (-1), 1) := o2 ac_cX4_oneBeat_128 10 rfl
theorem dX4_oneBeat_139 : decode cX4_oneBeat 139 = .ok (.putfield 81, 3) := o181 ac_cX4_oneBeat_128 11 0 81 rfl
theorem dX4_oneBeat_142 : decode cX4_oneBeat 142 = .ok (.return_, 1) := o177 ac_cX4_oneBeat_128 14 rfl
def kb_cX4_goOn_0 : List Nat := [3, 54, 5, 21, 5, 29, 162, 0, 17, 42, 43, 44, 21, 4, 182, 0, 18, 132, 5, 1]
theorem ac_cX4_goOn_0 : AL cX4_goOn 0 kb_cX4_goOn_0 := AL.of (m := 20) (by decide +kernel)
theorem dX4_goOn_0 : decode cX4_goOn 0 = .ok (.iconst 0, 1) := o3 ac_cX4_goOn_0 0 rfl
theorem dX4_goOn_1 : decode cX4_goOn 1 = .ok (.istore 5, 2) := o54 ac_cX4_goOn_0 1 5 rfl
theorem dX4_goOn_3 : decode cX4_goOn 3 = .ok (.iload 5, 2) := o21 ac_cX4_goOn_0 3 5 rfl
theorem dX4_goOn_5 : decode cX4_goOn 5 = .ok (.iload_n 3, 1) := o29 ac_cX4_goOn_0 5 rfl
theorem dX4_goOn_6 : decode cX4_goOn 6 = .ok (.if_icmp .ge 17, 3) := o162p ac_cX4_goOn_0 6 0 17 rfl rfl
theorem dX4_goOn_9 : decode cX4_goOn 9 = .ok (.aload_n 0, 1) := o42 ac_cX4_goOn_0 9 rfl
theorem dX4_goOn_10 : decode cX4_goOn 10 = .ok (.aload_n 1, 1) := o43 ac_cX4_goOn_0 10 rfl
theorem dX4_goOn_11 : decode cX4_goOn 11 = .ok (.aload_n 2, 1) := o44 ac_cX4_goOn_0 11 rfl
theorem dX4_goOn_12 : decode cX4_goOn 12 = .ok (.iload 4, 2) := o21 ac_cX4_goOn_0 12 4 rfl
theorem dX4_goOn_14 : decode cX4_goOn 14 = .ok (.invokevirtual 18, 3) := o182 ac_cX4_goOn_0 14 0 18 rfl
def kb_cX4_goOn_16 : List Nat := [18, 132, 5, 1, 167, 255, 239, 177]
theorem ac_cX4_goOn_16 : AL cX4_goOn 16 kb_cX4_goOn_16 := AL.of (m := 8) (by decide +kernel)
theorem dX4_goOn_17 : decode cX4_goOn 17 = .ok (.iinc 5 1, 3) := o132p ac_cX4_goOn_16 1 5 1 rfl rfl
theorem dX4_goOn_20 : decode cX4_goOn 20 = .ok (.goto (-17), 3) := o167n ac_cX4_goOn_16 4 255 239 16 rfl rfl rfl
theorem dX4_goOn_23 : decode cX4_goOn 23 = .ok (.return_, 1) := o177 ac_cX4_goOn_16 7 rfl
def kb_cX4_goOnSafely_0 : List Nat := [42, 43, 44, 2, 182, 0, 18, 177]
theorem ac_cX4_goOnSafely_0 : AL cX4_goOnSafely 0 kb_cX4_goOnSafely_0 := AL.of (m := 8) (by decide +kernel)
theorem dX4_goOnSafely_0 : decode cX4_goOnSafely 0 = .ok (.aload_n 0, 1) := o42 ac_cX4_goOnSafely_0 0 rfl
theorem dX4_goOnSafely_1 : decode cX4_goOnSafely 1 = .ok (.aload_n 1, 1) := o43 ac_cX4_goOnSafely_0 1 rfl
theorem dX4_goOnSafely_2 : decode cX4_goOnSafely 2 = .ok (.aload_n 2, 1) := o44 ac_cX4_goOnSafely_0 2 rfl
theorem dX4_goOnSafely_3 : decode cX4_goOnSafely 3 = .ok (.iconst (-1), 1) := o2 ac_cX4_goOnSafely_0 3 rfl
theorem dX4_goOnSafely_4 : decode cX4_goOnSafely 4 = .ok (.invokevirtual 18, 3) := o182 ac_cX4_goOnSafely_0 4 0 18 rfl
theorem dX4_goOnSafely_7 : decode cX4_goOnSafely 7 = .ok (.return_, 1) := o177 ac_cX4_goOnSafely_0 7 rfl
def kb_cX4_inForce_0 : List Nat := [44, 182, 0, 22, 62, 29, 2, 160, 0, 5, 3, 172, 42, 43, 44, 29, 44, 182, 0, 28]
theorem ac_cX4_inForce_0 : AL cX4_inForce 0 kb_cX4_inForce_0 := AL.of (m := 20) (by decide +kernel)
theorem dX4_inForce_0 : decode cX4_inForce 0 = .ok (.aload_n 2, 1) := o44 ac_cX4_inForce_0 0 rfl
theorem dX4_inForce_1 : decode cX4_inForce 1 = .ok (.invokevirtual 22, 3) := o182 ac_cX4_inForce_0 1 0 22 rfl
theorem dX4_inForce_4 : decode cX4_inForce 4 = .ok (.istore_n 3, 1) := o62 ac_cX4_inForce_0 4 rfl
theorem dX4_inForce_5 : decode cX4_inForce 5 = .ok (.iload_n 3, 1) := o29 ac_cX4_inForce_0 5 rfl
theorem dX4_inForce_6 : decode cX4_inForce 6 = .ok (.iconst (-1), 1) := o2 ac_cX4_inForce_0 6 rfl
theorem dX4_inForce_7 : decode cX4_inForce 7 = .ok (.if_icmp .ne 5, 3) := o160p ac_cX4_inForce_0 7 0 5 rfl rfl
theorem dX4_inForce_10 : decode cX4_inForce 10 = .ok (.iconst 0, 1) := o3 ac_cX4_inForce_0 10 rfl
theorem dX4_inForce_11 : decode cX4_inForce 11 = .ok (.ireturn, 1) := o172 ac_cX4_inForce_0 11 rfl
def kb_cX11_thing_0 : List Nat := [42, 180, 0, 82, 27, 182, 0, 121, 154, 0, 5, 2, 172, 28, 170, 0, 0, 0, 0, 100]
theorem ac_cX11_thing_0 : AL cX11_thing 0 kb_cX11_thing_0 := AL.of (m := 20) (by decide +kernel)
theorem dX11_thing_0 : decode cX11_thing 0 = .ok (.aload_n 0, 1) := o42 ac_cX11_thing_0 0 rfl
theorem dX11_thing_1 : decode cX11_thing 1 = .ok (.getfield 82, 3) := o180 ac_cX11_thing_0 1 0 82 rfl
theorem dX11_thing_4 : decode cX11_thing 4 = .ok (.iload_n 1, 1) := o27 ac_cX11_thing_0 4 rfl
theorem dX11_thing_5 : decode cX11_thing 5 = .ok (.invokevirtual 121, 3) := o182 ac_cX11_thing_0 5 0 121 rfl
theorem dX11_thing_8 : decode cX11_thing 8 = .ok (.ifCond .ne 5, 3) := o154p ac_cX11_thing_0 8 0 5 rfl rfl
theorem dX11_thing_11 : decode cX11_thing 11 = .ok (.iconst (-1), 1) := o2 ac_cX11_thing_0 11 rfl
theorem dX11_thing_12 : decode cX11_thing 12 = .ok (.ireturn, 1) := o172 ac_cX11_thing_0 12 rfl
def kb_cX11_pattern_0 : List Nat := [42, 180, 0, 82, 27, 182, 0, 143, 154, 0, 5, 2, 172, 28, 2, 160, 0, 13, 42, 180]
theorem ac_cX11_pattern_0 : AL cX11_pattern 0 kb_cX11_pattern_0 := AL.of (m := 20) (by decide +kernel)
theorem dX11_pattern_0 : decode cX11_pattern 0 = .ok (.aload_n 0, 1) := o42 ac_cX11_pattern_0 0 rfl
theorem dX11_pattern_1 : decode cX11_pattern 1 = .ok (.getfield 82, 3) := o180 ac_cX11_pattern_0 1 0 82 rfl
theorem dX11_pattern_4 : decode cX11_pattern 4 = .ok (.iload_n 1, 1) := o27 ac_cX11_pattern_0 4 rfl
theorem dX11_pattern_5 : decode cX11_pattern 5 = .ok (.invokevirtual 143, 3) := o182 ac_cX11_pattern_0 5 0 143 rfl
theorem dX11_pattern_8 : decode cX11_pattern 8 = .ok (.ifCond .ne 5, 3) := o154p ac_cX11_pattern_0 8 0 5 rfl rfl
theorem dX11_pattern_11 : decode cX11_pattern 11 = .ok (.iconst (-1), 1) := o2 ac_cX11_pattern_0 11 rfl
theorem dX11_pattern_12 : decode cX11_pattern 12 = .ok (.ireturn, 1) := o172 ac_cX11_pattern_0 12 rfl
def kb_cX11_tells_0 : List Nat := [42, 180, 0, 82, 27, 182, 0, 121, 153, 0, 12, 29, 155, 0, 8, 29, 6, 164, 0, 6]
theorem ac_cX11_tells_0 : AL cX11_tells 0 kb_cX11_tells_0 := AL.of (m := 20) (by decide +kernel)
theorem dX11_tells_0 : decode cX11_tells 0 = .ok (.aload_n 0, 1) := o42 ac_cX11_tells_0 0 rfl
theorem dX11_tells_1 : decode cX11_tells 1 = .ok (.getfield 82, 3) := o180 ac_cX11_tells_0 1 0 82 rfl
theorem dX11_tells_4 : decode cX11_tells 4 = .ok (.iload_n 1, 1) := o27 ac_cX11_tells_0 4 rfl
theorem dX11_tells_5 : decode cX11_tells 5 = .ok (.invokevirtual 121, 3) := o182 ac_cX11_tells_0 5 0 121 rfl
theorem dX11_tells_8 : decode cX11_tells 8 = .ok (.ifCond .eq 12, 3) := o153p ac_cX11_tells_0 8 0 12 rfl rfl
def kb_cX11_tells_16 : List Nat := [6, 164, 0, 6, 16, 156, 172, 29, 153, 0, 8, 29, 4, 160, 0, 7, 4, 167, 0, 4]
theorem ac_cX11_tells_16 : AL cX11_tells 16 kb_cX11_tells_16 := AL.of (m := 20) (by decide +kernel)
theorem dX11_tells_20 : decode cX11_tells 20 = .ok (.bipush (-100), 2) := o16n ac_cX11_tells_16 4 156 99 rfl rfl rfl
theorem dX11_tells_22 : decode cX11_tells 22 = .ok (.ireturn, 1) := o172 ac_cX11_tells_16 6 rfl
def kb_cX11_throwIn_0 : List Nat := [42, 180, 0, 82, 27, 182, 0, 121, 153, 0, 21, 42, 180, 0, 54, 27, 182, 0, 134, 154]
theorem ac_cX11_throwIn_0 : AL cX11_throwIn 0 kb_cX11_throwIn_0 := AL.of (m := 20) (by decide +kernel)
theorem dX11_throwIn_0 : decode cX11_throwIn 0 = .ok (.aload_n 0, 1) := o42 ac_cX11_throwIn_0 0 rfl
theorem dX11_throwIn_1 : decode cX11_throwIn 1 = .ok (.getfield 82, 3) := o180 ac_cX11_throwIn_0 1 0 82 rfl
theorem dX11_throwIn_4 : decode cX11_throwIn 4 = .ok (.iload_n 1, 1) := o27 ac_cX11_throwIn_0 4 rfl
theorem dX11_throwIn_5 : decode cX11_throwIn 5 = .ok (.invokevirtual 121, 3) := o182 ac_cX11_throwIn_0 5 0 121 rfl
theorem dX11_throwIn_8 : decode cX11_throwIn 8 = .ok (.ifCond .eq 21, 3) := o153p ac_cX11_throwIn_0 8 0 21 rfl rfl
def kb_cX11_throwIn_16 : List Nat := [182, 0, 134, 154, 0, 10, 28, 184, 0, 153, 154, 0, 5, 3, 172, 42, 180, 0, 26, 42]
theorem ac_cX11_throwIn_16 : AL cX11_throwIn 16 kb_cX11_throwIn_16 := AL.of (m := 20) (by decide +kernel)
theorem dX11_throwIn_29 : decode cX11_throwIn 29 = .ok (.iconst 0, 1) := o3 ac_cX11_throwIn_16 13 rfl
theorem dX11_throwIn_30 : decode cX11_throwIn 30 = .ok (.ireturn, 1) := o172 ac_cX11_throwIn_16 14 rfl
def kb_cX11_use_0 : List Nat := [42, 180, 0, 82, 27, 182, 0, 143, 154, 0, 5, 3, 172, 42, 180, 0, 26, 42, 180, 0]
theorem ac_cX11_use_0 : AL cX11_use 0 kb_cX11_use_0 := AL.of (m := 20) (by decide +kernel)
theorem dX11_use_0 : decode cX11_use 0 = .ok (.aload_n 0, 1) := o42 ac_cX11_use_0 0 rfl
theorem dX11_use_1 : decode cX11_use 1 = .ok (.getfield 82, 3) := o180 ac_cX11_use_0 1 0 82 rfl
theorem dX11_use_4 : decode cX11_use 4 = .ok (.iload_n 1, 1) := o27 ac_cX11_use_0 4 rfl
theorem dX11_use_5 : decode cX11_use 5 = .ok (.invokevirtual 143, 3) := o182 ac_cX11_use_0 5 0 143 rfl
theorem dX11_use_8 : decode cX11_use 8 = .ok (.ifCond .ne 5, 3) := o154p ac_cX11_use_0 8 0 5 rfl rfl
theorem dX11_use_11 : decode cX11_use 11 = .ok (.iconst 0, 1) := o3 ac_cX11_use_0 11 rfl
theorem dX11_use_12 : decode cX11_use 12 = .ok (.ireturn, 1) := o172 ac_cX11_use_0 12 rfl
def kb_cX11_closes_0 : List Nat := [42, 180, 0, 82, 27, 182, 0, 143, 153, 0, 12, 28, 155, 0, 8, 28, 4, 164, 0, 5]
theorem ac_cX11_closes_0 : AL cX11_closes 0 kb_cX11_closes_0 := AL.of (m := 20) (by decide +kernel)
theorem dX11_closes_0 : decode cX11_closes 0 = .ok (.aload_n 0, 1) := o42 ac_cX11_closes_0 0 rfl
theorem dX11_closes_1 : decode cX11_closes 1 = .ok (.getfield 82, 3) := o180 ac_cX11_closes_0 1 0 82 rfl
theorem dX11_closes_4 : decode cX11_closes 4 = .ok (.iload_n 1, 1) := o27 ac_cX11_closes_0 4 rfl
theorem dX11_closes_5 : decode cX11_closes 5 = .ok (.invokevirtual 143, 3) := o182 ac_cX11_closes_0 5 0 143 rfl
theorem dX11_closes_8 : decode cX11_closes 8 = .ok (.ifCond .eq 12, 3) := o153p ac_cX11_closes_0 8 0 12 rfl rfl
def kb_cX11_closes_16 : List Nat := [4, 164, 0, 5, 2, 172, 42, 180, 0, 82, 180, 0, 149, 27, 50, 42, 180, 0, 82, 180]
theorem ac_cX11_closes_16 : AL cX11_closes 16 kb_cX11_closes_16 := AL.of (m := 20) (by decide +kernel)
theorem dX11_closes_20 : decode cX11_closes 20 = .ok (.iconst (-1), 1) := o2 ac_cX11_closes_16 4 rfl
theorem dX11_closes_21 : decode cX11_closes 21 = .ok (.ireturn, 1) := o172 ac_cX11_closes_16 5 rfl
def kb_cX11_joined_0 : List Nat := [42, 180, 0, 82, 27, 182, 0, 143, 153, 0, 23, 42, 180, 0, 82, 28, 182, 0, 143, 153]
theorem ac_cX11_joined_0 : AL cX11_joined 0 kb_cX11_joined_0 := AL.of (m := 20) (by decide +kernel)
theorem dX11_joined_0 : decode cX11_joined 0 = .ok (.aload_n 0, 1) := o42 ac_cX11_joined_0 0 rfl
theorem dX11_joined_1 : decode cX11_joined 1 = .ok (.getfield 82, 3) := o180 ac_cX11_joined_0 1 0 82 rfl
theorem dX11_joined_4 : decode cX11_joined 4 = .ok (.iload_n 1, 1) := o27 ac_cX11_joined_0 4 rfl
theorem dX11_joined_5 : decode cX11_joined 5 = .ok (.invokevirtual 143, 3) := o182 ac_cX11_joined_0 5 0 143 rfl
theorem dX11_joined_8 : decode cX11_joined 8 = .ok (.ifCond .eq 23, 3) := o153p ac_cX11_joined_0 8 0 23 rfl rfl
def kb_cX11_joined_16 : List Nat := [182, 0, 143, 153, 0, 12, 29, 155, 0, 8, 29, 4, 164, 0, 5, 2, 172, 42, 180, 0]
theorem ac_cX11_joined_16 : AL cX11_joined 16 kb_cX11_joined_16 := AL.of (m := 20) (by decide +kernel)
theorem dX11_joined_31 : decode cX11_joined 31 = .ok (.iconst (-1), 1) := o2 ac_cX11_joined_16 15 rfl
def kb_cX11_joined_32 : List Nat := [172, 42, 180, 0, 82, 180, 0, 146, 27, 46, 54, 4, 42, 180, 0, 82, 180, 0, 149, 27]
theorem ac_cX11_joined_32 : AL cX11_joined 32 kb_cX11_joined_32 := AL.of (m := 20) (by decide +kernel)
theorem dX11_joined_32 : decode cX11_joined 32 = .ok (.ireturn, 1) := o172 ac_cX11_joined_32 0 rfl
def kb_cX11_turned_0 : List Nat := [42, 180, 0, 82, 27, 182, 0, 143, 153, 0, 14, 42, 180, 0, 82, 28, 182, 0, 143, 154]
theorem ac_cX11_turned_0 : AL cX11_turned 0 kb_cX11_turned_0 := AL.of (m := 20) (by decide +kernel)
theorem dX11_turned_0 : decode cX11_turned 0 = .ok (.aload_n 0, 1) := o42 ac_cX11_turned_0 0 rfl
theorem dX11_turned_1 : decode cX11_turned 1 = .ok (.getfield 82, 3) := o180 ac_cX11_turned_0 1 0 82 rfl
theorem dX11_turned_4 : decode cX11_turned 4 = .ok (.iload_n 1, 1) := o27 ac_cX11_turned_0 4 rfl
theorem dX11_turned_5 : decode cX11_turned 5 = .ok (.invokevirtual 143, 3) := o182 ac_cX11_turned_0 5 0 143 rfl
theorem dX11_turned_8 : decode cX11_turned 8 = .ok (.ifCond .eq 14, 3) := o153p ac_cX11_turned_0 8 0 14 rfl rfl
def kb_cX11_turned_16 : List Nat := [182, 0, 143, 154, 0, 5, 2, 172, 42, 180, 0, 82, 180, 0, 146, 27, 46, 62, 29, 42]
theorem ac_cX11_turned_16 : AL cX11_turned 16 kb_cX11_turned_16 := AL.of (m := 20) (by decide +kernel)
theorem dX11_turned_22 : decode cX11_turned 22 = .ok (.iconst (-1), 1) := o2 ac_cX11_turned_16 6 rfl
theorem dX11_turned_23 : decode cX11_turned 23 = .ok (.ireturn, 1) := o172 ac_cX11_turned_16 7 rfl
def kb_cX11_span_0 : List Nat := [42, 180, 0, 82, 27, 182, 0, 143, 154, 0, 5, 2, 172, 42, 180, 0, 82, 180, 0, 149]
theorem ac_cX11_span_0 : AL cX11_span 0 kb_cX11_span_0 := AL.of (m := 20) (by decide +kernel)
theorem dX11_span_0 : decode cX11_span 0 = .ok (.aload_n 0, 1) := o42 ac_cX11_span_0 0 rfl
theorem dX11_span_1 : decode cX11_span 1 = .ok (.getfield 82, 3) := o180 ac_cX11_span_0 1 0 82 rfl
theorem dX11_span_4 : decode cX11_span 4 = .ok (.iload_n 1, 1) := o27 ac_cX11_span_0 4 rfl
theorem dX11_span_5 : decode cX11_span 5 = .ok (.invokevirtual 143, 3) := o182 ac_cX11_span_0 5 0 143 rfl
theorem dX11_span_8 : decode cX11_span 8 = .ok (.ifCond .ne 5, 3) := o154p ac_cX11_span_0 8 0 5 rfl rfl
theorem dX11_span_11 : decode cX11_span 11 = .ok (.iconst (-1), 1) := o2 ac_cX11_span_0 11 rfl
theorem dX11_span_12 : decode cX11_span 12 = .ok (.ireturn, 1) := o172 ac_cX11_span_0 12 rfl
def kb_cX11_orbits_0 : List Nat := [42, 180, 0, 82, 27, 182, 0, 143, 154, 0, 5, 2, 172, 42, 180, 0, 82, 180, 0, 149]
theorem ac_cX11_orbits_0 : AL cX11_orbits 0 kb_cX11_orbits_0 := AL.of (m := 20) (by decide +kernel)
theorem dX11_orbits_0 : decode cX11_orbits 0 = .ok (.aload_n 0, 1) := o42 ac_cX11_orbits_0 0 rfl
theorem dX11_orbits_1 : decode cX11_orbits 1 = .ok (.getfield 82, 3) := o180 ac_cX11_orbits_0 1 0 82 rfl
theorem dX11_orbits_4 : decode cX11_orbits 4 = .ok (.iload_n 1, 1) := o27 ac_cX11_orbits_0 4 rfl
theorem dX11_orbits_5 : decode cX11_orbits 5 = .ok (.invokevirtual 143, 3) := o182 ac_cX11_orbits_0 5 0 143 rfl
theorem dX11_orbits_8 : decode cX11_orbits 8 = .ok (.ifCond .ne 5, 3) := o154p ac_cX11_orbits_0 8 0 5 rfl rfl
theorem dX11_orbits_11 : decode cX11_orbits 11 = .ok (.iconst (-1), 1) := o2 ac_cX11_orbits_0 11 rfl
theorem dX11_orbits_12 : decode cX11_orbits 12 = .ok (.ireturn, 1) := o172 ac_cX11_orbits_0 12 rfl
def kb_cX11_swaps_0 : List Nat := [42, 180, 0, 82, 27, 182, 0, 143, 154, 0, 5, 2, 172, 42, 180, 0, 82, 180, 0, 149]
theorem ac_cX11_swaps_0 : AL cX11_swaps 0 kb_cX11_swaps_0 := AL.of (m := 20) (by decide +kernel)
theorem dX11_swaps_0 : decode cX11_swaps 0 = .ok (.aload_n 0, 1) := o42 ac_cX11_swaps_0 0 rfl
theorem dX11_swaps_1 : decode cX11_swaps 1 = .ok (.getfield 82, 3) := o180 ac_cX11_swaps_0 1 0 82 rfl
theorem dX11_swaps_4 : decode cX11_swaps 4 = .ok (.iload_n 1, 1) := o27 ac_cX11_swaps_0 4 rfl
theorem dX11_swaps_5 : decode cX11_swaps 5 = .ok (.invokevirtual 143, 3) := o182 ac_cX11_swaps_0 5 0 143 rfl
theorem dX11_swaps_8 : decode cX11_swaps 8 = .ok (.ifCond .ne 5, 3) := o154p ac_cX11_swaps_0 8 0 5 rfl rfl
theorem dX11_swaps_11 : decode cX11_swaps 11 = .ok (.iconst (-1), 1) := o2 ac_cX11_swaps_0 11 rfl
theorem dX11_swaps_12 : decode cX11_swaps 12 = .ok (.ireturn, 1) := o172 ac_cX11_swaps_0 12 rfl
def kb_cX11_room_0 : List Nat := [42, 180, 0, 82, 27, 182, 0, 121, 153, 0, 14, 42, 180, 0, 54, 27, 182, 0, 134, 153]
theorem ac_cX11_room_0 : AL cX11_room 0 kb_cX11_room_0 := AL.of (m := 20) (by decide +kernel)
theorem dX11_room_0 : decode cX11_room 0 = .ok (.aload_n 0, 1) := o42 ac_cX11_room_0 0 rfl
theorem dX11_room_1 : decode cX11_room 1 = .ok (.getfield 82, 3) := o180 ac_cX11_room_0 1 0 82 rfl
theorem dX11_room_4 : decode cX11_room 4 = .ok (.iload_n 1, 1) := o27 ac_cX11_room_0 4 rfl
theorem dX11_room_5 : decode cX11_room 5 = .ok (.invokevirtual 121, 3) := o182 ac_cX11_room_0 5 0 121 rfl
theorem dX11_room_8 : decode cX11_room 8 = .ok (.ifCond .eq 14, 3) := o153p ac_cX11_room_0 8 0 14 rfl rfl
def kb_cX11_room_16 : List Nat := [182, 0, 134, 153, 0, 5, 2, 172, 3, 61, 28, 16, 9, 163, 0, 42, 42, 180, 0, 58]
theorem ac_cX11_room_16 : AL cX11_room 16 kb_cX11_room_16 := AL.of (m := 20) (by decide +kernel)
theorem dX11_room_22 : decode cX11_room 22 = .ok (.iconst (-1), 1) := o2 ac_cX11_room_16 6 rfl
theorem dX11_room_23 : decode cX11_room 23 = .ok (.ireturn, 1) := o172 ac_cX11_room_16 7 rfl
def kb_cX11_into_0 : List Nat := [42, 180, 0, 82, 27, 182, 0, 143, 153, 0, 8, 28, 2, 162, 0, 5, 2, 172, 42, 180]
theorem ac_cX11_into_0 : AL cX11_into 0 kb_cX11_into_0 := AL.of (m := 20) (by decide +kernel)
theorem dX11_into_0 : decode cX11_into 0 = .ok (.aload_n 0, 1) := o42 ac_cX11_into_0 0 rfl
theorem dX11_into_1 : decode cX11_into 1 = .ok (.getfield 82, 3) := o180 ac_cX11_into_0 1 0 82 rfl
theorem dX11_into_4 : decode cX11_into 4 = .ok (.iload_n 1, 1) := o27 ac_cX11_into_0 4 rfl
theorem dX11_into_5 : decode cX11_into 5 = .ok (.invokevirtual 143, 3) := o182 ac_cX11_into_0 5 0 143 rfl
theorem dX11_into_8 : decode cX11_into 8 = .ok (.ifCond .eq 8, 3) := o153p ac_cX11_into_0 8 0 8 rfl rfl
def kb_cX11_into_16 : List Nat := [2, 172, 42, 180, 0, 82, 180, 0, 149, 27, 50, 78, 42, 180, 0, 82, 180, 0, 146, 27]
theorem ac_cX11_into_16 : AL cX11_into 16 kb_cX11_into_16 := AL.of (m := 20) (by decide +kernel)
theorem dX11_into_16 : decode cX11_into 16 = .ok (.iconst (-1), 1) := o2 ac_cX11_into_16 0 rfl
theorem dX11_into_17 : decode cX11_into 17 = .ok (.ireturn, 1) := o172 ac_cX11_into_16 1 rfl
def kb_cX11_place_0 : List Nat := [42, 180, 0, 10, 180, 0, 118, 172]
theorem ac_cX11_place_0 : AL cX11_place 0 kb_cX11_place_0 := AL.of (m := 8) (by decide +kernel)
theorem dX11_place_0 : decode cX11_place 0 = .ok (.aload_n 0, 1) := o42 ac_cX11_place_0 0 rfl
theorem dX11_place_1 : decode cX11_place 1 = .ok (.getfield 10, 3) := o180 ac_cX11_place_0 1 0 10 rfl
theorem dX11_place_4 : decode cX11_place 4 = .ok (.getfield 118, 3) := o180 ac_cX11_place_0 4 0 118 rfl
theorem dX11_place_7 : decode cX11_place 7 = .ok (.ireturn, 1) := o172 ac_cX11_place_0 7 rfl
def kb_cX11_forget_0 : List Nat := [42, 180, 0, 33, 180, 0, 117, 60, 42, 180, 0, 33, 3, 181, 0, 117, 27, 172]
theorem ac_cX11_forget_0 : AL cX11_forget 0 kb_cX11_forget_0 := AL.of (m := 18) (by decide +kernel)
theorem dX11_forget_0 : decode cX11_forget 0 = .ok (.aload_n 0, 1) := o42 ac_cX11_forget_0 0 rfl
theorem dX11_forget_1 : decode cX11_forget 1 = .ok (.getfield 33, 3) := o180 ac_cX11_forget_0 1 0 33 rfl
theorem dX11_forget_4 : decode cX11_forget 4 = .ok (.getfield 117, 3) := o180 ac_cX11_forget_0 4 0 117 rfl
theorem dX11_forget_7 : decode cX11_forget 7 = .ok (.istore_n 1, 1) := o60 ac_cX11_forget_0 7 rfl
theorem dX11_forget_8 : decode cX11_forget 8 = .ok (.aload_n 0, 1) := o42 ac_cX11_forget_0 8 rfl
theorem dX11_forget_9 : decode cX11_forget 9 = .ok (.getfield 33, 3) := o180 ac_cX11_forget_0 9 0 33 rfl
theorem dX11_forget_12 : decode cX11_forget 12 = .ok (.iconst 0, 1) := o3 ac_cX11_forget_0 12 rfl
theorem dX11_forget_13 : decode cX11_forget 13 = .ok (.putfield 117, 3) := o181 ac_cX11_forget_0 13 0 117 rfl
def kb_cX11_forget_16 : List Nat := [27, 172]
theorem ac_cX11_forget_16 : AL cX11_forget 16 kb_cX11_forget_16 := AL.of (m := 2) (by decide +kernel)
theorem dX11_forget_16 : decode cX11_forget 16 = .ok (.iload_n 1, 1) := o27 ac_cX11_forget_16 0 rfl
theorem dX11_forget_17 : decode cX11_forget 17 = .ok (.ireturn, 1) := o172 ac_cX11_forget_16 1 rfl
def kb_cX11_lands_0 : List Nat := [42, 180, 0, 54, 182, 1, 20, 172]
theorem ac_cX11_lands_0 : AL cX11_lands 0 kb_cX11_lands_0 := AL.of (m := 8) (by decide +kernel)
theorem dX11_lands_0 : decode cX11_lands 0 = .ok (.aload_n 0, 1) := o42 ac_cX11_lands_0 0 rfl
theorem dX11_lands_1 : decode cX11_lands 1 = .ok (.getfield 54, 3) := o180 ac_cX11_lands_0 1 0 54 rfl
theorem dX11_lands_4 : decode cX11_lands 4 = .ok (.invokevirtual 276, 3) := o182 ac_cX11_lands_0 4 1 20 rfl
theorem dX11_lands_7 : decode cX11_lands 7 = .ok (.ireturn, 1) := o172 ac_cX11_lands_0 7 rfl
def kb_cX11_down_0 : List Nat := [42, 180, 0, 58, 42, 180, 0, 54, 182, 0, 230, 3, 60, 27, 17, 0, 200, 163, 0, 44]
theorem ac_cX11_down_0 : AL cX11_down 0 kb_cX11_down_0 := AL.of (m := 20) (by decide +kernel)
theorem dX11_down_0 : decode cX11_down 0 = .ok (.aload_n 0, 1) := o42 ac_cX11_down_0 0 rfl
theorem dX11_down_1 : decode cX11_down 1 = .ok (.getfield 58, 3) := o180 ac_cX11_down_0 1 0 58 rfl
theorem dX11_down_4 : decode cX11_down 4 = .ok (.aload_n 0, 1) := o42 ac_cX11_down_0 4 rfl
theorem dX11_down_5 : decode cX11_down 5 = .ok (.getfield 54, 3) := o180 ac_cX11_down_0 5 0 54 rfl
theorem dX11_down_8 : decode cX11_down 8 = .ok (.invokevirtual 230, 3) := o182 ac_cX11_down_0 8 0 230 rfl
theorem dX11_down_11 : decode cX11_down 11 = .ok (.iconst 0, 1) := o3 ac_cX11_down_0 11 rfl
theorem dX11_down_12 : decode cX11_down 12 = .ok (.istore_n 1, 1) := o60 ac_cX11_down_0 12 rfl
theorem dX11_down_13 : decode cX11_down 13 = .ok (.iload_n 1, 1) := o27 ac_cX11_down_0 13 rfl
theorem dX11_down_14 : decode cX11_down 14 = .ok (.sipush 200, 3) := o17p ac_cX11_down_0 14 0 200 rfl rfl
def kb_cX11_down_16 : List Nat := [200, 163, 0, 44, 42, 180, 0, 58, 182, 0, 156, 154, 0, 5, 27, 172, 42, 180, 0, 19]
theorem ac_cX11_down_16 : AL cX11_down 16 kb_cX11_down_16 := AL.of (m := 20) (by decide +kernel)
theorem dX11_down_17 : decode cX11_down 17 = .ok (.if_icmp .gt 44, 3) := o163p ac_cX11_down_16 1 0 44 rfl rfl
theorem dX11_down_20 : decode cX11_down 20 = .ok (.aload_n 0, 1) := o42 ac_cX11_down_16 4 rfl
theorem dX11_down_21 : decode cX11_down 21 = .ok (.getfield 58, 3) := o180 ac_cX11_down_16 5 0 58 rfl
theorem dX11_down_24 : decode cX11_down 24 = .ok (.invokevirtual 156, 3) := o182 ac_cX11_down_16 8 0 156 rfl
theorem dX11_down_27 : decode cX11_down 27 = .ok (.ifCond .ne 5, 3) := o154p ac_cX11_down_16 11 0 5 rfl rfl
theorem dX11_down_30 : decode cX11_down 30 = .ok (.iload_n 1, 1) := o27 ac_cX11_down_16 14 rfl
theorem dX11_down_31 : decode cX11_down 31 = .ok (.ireturn, 1) := o172 ac_cX11_down_16 15 rfl
def kb_cX11_gap_0 : List Nat := [42, 180, 0, 58, 42, 180, 0, 54, 182, 0, 230, 3, 60, 27, 16, 60, 163, 0, 36, 42]
theorem ac_cX11_gap_0 : AL cX11_gap 0 kb_cX11_gap_0 := AL.of (m := 20) (by decide +kernel)
theorem dX11_gap_0 : decode cX11_gap 0 = .ok (.aload_n 0, 1) := o42 ac_cX11_gap_0 0 rfl
theorem dX11_gap_1 : decode cX11_gap 1 = .ok (.getfield 58, 3) := o180 ac_cX11_gap_0 1 0 58 rfl
theorem dX11_gap_4 : decode cX11_gap 4 = .ok (.aload_n 0, 1) := o42 ac_cX11_gap_0 4 rfl
theorem dX11_gap_5 : decode cX11_gap 5 = .ok (.getfield 54, 3) := o180 ac_cX11_gap_0 5 0 54 rfl
theorem dX11_gap_8 : decode cX11_gap 8 = .ok (.invokevirtual 230, 3) := o182 ac_cX11_gap_0 8 0 230 rfl
theorem dX11_gap_11 : decode cX11_gap 11 = .ok (.iconst 0, 1) := o3 ac_cX11_gap_0 11 rfl
theorem dX11_gap_12 : decode cX11_gap 12 = .ok (.istore_n 1, 1) := o60 ac_cX11_gap_0 12 rfl
theorem dX11_gap_13 : decode cX11_gap 13 = .ok (.iload_n 1, 1) := o27 ac_cX11_gap_0 13 rfl
theorem dX11_gap_14 : decode cX11_gap 14 = .ok (.bipush 60, 2) := o16p ac_cX11_gap_0 14 60 rfl rfl
def kb_cX11_gap_16 : List Nat := [163, 0, 36, 42, 180, 0, 58, 182, 1, 36, 154, 0, 5, 27, 172, 42, 180, 0, 19, 42]
theorem ac_cX11_gap_16 : AL cX11_gap 16 kb_cX11_gap_16 := AL.of (m := 20) (by decide +kernel)
theorem dX11_gap_16 : decode cX11_gap 16 = .ok (.if_icmp .gt 36, 3) := o163p ac_cX11_gap_16 0 0 36 rfl rfl
theorem dX11_gap_19 : decode cX11_gap 19 = .ok (.aload_n 0, 1) := o42 ac_cX11_gap_16 3 rfl
theorem dX11_gap_20 : decode cX11_gap 20 = .ok (.getfield 58, 3) := o180 ac_cX11_gap_16 4 0 58 rfl
theorem dX11_gap_23 : decode cX11_gap 23 = .ok (.invokevirtual 292, 3) := o182 ac_cX11_gap_16 7 1 36 rfl
theorem dX11_gap_26 : decode cX11_gap 26 = .ok (.ifCond .ne 5, 3) := o154p ac_cX11_gap_16 10 0 5 rfl rfl
theorem dX11_gap_29 : decode cX11_gap 29 = .ok (.iload_n 1, 1) := o27 ac_cX11_gap_16 13 rfl
theorem dX11_gap_30 : decode cX11_gap 30 = .ok (.ireturn, 1) := o172 ac_cX11_gap_16 14 rfl
def kb_cX11_handover_0 : List Nat := [42, 180, 0, 58, 42, 180, 0, 54, 182, 0, 230, 42, 180, 0, 54, 3, 182, 0, 180, 60]
theorem ac_cX11_handover_0 : AL cX11_handover 0 kb_cX11_handover_0 := AL.of (m := 20) (by decide +kernel)
theorem dX11_handover_0 : decode cX11_handover 0 = .ok (.aload_n 0, 1) := o42 ac_cX11_handover_0 0 rfl
theorem dX11_handover_1 : decode cX11_handover 1 = .ok (.getfield 58, 3) := o180 ac_cX11_handover_0 1 0 58 rfl
theorem dX11_handover_4 : decode cX11_handover 4 = .ok (.aload_n 0, 1) := o42 ac_cX11_handover_0 4 rfl
theorem dX11_handover_5 : decode cX11_handover 5 = .ok (.getfield 54, 3) := o180 ac_cX11_handover_0 5 0 54 rfl
theorem dX11_handover_8 : decode cX11_handover 8 = .ok (.invokevirtual 230, 3) := o182 ac_cX11_handover_0 8 0 230 rfl
theorem dX11_handover_11 : decode cX11_handover 11 = .ok (.aload_n 0, 1) := o42 ac_cX11_handover_0 11 rfl
theorem dX11_handover_12 : decode cX11_handover 12 = .ok (.getfield 54, 3) := o180 ac_cX11_handover_0 12 0 54 rfl
theorem dX11_handover_15 : decode cX11_handover 15 = .ok (.iconst 0, 1) := o3 ac_cX11_handover_0 15 rfl
def kb_cX11_handover_16 : List Nat := [182, 0, 180, 60, 3, 61, 28, 16, 60, 163, 0, 59, 27, 154, 0, 5, 28, 172, 42, 180]
theorem ac_cX11_handover_16 : AL cX11_handover 16 kb_cX11_handover_16 := AL.of (m := 20) (by decide +kernel)
theorem dX11_handover_16 : decode cX11_handover 16 = .ok (.invokevirtual 180, 3) := o182 ac_cX11_handover_16 0 0 180 rfl
theorem dX11_handover_19 : decode cX11_handover 19 = .ok (.istore_n 1, 1) := o60 ac_cX11_handover_16 3 rfl
theorem dX11_handover_20 : decode cX11_handover 20 = .ok (.iconst 0, 1) := o3 ac_cX11_handover_16 4 rfl
theorem dX11_handover_21 : decode cX11_handover 21 = .ok (.istore_n 2, 1) := o61 ac_cX11_handover_16 5 rfl
theorem dX11_handover_22 : decode cX11_handover 22 = .ok (.iload_n 2, 1) := o28 ac_cX11_handover_16 6 rfl
theorem dX11_handover_23 : decode cX11_handover 23 = .ok (.bipush 60, 2) := o16p ac_cX11_handover_16 7 60 rfl rfl
theorem dX11_handover_25 : decode cX11_handover 25 = .ok (.if_icmp .gt 59, 3) := o163p ac_cX11_handover_16 9 0 59 rfl rfl
theorem dX11_handover_28 : decode cX11_handover 28 = .ok (.iload_n 1, 1) := o27 ac_cX11_handover_16 12 rfl
theorem dX11_handover_29 : decode cX11_handover 29 = .ok (.ifCond .ne 5, 3) := o154p ac_cX11_handover_16 13 0 5 rfl rfl
def kb_cX11_handover_32 : List Nat := [28, 172, 42, 180, 0, 58, 182, 1, 26, 62, 29, 2, 159, 0, 11, 27, 4, 29, 120, 2]
theorem ac_cX11_handover_32 : AL cX11_handover 32 kb_cX11_handover_32 := AL.of (m := 20) (by decide +kernel)
theorem dX11_handover_32 : decode cX11_handover 32 = .ok (.iload_n 2, 1) := o28 ac_cX11_handover_32 0 rfl
theorem dX11_handover_33 : decode cX11_handover 33 = .ok (.ireturn, 1) := o172 ac_cX11_handover_32 1 rfl
def kb_cX5_giveBack_0 : List Nat := [42, 180, 0, 18, 154, 0, 5, 3, 172, 42, 42, 180, 0, 22, 16, 40, 96, 4, 100, 16]
theorem ac_cX5_giveBack_0 : AL cX5_giveBack 0 kb_cX5_giveBack_0 := AL.of (m := 20) (by decide +kernel)
theorem dX5_giveBack_0 : decode cX5_giveBack 0 = .ok (.aload_n 0, 1) := o42 ac_cX5_giveBack_0 0 rfl
theorem dX5_giveBack_1 : decode cX5_giveBack 1 = .ok (.getfield 18, 3) := o180 ac_cX5_giveBack_0 1 0 18 rfl
theorem dX5_giveBack_4 : decode cX5_giveBack 4 = .ok (.ifCond .ne 5, 3) := o154p ac_cX5_giveBack_0 4 0 5 rfl rfl
theorem dX5_giveBack_7 : decode cX5_giveBack 7 = .ok (.iconst 0, 1) := o3 ac_cX5_giveBack_0 7 rfl
theorem dX5_giveBack_8 : decode cX5_giveBack 8 = .ok (.ireturn, 1) := o172 ac_cX5_giveBack_0 8 rfl
def kb_cX11_undo_0 : List Nat := [42, 180, 0, 26, 42, 180, 0, 54, 182, 0, 226, 172]
theorem ac_cX11_undo_0 : AL cX11_undo 0 kb_cX11_undo_0 := AL.of (m := 12) (by decide +kernel)
theorem dX11_undo_0 : decode cX11_undo 0 = .ok (.aload_n 0, 1) := o42 ac_cX11_undo_0 0 rfl
theorem dX11_undo_1 : decode cX11_undo 1 = .ok (.getfield 26, 3) := o180 ac_cX11_undo_0 1 0 26 rfl
theorem dX11_undo_4 : decode cX11_undo 4 = .ok (.aload_n 0, 1) := o42 ac_cX11_undo_0 4 rfl
theorem dX11_undo_5 : decode cX11_undo 5 = .ok (.getfield 54, 3) := o180 ac_cX11_undo_0 5 0 54 rfl
theorem dX11_undo_8 : decode cX11_undo 8 = .ok (.invokevirtual 226, 3) := o182 ac_cX11_undo_0 8 0 226 rfl
theorem dX11_undo_11 : decode cX11_undo 11 = .ok (.ireturn, 1) := o172 ac_cX11_undo_0 11 rfl
def kb_cX9_append_0 : List Nat := [16, 24, 61, 28, 155, 0, 45, 42, 180, 0, 25, 17, 7, 208, 162, 0, 29, 42, 180, 0]
theorem ac_cX9_append_0 : AL cX9_append 0 kb_cX9_append_0 := AL.of (m := 20) (by decide +kernel)
theorem dX9_append_0 : decode cX9_append 0 = .ok (.bipush 24, 2) := o16p ac_cX9_append_0 0 24 rfl rfl
theorem dX9_append_2 : decode cX9_append 2 = .ok (.istore_n 2, 1) := o61 ac_cX9_append_0 2 rfl
theorem dX9_append_3 : decode cX9_append 3 = .ok (.iload_n 2, 1) := o28 ac_cX9_append_0 3 rfl
theorem dX9_append_4 : decode cX9_append 4 = .ok (.ifCond .lt 45, 3) := o155p ac_cX9_append_0 4 0 45 rfl rfl
theorem dX9_append_7 : decode cX9_append 7 = .ok (.aload_n 0, 1) := o42 ac_cX9_append_0 7 rfl
theorem dX9_append_8 : decode cX9_append 8 = .ok (.getfield 25, 3) := o180 ac_cX9_append_0 8 0 25 rfl
theorem dX9_append_11 : decode cX9_append 11 = .ok (.sipush 2000, 3) := o17p ac_cX9_append_0 11 7 208 rfl rfl
theorem dX9_append_14 : decode cX9_append 14 = .ok (.if_icmp .ge 29, 3) := o162p ac_cX9_append_0 14 0 29 rfl rfl
def kb_cX9_append_16 : List Nat := [29, 42, 180, 0, 9, 42, 180, 0, 25, 27, 28, 124, 17, 0, 255, 126, 79, 42, 89, 180]
theorem ac_cX9_append_16 : AL cX9_append 16 kb_cX9_append_16 := AL.of (m := 20) (by decide +kernel)
theorem dX9_append_17 : decode cX9_append 17 = .ok (.aload_n 0, 1) := o42 ac_cX9_append_16 1 rfl
theorem dX9_append_18 : decode cX9_append 18 = .ok (.getfield 9, 3) := o180 ac_cX9_append_16 2 0 9 rfl
theorem dX9_append_21 : decode cX9_append 21 = .ok (.aload_n 0, 1) := o42 ac_cX9_append_16 5 rfl
theorem dX9_append_22 : decode cX9_append 22 = .ok (.getfield 25, 3) := o180 ac_cX9_append_16 6 0 25 rfl
theorem dX9_append_25 : decode cX9_append 25 = .ok (.iload_n 1, 1) := o27 ac_cX9_append_16 9 rfl
theorem dX9_append_26 : decode cX9_append 26 = .ok (.iload_n 2, 1) := o28 ac_cX9_append_16 10 rfl
theorem dX9_append_27 : decode cX9_append 27 = .ok (.iushr, 1) := o124 ac_cX9_append_16 11 rfl
theorem dX9_append_28 : decode cX9_append 28 = .ok (.sipush 255, 3) := o17p ac_cX9_append_16 12 0 255 rfl rfl
theorem dX9_append_31 : decode cX9_append 31 = .ok (.iand, 1) := o126 ac_cX9_append_16 15 rfl
def kb_cX9_append_32 : List Nat := [79, 42, 89, 180, 0, 25, 4, 96, 181, 0, 25, 132, 2, 248, 167, 255, 213, 177]
theorem ac_cX9_append_32 : AL cX9_append 32 kb_cX9_append_32 := AL.of (m := 18) (by decide +kernel)
theorem dX9_append_32 : decode cX9_append 32 = .ok (.iastore, 1) := o79 ac_cX9_append_32 0 rfl
theorem dX9_append_33 : decode cX9_append 33 = .ok (.aload_n 0, 1) := o42 ac_cX9_append_32 1 rfl
theorem dX9_append_34 : decode cX9_append 34 = .ok (.dup, 1) := o89 ac_cX9_append_32 2 rfl
theorem dX9_append_35 : decode cX9_append 35 = .ok (.getfield 25, 3) := o180 ac_cX9_append_32 3 0 25 rfl
theorem dX9_append_38 : decode cX9_append 38 = .ok (.iconst 1, 1) := o4 ac_cX9_append_32 6 rfl
theorem dX9_append_39 : decode cX9_append 39 = .ok (.iadd, 1) := o96 ac_cX9_append_32 7 rfl
theorem dX9_append_40 : decode cX9_append 40 = .ok (.putfield 25, 3) := o181 ac_cX9_append_32 8 0 25 rfl
theorem dX9_append_43 : decode cX9_append 43 = .ok (.iinc 2 (-8), 3) := o132n ac_cX9_append_32 11 2 248 7 rfl rfl rfl
theorem dX9_append_46 : decode cX9_append 46 = .ok (.goto (-43), 3) := o167n ac_cX9_append_32 14 255 213 42 rfl rfl rfl
def kb_cX9_append_48 : List Nat := [213, 177]
theorem ac_cX9_append_48 : AL cX9_append 48 kb_cX9_append_48 := AL.of (m := 2) (by decide +kernel)
theorem dX9_append_49 : decode cX9_append 49 = .ok (.return_, 1) := o177 ac_cX9_append_48 1 rfl
def kb_cX11_feed_0 : List Nat := [42, 180, 0, 10, 180, 0, 89, 180, 0, 93, 16, 20, 96, 17, 7, 208, 164, 0, 5, 2]
theorem ac_cX11_feed_0 : AL cX11_feed 0 kb_cX11_feed_0 := AL.of (m := 20) (by decide +kernel)
theorem dX11_feed_0 : decode cX11_feed 0 = .ok (.aload_n 0, 1) := o42 ac_cX11_feed_0 0 rfl
theorem dX11_feed_1 : decode cX11_feed 1 = .ok (.getfield 10, 3) := o180 ac_cX11_feed_0 1 0 10 rfl
theorem dX11_feed_4 : decode cX11_feed 4 = .ok (.getfield 89, 3) := o180 ac_cX11_feed_0 4 0 89 rfl
theorem dX11_feed_7 : decode cX11_feed 7 = .ok (.getfield 93, 3) := o180 ac_cX11_feed_0 7 0 93 rfl
theorem dX11_feed_10 : decode cX11_feed 10 = .ok (.bipush 20, 2) := o16p ac_cX11_feed_0 10 20 rfl rfl
theorem dX11_feed_12 : decode cX11_feed 12 = .ok (.iadd, 1) := o96 ac_cX11_feed_0 12 rfl
theorem dX11_feed_13 : decode cX11_feed 13 = .ok (.sipush 2000, 3) := o17p ac_cX11_feed_0 13 7 208 rfl rfl
def kb_cX11_feed_16 : List Nat := [164, 0, 5, 2, 172, 42, 180, 0, 10, 180, 0, 89, 27, 182, 0, 99, 42, 180, 0, 10]
theorem ac_cX11_feed_16 : AL cX11_feed 16 kb_cX11_feed_16 := AL.of (m := 20) (by decide +kernel)
theorem dX11_feed_16 : decode cX11_feed 16 = .ok (.if_icmp .le 5, 3) := o164p ac_cX11_feed_16 0 0 5 rfl rfl
theorem dX11_feed_21 : decode cX11_feed 21 = .ok (.aload_n 0, 1) := o42 ac_cX11_feed_16 5 rfl
theorem dX11_feed_22 : decode cX11_feed 22 = .ok (.getfield 10, 3) := o180 ac_cX11_feed_16 6 0 10 rfl
theorem dX11_feed_25 : decode cX11_feed 25 = .ok (.getfield 89, 3) := o180 ac_cX11_feed_16 9 0 89 rfl
theorem dX11_feed_28 : decode cX11_feed 28 = .ok (.iload_n 1, 1) := o27 ac_cX11_feed_16 12 rfl
theorem dX11_feed_29 : decode cX11_feed 29 = .ok (.invokevirtual 99, 3) := o182 ac_cX11_feed_16 13 0 99 rfl
def kb_cX11_feed_32 : List Nat := [42, 180, 0, 10, 180, 0, 89, 28, 182, 0, 99, 42, 180, 0, 10, 180, 0, 89, 29, 182]
theorem ac_cX11_feed_32 : AL cX11_feed 32 kb_cX11_feed_32 := AL.of (m := 20) (by decide +kernel)
theorem dX11_feed_32 : decode cX11_feed 32 = .ok (.aload_n 0, 1) := o42 ac_cX11_feed_32 0 rfl
theorem dX11_feed_33 : decode cX11_feed 33 = .ok (.getfield 10, 3) := o180 ac_cX11_feed_32 1 0 10 rfl
theorem dX11_feed_36 : decode cX11_feed 36 = .ok (.getfield 89, 3) := o180 ac_cX11_feed_32 4 0 89 rfl
theorem dX11_feed_39 : decode cX11_feed 39 = .ok (.iload_n 2, 1) := o28 ac_cX11_feed_32 7 rfl
theorem dX11_feed_40 : decode cX11_feed 40 = .ok (.invokevirtual 99, 3) := o182 ac_cX11_feed_32 8 0 99 rfl
theorem dX11_feed_43 : decode cX11_feed 43 = .ok (.aload_n 0, 1) := o42 ac_cX11_feed_32 11 rfl
theorem dX11_feed_44 : decode cX11_feed 44 = .ok (.getfield 10, 3) := o180 ac_cX11_feed_32 12 0 10 rfl
theorem dX11_feed_47 : decode cX11_feed 47 = .ok (.getfield 89, 3) := o180 ac_cX11_feed_32 15 0 89 rfl
def kb_cX11_feed_48 : List Nat := [0, 89, 29, 182, 0, 99, 42, 180, 0, 10, 180, 0, 89, 21, 4, 182, 0, 99, 42, 180]
theorem ac_cX11_feed_48 : AL cX11_feed 48 kb_cX11_feed_48 := AL.of (m := 20) (by decide +kernel)
theorem dX11_feed_50 : decode cX11_feed 50 = .ok (.iload_n 3, 1) := o29 ac_cX11_feed_48 2 rfl
theorem dX11_feed_51 : decode cX11_feed 51 = .ok (.invokevirtual 99, 3) := o182 ac_cX11_feed_48 3 0 99 rfl
theorem dX11_feed_54 : decode cX11_feed 54 = .ok (.aload_n 0, 1) := o42 ac_cX11_feed_48 6 rfl
theorem dX11_feed_55 : decode cX11_feed 55 = .ok (.getfield 10, 3) := o180 ac_cX11_feed_48 7 0 10 rfl
theorem dX11_feed_58 : decode cX11_feed 58 = .ok (.getfield 89, 3) := o180 ac_cX11_feed_48 10 0 89 rfl
theorem dX11_feed_61 : decode cX11_feed 61 = .ok (.iload 4, 2) := o21 ac_cX11_feed_48 13 4 rfl
theorem dX11_feed_63 : decode cX11_feed 63 = .ok (.invokevirtual 99, 3) := o182 ac_cX11_feed_48 15 0 99 rfl
def kb_cX11_feed_64 : List Nat := [0, 99, 42, 180, 0, 10, 180, 0, 89, 21, 5, 182, 0, 99, 42, 180, 0, 10, 180, 0]
theorem ac_cX11_feed_64 : AL cX11_feed 64 kb_cX11_feed_64 := AL.of (m := 20) (by decide +kernel)
theorem dX11_feed_66 : decode cX11_feed 66 = .ok (.aload_n 0, 1) := o42 ac_cX11_feed_64 2 rfl
theorem dX11_feed_67 : decode cX11_feed 67 = .ok (.getfield 10, 3) := o180 ac_cX11_feed_64 3 0 10 rfl
theorem dX11_feed_70 : decode cX11_feed 70 = .ok (.getfield 89, 3) := o180 ac_cX11_feed_64 6 0 89 rfl
theorem dX11_feed_73 : decode cX11_feed 73 = .ok (.iload 5, 2) := o21 ac_cX11_feed_64 9 5 rfl
theorem dX11_feed_75 : decode cX11_feed 75 = .ok (.invokevirtual 99, 3) := o182 ac_cX11_feed_64 11 0 99 rfl
theorem dX11_feed_78 : decode cX11_feed 78 = .ok (.aload_n 0, 1) := o42 ac_cX11_feed_64 14 rfl
theorem dX11_feed_79 : decode cX11_feed 79 = .ok (.getfield 10, 3) := o180 ac_cX11_feed_64 15 0 10 rfl
def kb_cX11_feed_80 : List Nat := [0, 10, 180, 0, 89, 180, 0, 93, 172]
theorem ac_cX11_feed_80 : AL cX11_feed 80 kb_cX11_feed_80 := AL.of (m := 9) (by decide +kernel)
theorem dX11_feed_82 : decode cX11_feed 82 = .ok (.getfield 89, 3) := o180 ac_cX11_feed_80 2 0 89 rfl
theorem dX11_feed_85 : decode cX11_feed 85 = .ok (.getfield 93, 3) := o180 ac_cX11_feed_80 5 0 93 rfl
theorem dX11_feed_88 : decode cX11_feed 88 = .ok (.ireturn, 1) := o172 ac_cX11_feed_80 8 rfl
def kb_cX11_back_0 : List Nat := [27, 155, 0, 17, 27, 42, 180, 0, 10, 180, 0, 89, 180, 0, 93, 164, 0, 5, 2, 172]
theorem ac_cX11_back_0 : AL cX11_back 0 kb_cX11_back_0 := AL.of (m := 20) (by decide +kernel)
theorem dX11_back_0 : decode cX11_back 0 = .ok (.iload_n 1, 1) := o27 ac_cX11_back_0 0 rfl
theorem dX11_back_1 : decode cX11_back 1 = .ok (.ifCond .lt 17, 3) := o155p ac_cX11_back_0 1 0 17 rfl rfl
theorem dX11_back_4 : decode cX11_back 4 = .ok (.iload_n 1, 1) := o27 ac_cX11_back_0 4 rfl
theorem dX11_back_5 : decode cX11_back 5 = .ok (.aload_n 0, 1) := o42 ac_cX11_back_0 5 rfl
theorem dX11_back_6 : decode cX11_back 6 = .ok (.getfield 10, 3) := o180 ac_cX11_back_0 6 0 10 rfl
theorem dX11_back_9 : decode cX11_back 9 = .ok (.getfield 89, 3) := o180 ac_cX11_back_0 9 0 89 rfl
theorem dX11_back_12 : decode cX11_back 12 = .ok (.getfield 93, 3) := o180 ac_cX11_back_0 12 0 93 rfl
theorem dX11_back_15 : decode cX11_back 15 = .ok (.if_icmp .le 5, 3) := o164p ac_cX11_back_0 15 0 5 rfl rfl
def kb_cX11_back_16 : List Nat := [0, 5, 2, 172, 42, 180, 0, 10, 180, 0, 89, 89, 180, 0, 93, 27, 100, 181, 0, 93]
theorem ac_cX11_back_16 : AL cX11_back 16 kb_cX11_back_16 := AL.of (m := 20) (by decide +kernel)
theorem dX11_back_20 : decode cX11_back 20 = .ok (.aload_n 0, 1) := o42 ac_cX11_back_16 4 rfl
theorem dX11_back_21 : decode cX11_back 21 = .ok (.getfield 10, 3) := o180 ac_cX11_back_16 5 0 10 rfl
theorem dX11_back_24 : decode cX11_back 24 = .ok (.getfield 89, 3) := o180 ac_cX11_back_16 8 0 89 rfl
theorem dX11_back_27 : decode cX11_back 27 = .ok (.dup, 1) := o89 ac_cX11_back_16 11 rfl
theorem dX11_back_28 : decode cX11_back 28 = .ok (.getfield 93, 3) := o180 ac_cX11_back_16 12 0 93 rfl
theorem dX11_back_31 : decode cX11_back 31 = .ok (.iload_n 1, 1) := o27 ac_cX11_back_16 15 rfl
def kb_cX11_back_32 : List Nat := [100, 181, 0, 93, 42, 180, 0, 10, 180, 0, 89, 180, 0, 93, 172]
theorem ac_cX11_back_32 : AL cX11_back 32 kb_cX11_back_32 := AL.of (m := 15) (by decide +kernel)
theorem dX11_back_32 : decode cX11_back 32 = .ok (.isub, 1) := o100 ac_cX11_back_32 0 rfl
theorem dX11_back_33 : decode cX11_back 33 = .ok (.putfield 93, 3) := o181 ac_cX11_back_32 1 0 93 rfl
theorem dX11_back_36 : decode cX11_back 36 = .ok (.aload_n 0, 1) := o42 ac_cX11_back_32 4 rfl
theorem dX11_back_37 : decode cX11_back 37 = .ok (.getfield 10, 3) := o180 ac_cX11_back_32 5 0 10 rfl
theorem dX11_back_40 : decode cX11_back 40 = .ok (.getfield 89, 3) := o180 ac_cX11_back_32 8 0 89 rfl
theorem dX11_back_43 : decode cX11_back 43 = .ok (.getfield 93, 3) := o180 ac_cX11_back_32 11 0 93 rfl
theorem dX11_back_46 : decode cX11_back 46 = .ok (.ireturn, 1) := o172 ac_cX11_back_32 14 rfl
theorem dX11_back_18 : decode cX11_back 18 = .ok (.iconst (-1), 1) := o2 ac_cX11_back_16 2 rfl
theorem dX11_back_19 : decode cX11_back 19 = .ok (.ireturn, 1) := o172 ac_cX11_back_16 3 rfl
def kb_cX2_add_0 : List Nat := [42, 180, 0, 19, 16, 20, 161, 0, 5, 2, 172, 42, 180, 0, 9, 42, 180, 0, 19, 27]
theorem ac_cX2_add_0 : AL cX2_add 0 kb_cX2_add_0 := AL.of (m := 20) (by decide +kernel)
theorem dX2_add_0 : decode cX2_add 0 = .ok (.aload_n 0, 1) := o42 ac_cX2_add_0 0 rfl
theorem dX2_add_1 : decode cX2_add 1 = .ok (.getfield 19, 3) := o180 ac_cX2_add_0 1 0 19 rfl
theorem dX2_add_4 : decode cX2_add 4 = .ok (.bipush 20, 2) := o16p ac_cX2_add_0 4 20 rfl rfl
theorem dX2_add_6 : decode cX2_add 6 = .ok (.if_icmp .lt 5, 3) := o161p ac_cX2_add_0 6 0 5 rfl rfl
theorem dX2_add_11 : decode cX2_add 11 = .ok (.aload_n 0, 1) := o42 ac_cX2_add_0 11 rfl
theorem dX2_add_12 : decode cX2_add 12 = .ok (.getfield 9, 3) := o180 ac_cX2_add_0 12 0 9 rfl
theorem dX2_add_15 : decode cX2_add 15 = .ok (.aload_n 0, 1) := o42 ac_cX2_add_0 15 rfl
def kb_cX2_add_16 : List Nat := [180, 0, 19, 27, 79, 42, 180, 0, 15, 42, 180, 0, 19, 28, 84, 42, 89, 180, 0, 19]
theorem ac_cX2_add_16 : AL cX2_add 16 kb_cX2_add_16 := AL.of (m := 20) (by decide +kernel)
theorem dX2_add_16 : decode cX2_add 16 = .ok (.getfield 19, 3) := o180 ac_cX2_add_16 0 0 19 rfl
theorem dX2_add_19 : decode cX2_add 19 = .ok (.iload_n 1, 1) := o27 ac_cX2_add_16 3 rfl
theorem dX2_add_20 : decode cX2_add 20 = .ok (.iastore, 1) := o79 ac_cX2_add_16 4 rfl
theorem dX2_add_21 : decode cX2_add 21 = .ok (.aload_n 0, 1) := o42 ac_cX2_add_16 5 rfl
theorem dX2_add_22 : decode cX2_add 22 = .ok (.getfield 15, 3) := o180 ac_cX2_add_16 6 0 15 rfl
theorem dX2_add_25 : decode cX2_add 25 = .ok (.aload_n 0, 1) := o42 ac_cX2_add_16 9 rfl
theorem dX2_add_26 : decode cX2_add 26 = .ok (.getfield 19, 3) := o180 ac_cX2_add_16 10 0 19 rfl
theorem dX2_add_29 : decode cX2_add 29 = .ok (.iload_n 2, 1) := o28 ac_cX2_add_16 13 rfl
theorem dX2_add_30 : decode cX2_add 30 = .ok (.bastore, 1) := o84 ac_cX2_add_16 14 rfl
theorem dX2_add_31 : decode cX2_add 31 = .ok (.aload_n 0, 1) := o42 ac_cX2_add_16 15 rfl
def kb_cX2_add_32 : List Nat := [89, 180, 0, 19, 4, 96, 181, 0, 19, 42, 180, 0, 19, 4, 100, 172]
theorem ac_cX2_add_32 : AL cX2_add 32 kb_cX2_add_32 := AL.of (m := 16) (by decide +kernel)
theorem dX2_add_32 : decode cX2_add 32 = .ok (.dup, 1) := o89 ac_cX2_add_32 0 rfl
theorem dX2_add_33 : decode cX2_add 33 = .ok (.getfield 19, 3) := o180 ac_cX2_add_32 1 0 19 rfl
theorem dX2_add_36 : decode cX2_add 36 = .ok (.iconst 1, 1) := o4 ac_cX2_add_32 4 rfl
theorem dX2_add_37 : decode cX2_add 37 = .ok (.iadd, 1) := o96 ac_cX2_add_32 5 rfl
theorem dX2_add_38 : decode cX2_add 38 = .ok (.putfield 19, 3) := o181 ac_cX2_add_32 6 0 19 rfl
theorem dX2_add_41 : decode cX2_add 41 = .ok (.aload_n 0, 1) := o42 ac_cX2_add_32 9 rfl
theorem dX2_add_42 : decode cX2_add 42 = .ok (.getfield 19, 3) := o180 ac_cX2_add_32 10 0 19 rfl
theorem dX2_add_45 : decode cX2_add 45 = .ok (.iconst 1, 1) := o4 ac_cX2_add_32 13 rfl
theorem dX2_add_46 : decode cX2_add 46 = .ok (.isub, 1) := o100 ac_cX2_add_32 14 rfl
theorem dX2_add_47 : decode cX2_add 47 = .ok (.ireturn, 1) := o172 ac_cX2_add_32 15 rfl
def kb_cX11_tell_0 : List Nat := [27, 155, 0, 9, 27, 16, 40, 164, 0, 5, 2, 172, 42, 180, 0, 33, 27, 28, 182, 1]
theorem ac_cX11_tell_0 : AL cX11_tell 0 kb_cX11_tell_0 := AL.of (m := 20) (by decide +kernel)
theorem dX11_tell_0 : decode cX11_tell 0 = .ok (.iload_n 1, 1) := o27 ac_cX11_tell_0 0 rfl
theorem dX11_tell_1 : decode cX11_tell 1 = .ok (.ifCond .lt 9, 3) := o155p ac_cX11_tell_0 1 0 9 rfl rfl
theorem dX11_tell_4 : decode cX11_tell 4 = .ok (.iload_n 1, 1) := o27 ac_cX11_tell_0 4 rfl
theorem dX11_tell_5 : decode cX11_tell 5 = .ok (.bipush 40, 2) := o16p ac_cX11_tell_0 5 40 rfl rfl
theorem dX11_tell_7 : decode cX11_tell 7 = .ok (.if_icmp .le 5, 3) := o164p ac_cX11_tell_0 7 0 5 rfl rfl
theorem dX11_tell_12 : decode cX11_tell 12 = .ok (.aload_n 0, 1) := o42 ac_cX11_tell_0 12 rfl
theorem dX11_tell_13 : decode cX11_tell 13 = .ok (.getfield 33, 3) := o180 ac_cX11_tell_0 13 0 33 rfl
def kb_cX11_tell_16 : List Nat := [27, 28, 182, 1, 66, 172]
theorem ac_cX11_tell_16 : AL cX11_tell 16 kb_cX11_tell_16 := AL.of (m := 6) (by decide +kernel)
theorem dX11_tell_16 : decode cX11_tell 16 = .ok (.iload_n 1, 1) := o27 ac_cX11_tell_16 0 rfl
theorem dX11_tell_17 : decode cX11_tell 17 = .ok (.iload_n 2, 1) := o28 ac_cX11_tell_16 1 rfl
theorem dX11_tell_18 : decode cX11_tell 18 = .ok (.invokevirtual 322, 3) := o182 ac_cX11_tell_16 2 1 66 rfl
theorem dX11_tell_21 : decode cX11_tell 21 = .ok (.ireturn, 1) := o172 ac_cX11_tell_16 5 rfl
theorem dX11_tell_10 : decode cX11_tell 10 = .ok (.iconst (-1), 1) := o2 ac_cX11_tell_0 10 rfl
theorem dX11_tell_11 : decode cX11_tell 11 = .ok (.ireturn, 1) := o172 ac_cX11_tell_0 11 rfl
def kb_cX11_slotsHeld_0 : List Nat := [3, 60, 3, 61, 28, 6, 162, 0, 21, 42, 180, 0, 65, 28, 51, 153, 0, 6, 132, 1]
theorem ac_cX11_slotsHeld_0 : AL cX11_slotsHeld 0 kb_cX11_slotsHeld_0 := AL.of (m := 20) (by decide +kernel)
theorem dX11_slotsHeld_0 : decode cX11_slotsHeld 0 = .ok (.iconst 0, 1) := o3 ac_cX11_slotsHeld_0 0 rfl
theorem dX11_slotsHeld_1 : decode cX11_slotsHeld 1 = .ok (.istore_n 1, 1) := o60 ac_cX11_slotsHeld_0 1 rfl
theorem dX11_slotsHeld_2 : decode cX11_slotsHeld 2 = .ok (.iconst 0, 1) := o3 ac_cX11_slotsHeld_0 2 rfl
theorem dX11_slotsHeld_3 : decode cX11_slotsHeld 3 = .ok (.istore_n 2, 1) := o61 ac_cX11_slotsHeld_0 3 rfl
theorem dX11_slotsHeld_4 : decode cX11_slotsHeld 4 = .ok (.iload_n 2, 1) := o28 ac_cX11_slotsHeld_0 4 rfl
theorem dX11_slotsHeld_5 : decode cX11_slotsHeld 5 = .ok (.iconst 3, 1) := o6 ac_cX11_slotsHeld_0 5 rfl
theorem dX11_slotsHeld_6 : decode cX11_slotsHeld 6 = .ok (.if_icmp .ge 21, 3) := o162p ac_cX11_slotsHeld_0 6 0 21 rfl rfl
theorem dX11_slotsHeld_9 : decode cX11_slotsHeld 9 = .ok (.aload_n 0, 1) := o42 ac_cX11_slotsHeld_0 9 rfl
theorem dX11_slotsHeld_10 : decode cX11_slotsHeld 10 = .ok (.getfield 65, 3) := o180 ac_cX11_slotsHeld_0 10 0 65 rfl
theorem dX11_slotsHeld_13 : decode cX11_slotsHeld 13 = .ok (.iload_n 2, 1) := o28 ac_cX11_slotsHeld_0 13 rfl
theorem dX11_slotsHeld_14 : decode cX11_slotsHeld 14 = .ok (.baload, 1) := o51 ac_cX11_slotsHeld_0 14 rfl
theorem dX11_slotsHeld_15 : decode cX11_slotsHeld 15 = .ok (.ifCond .eq 6, 3) := o153p ac_cX11_slotsHeld_0 15 0 6 rfl rfl
def kb_cX11_slotsHeld_16 : List Nat := [0, 6, 132, 1, 1, 132, 2, 1, 167, 255, 236, 27, 172]
theorem ac_cX11_slotsHeld_16 : AL cX11_slotsHeld 16 kb_cX11_slotsHeld_16 := AL.of (m := 13) (by decide +kernel)
theorem dX11_slotsHeld_21 : decode cX11_slotsHeld 21 = .ok (.iinc 2 1, 3) := o132p ac_cX11_slotsHeld_16 5 2 1 rfl rfl
theorem dX11_slotsHeld_24 : decode cX11_slotsHeld 24 = .ok (.goto (-20), 3) := o167n ac_cX11_slotsHeld_16 8 255 236 19 rfl rfl rfl
theorem dX11_slotsHeld_27 : decode cX11_slotsHeld 27 = .ok (.iload_n 1, 1) := o27 ac_cX11_slotsHeld_16 11 rfl
theorem dX11_slotsHeld_28 : decode cX11_slotsHeld 28 = .ok (.ireturn, 1) := o172 ac_cX11_slotsHeld_16 12 rfl
def kb_cX11_weightsOf_0 : List Nat := [3, 61, 3, 62, 29, 42, 180, 0, 82, 180, 0, 168, 162, 0, 30, 27, 29, 122, 4, 126]
theorem ac_cX11_weightsOf_0 : AL cX11_weightsOf 0 kb_cX11_weightsOf_0 := AL.of (m := 20) (by decide +kernel)
theorem dX11_weightsOf_0 : decode cX11_weightsOf 0 = .ok (.iconst 0, 1) := o3 ac_cX11_weightsOf_0 0 rfl
theorem dX11_weightsOf_1 : decode cX11_weightsOf 1 = .ok (.istore_n 2, 1) := o61 ac_cX11_weightsOf_0 1 rfl
theorem dX11_weightsOf_2 : decode cX11_weightsOf 2 = .ok (.iconst 0, 1) := o3 ac_cX11_weightsOf_0 2 rfl
theorem dX11_weightsOf_3 : decode cX11_weightsOf 3 = .ok (.istore_n 3, 1) := o62 ac_cX11_weightsOf_0 3 rfl
theorem dX11_weightsOf_4 : decode cX11_weightsOf 4 = .ok (.iload_n 3, 1) := o29 ac_cX11_weightsOf_0 4 rfl
theorem dX11_weightsOf_5 : decode cX11_weightsOf 5 = .ok (.aload_n 0, 1) := o42 ac_cX11_weightsOf_0 5 rfl
theorem dX11_weightsOf_6 : decode cX11_weightsOf 6 = .ok (.getfield 82, 3) := o180 ac_cX11_weightsOf_0 6 0 82 rfl
theorem dX11_weightsOf_9 : decode cX11_weightsOf 9 = .ok (.getfield 168, 3) := o180 ac_cX11_weightsOf_0 9 0 168 rfl
theorem dX11_weightsOf_12 : decode cX11_weightsOf 12 = .ok (.if_icmp .ge 30, 3) := o162p ac_cX11_weightsOf_0 12 0 30 rfl rfl
def kb_cX11_weightsOf_32 : List Nat := [29, 46, 96, 61, 132, 3, 1, 167, 255, 221, 28, 172]
theorem ac_cX11_weightsOf_32 : AL cX11_weightsOf 32 kb_cX11_weightsOf_32 := AL.of (m := 12) (by decide +kernel)
theorem dX11_weightsOf_42 : decode cX11_weightsOf 42 = .ok (.iload_n 2, 1) := o28 ac_cX11_weightsOf_32 10 rfl
theorem dX11_weightsOf_43 : decode cX11_weightsOf 43 = .ok (.ireturn, 1) := o172 ac_cX11_weightsOf_32 11 rfl
def kb_cX11_count_0 : List Nat := [27, 170, 0, 0, 0, 0, 1, 8, 0, 0, 0, 0, 0, 0, 0, 17, 0, 0, 0, 87]
theorem ac_cX11_count_0 : AL cX11_count 0 kb_cX11_count_0 := AL.of (m := 20) (by decide +kernel)
theorem dX11_count_0 : decode cX11_count 0 = .ok (.iload_n 1, 1) := o27 ac_cX11_count_0 0 rfl
theorem dX11_count_1 : decode cX11_count 1 = .ok (.tableswitch 264 0 17 #[87, 95, 103, 111, 119, 128, 137, 145, 153, 161, 185, 197, 208, 216, 224, 229, 242, 255], 87) := by decide +kernel
def kb_cX11_count_80 : List Nat := [0, 0, 0, 242, 0, 0, 0, 255, 42, 180, 0, 82, 180, 0, 168, 172, 42, 180, 0, 82]
theorem ac_cX11_count_80 : AL cX11_count 80 kb_cX11_count_80 := AL.of (m := 20) (by decide +kernel)
theorem dX11_count_88 : decode cX11_count 88 = .ok (.aload_n 0, 1) := o42 ac_cX11_count_80 8 rfl
theorem dX11_count_89 : decode cX11_count 89 = .ok (.getfield 82, 3) := o180 ac_cX11_count_80 9 0 82 rfl
theorem dX11_count_92 : decode cX11_count 92 = .ok (.getfield 168, 3) := o180 ac_cX11_count_80 12 0 168 rfl
theorem dX11_count_95 : decode cX11_count 95 = .ok (.ireturn, 1) := o172 ac_cX11_count_80 15 rfl
def kb_cX11_count_96 : List Nat := [42, 180, 0, 82, 180, 0, 171, 172, 42, 180, 0, 54, 180, 0, 174, 172, 42, 180, 0, 54]
theorem ac_cX11_count_96 : AL cX11_count 96 kb_cX11_count_96 := AL.of (m := 20) (by decide +kernel)
theorem dX11_count_96 : decode cX11_count 96 = .ok (.aload_n 0, 1) := o42 ac_cX11_count_96 0 rfl
theorem dX11_count_97 : decode cX11_count 97 = .ok (.getfield 82, 3) := o180 ac_cX11_count_96 1 0 82 rfl
theorem dX11_count_100 : decode cX11_count 100 = .ok (.getfield 171, 3) := o180 ac_cX11_count_96 4 0 171 rfl
theorem dX11_count_103 : decode cX11_count 103 = .ok (.ireturn, 1) := o172 ac_cX11_count_96 7 rfl
theorem dX11_count_104 : decode cX11_count 104 = .ok (.aload_n 0, 1) := o42 ac_cX11_count_96 8 rfl
theorem dX11_count_105 : decode cX11_count 105 = .ok (.getfield 54, 3) := o180 ac_cX11_count_96 9 0 54 rfl
theorem dX11_count_108 : decode cX11_count 108 = .ok (.getfield 174, 3) := o180 ac_cX11_count_96 12 0 174 rfl
theorem dX11_count_111 : decode cX11_count 111 = .ok (.ireturn, 1) := o172 ac_cX11_count_96 15 rfl
def kb_cX11_count_112 : List Nat := [42, 180, 0, 54, 180, 0, 177, 172, 42, 180, 0, 54, 3, 182, 0, 180, 172, 42, 180, 0]
theorem ac_cX11_count_112 : AL cX11_count 112 kb_cX11_count_112 := AL.of (m := 20) (by decide +kernel)
theorem dX11_count_112 : decode cX11_count 112 = .ok (.aload_n 0, 1) := o42 ac_cX11_count_112 0 rfl
theorem dX11_count_113 : decode cX11_count 113 = .ok (.getfield 54, 3) := o180 ac_cX11_count_112 1 0 54 rfl
theorem dX11_count_116 : decode cX11_count 116 = .ok (.getfield 177, 3) := o180 ac_cX11_count_112 4 0 177 rfl
theorem dX11_count_119 : decode cX11_count 119 = .ok (.ireturn, 1) := o172 ac_cX11_count_112 7 rfl
theorem dX11_count_120 : decode cX11_count 120 = .ok (.aload_n 0, 1) := o42 ac_cX11_count_112 8 rfl
theorem dX11_count_121 : decode cX11_count 121 = .ok (.getfield 54, 3) := o180 ac_cX11_count_112 9 0 54 rfl
theorem dX11_count_124 : decode cX11_count 124 = .ok (.iconst 0, 1) := o3 ac_cX11_count_112 12 rfl
theorem dX11_count_125 : decode cX11_count 125 = .ok (.invokevirtual 180, 3) := o182 ac_cX11_count_112 13 0 180 rfl
def kb_cX11_count_128 : List Nat := [172, 42, 180, 0, 54, 5, 182, 0, 180, 172, 42, 180, 0, 54, 180, 0, 184, 172, 42, 180]
theorem ac_cX11_count_128 : AL cX11_count 128 kb_cX11_count_128 := AL.of (m := 20) (by decide +kernel)
theorem dX11_count_128 : decode cX11_count 128 = .ok (.ireturn, 1) := o172 ac_cX11_count_128 0 rfl
theorem dX11_count_129 : decode cX11_count 129 = .ok (.aload_n 0, 1) := o42 ac_cX11_count_128 1 rfl
theorem dX11_count_130 : decode cX11_count 130 = .ok (.getfield 54, 3) := o180 ac_cX11_count_128 2 0 54 rfl
theorem dX11_count_133 : decode cX11_count 133 = .ok (.iconst 2, 1) := o5 ac_cX11_count_128 5 rfl
theorem dX11_count_134 : decode cX11_count 134 = .ok (.invokevirtual 180, 3) := o182 ac_cX11_count_128 6 0 180 rfl
theorem dX11_count_137 : decode cX11_count 137 = .ok (.ireturn, 1) := o172 ac_cX11_count_128 9 rfl
theorem dX11_count_138 : decode cX11_count 138 = .ok (.aload_n 0, 1) := o42 ac_cX11_count_128 10 rfl
theorem dX11_count_139 : decode cX11_count 139 = .ok (.getfield 54, 3) := o180 ac_cX11_count_128 11 0 54 rfl
theorem dX11_count_142 : decode cX11_count 142 = .ok (.getfield 184, 3) := o180 ac_cX11_count_128 14 0 184 rfl
def kb_cX11_count_144 : List Nat := [184, 172, 42, 180, 0, 54, 180, 0, 187, 172, 42, 180, 0, 54, 180, 0, 190, 172, 42, 180]
theorem ac_cX11_count_144 : AL cX11_count 144 kb_cX11_count_144 := AL.of (m := 20) (by decide +kernel)
theorem dX11_count_145 : decode cX11_count 145 = .ok (.ireturn, 1) := o172 ac_cX11_count_144 1 rfl
theorem dX11_count_146 : decode cX11_count 146 = .ok (.aload_n 0, 1) := o42 ac_cX11_count_144 2 rfl
theorem dX11_count_147 : decode cX11_count 147 = .ok (.getfield 54, 3) := o180 ac_cX11_count_144 3 0 54 rfl
theorem dX11_count_150 : decode cX11_count 150 = .ok (.getfield 187, 3) := o180 ac_cX11_count_144 6 0 187 rfl
theorem dX11_count_153 : decode cX11_count 153 = .ok (.ireturn, 1) := o172 ac_cX11_count_144 9 rfl
theorem dX11_count_154 : decode cX11_count 154 = .ok (.aload_n 0, 1) := o42 ac_cX11_count_144 10 rfl
theorem dX11_count_155 : decode cX11_count 155 = .ok (.getfield 54, 3) := o180 ac_cX11_count_144 11 0 54 rfl
theorem dX11_count_158 : decode cX11_count 158 = .ok (.getfield 190, 3) := o180 ac_cX11_count_144 14 0 190 rfl
def kb_cX11_count_160 : List Nat := [190, 172, 42, 180, 0, 54, 180, 0, 193, 2, 160, 0, 8, 16, 254, 167, 0, 10, 42, 180]
theorem ac_cX11_count_160 : AL cX11_count 160 kb_cX11_count_160 := AL.of (m := 20) (by decide +kernel)
theorem dX11_count_161 : decode cX11_count 161 = .ok (.ireturn, 1) := o172 ac_cX11_count_160 1 rfl
theorem dX11_count_162 : decode cX11_count 162 = .ok (.aload_n 0, 1) := o42 ac_cX11_count_160 2 rfl
theorem dX11_count_163 : decode cX11_count 163 = .ok (.getfield 54, 3) := o180 ac_cX11_count_160 3 0 54 rfl
theorem dX11_count_166 : decode cX11_count 166 = .ok (.getfield 193, 3) := o180 ac_cX11_count_160 6 0 193 rfl
theorem dX11_count_169 : decode cX11_count 169 = .ok (.iconst (-1), 1) := o2 ac_cX11_count_160 9 rfl
theorem dX11_count_170 : decode cX11_count 170 = .ok (.if_icmp .ne 8, 3) := o160p ac_cX11_count_160 10 0 8 rfl rfl
theorem dX11_count_173 : decode cX11_count 173 = .ok (.bipush (-2), 2) := o16n ac_cX11_count_160 13 254 1 rfl rfl rfl
theorem dX11_count_175 : decode cX11_count 175 = .ok (.goto 10, 3) := o167p ac_cX11_count_160 15 0 10 rfl rfl
def kb_cX11_count_176 : List Nat := [0, 10, 42, 180, 0, 54, 180, 0, 193, 172, 42, 180, 0, 54, 42, 180, 0, 82, 182, 0]
theorem ac_cX11_count_176 : AL cX11_count 176 kb_cX11_count_176 := AL.of (m := 20) (by decide +kernel)
theorem dX11_count_185 : decode cX11_count 185 = .ok (.ireturn, 1) := o172 ac_cX11_count_176 9 rfl
theorem dX11_count_186 : decode cX11_count 186 = .ok (.aload_n 0, 1) := o42 ac_cX11_count_176 10 rfl
theorem dX11_count_187 : decode cX11_count 187 = .ok (.getfield 54, 3) := o180 ac_cX11_count_176 11 0 54 rfl
theorem dX11_count_190 : decode cX11_count 190 = .ok (.aload_n 0, 1) := o42 ac_cX11_count_176 14 rfl
theorem dX11_count_191 : decode cX11_count 191 = .ok (.getfield 82, 3) := o180 ac_cX11_count_176 15 0 82 rfl
def kb_cX11_count_192 : List Nat := [0, 82, 182, 0, 196, 172, 42, 180, 0, 10, 180, 0, 89, 180, 0, 93, 172, 42, 180, 0]
theorem ac_cX11_count_192 : AL cX11_count 192 kb_cX11_count_192 := AL.of (m := 20) (by decide +kernel)
theorem dX11_count_194 : decode cX11_count 194 = .ok (.invokevirtual 196, 3) := o182 ac_cX11_count_192 2 0 196 rfl
theorem dX11_count_197 : decode cX11_count 197 = .ok (.ireturn, 1) := o172 ac_cX11_count_192 5 rfl
theorem dX11_count_198 : decode cX11_count 198 = .ok (.aload_n 0, 1) := o42 ac_cX11_count_192 6 rfl
theorem dX11_count_199 : decode cX11_count 199 = .ok (.getfield 10, 3) := o180 ac_cX11_count_192 7 0 10 rfl
theorem dX11_count_202 : decode cX11_count 202 = .ok (.getfield 89, 3) := o180 ac_cX11_count_192 10 0 89 rfl
theorem dX11_count_205 : decode cX11_count 205 = .ok (.getfield 93, 3) := o180 ac_cX11_count_192 13 0 93 rfl
def kb_cX11_count_208 : List Nat := [172, 42, 180, 0, 26, 180, 0, 199, 172, 42, 180, 0, 33, 180, 0, 117, 172, 42, 182, 0]
theorem ac_cX11_count_208 : AL cX11_count 208 kb_cX11_count_208 := AL.of (m := 20) (by decide +kernel)
theorem dX11_count_208 : decode cX11_count 208 = .ok (.ireturn, 1) := o172 ac_cX11_count_208 0 rfl
theorem dX11_count_209 : decode cX11_count 209 = .ok (.aload_n 0, 1) := o42 ac_cX11_count_208 1 rfl
theorem dX11_count_210 : decode cX11_count 210 = .ok (.getfield 26, 3) := o180 ac_cX11_count_208 2 0 26 rfl
theorem dX11_count_213 : decode cX11_count 213 = .ok (.getfield 199, 3) := o180 ac_cX11_count_208 5 0 199 rfl
theorem dX11_count_216 : decode cX11_count 216 = .ok (.ireturn, 1) := o172 ac_cX11_count_208 8 rfl
theorem dX11_count_217 : decode cX11_count 217 = .ok (.aload_n 0, 1) := o42 ac_cX11_count_208 9 rfl
theorem dX11_count_218 : decode cX11_count 218 = .ok (.getfield 33, 3) := o180 ac_cX11_count_208 10 0 33 rfl
theorem dX11_count_221 : decode cX11_count 221 = .ok (.getfield 117, 3) := o180 ac_cX11_count_208 13 0 117 rfl
def kb_cX11_count_224 : List Nat := [172, 42, 182, 0, 200, 172, 42, 42, 180, 0, 54, 3, 182, 0, 180, 182, 0, 203, 172, 42]
theorem ac_cX11_count_224 : AL cX11_count 224 kb_cX11_count_224 := AL.of (m := 20) (by decide +kernel)
theorem dX11_count_224 : decode cX11_count 224 = .ok (.ireturn, 1) := o172 ac_cX11_count_224 0 rfl
theorem dX11_count_225 : decode cX11_count 225 = .ok (.aload_n 0, 1) := o42 ac_cX11_count_224 1 rfl
theorem dX11_count_226 : decode cX11_count 226 = .ok (.invokevirtual 200, 3) := o182 ac_cX11_count_224 2 0 200 rfl
theorem dX11_count_229 : decode cX11_count 229 = .ok (.ireturn, 1) := o172 ac_cX11_count_224 5 rfl
theorem dX11_count_230 : decode cX11_count 230 = .ok (.aload_n 0, 1) := o42 ac_cX11_count_224 6 rfl
theorem dX11_count_231 : decode cX11_count 231 = .ok (.aload_n 0, 1) := o42 ac_cX11_count_224 7 rfl
theorem dX11_count_232 : decode cX11_count 232 = .ok (.getfield 54, 3) := o180 ac_cX11_count_224 8 0 54 rfl
theorem dX11_count_235 : decode cX11_count 235 = .ok (.iconst 0, 1) := o3 ac_cX11_count_224 11 rfl
theorem dX11_count_236 : decode cX11_count 236 = .ok (.invokevirtual 180, 3) := o182 ac_cX11_count_224 12 0 180 rfl
theorem dX11_count_239 : decode cX11_count 239 = .ok (.invokevirtual 203, 3) := o182 ac_cX11_count_224 15 0 203 rfl
def kb_cX11_count_240 : List Nat := [0, 203, 172, 42, 42, 180, 0, 54, 5, 182, 0, 180, 182, 0, 203, 172, 42, 180, 0, 54]
theorem ac_cX11_count_240 : AL cX11_count 240 kb_cX11_count_240 := AL.of (m := 20) (by decide +kernel)
theorem dX11_count_242 : decode cX11_count 242 = .ok (.ireturn, 1) := o172 ac_cX11_count_240 2 rfl
theorem dX11_count_243 : decode cX11_count 243 = .ok (.aload_n 0, 1) := o42 ac_cX11_count_240 3 rfl
theorem dX11_count_244 : decode cX11_count 244 = .ok (.aload_n 0, 1) := o42 ac_cX11_count_240 4 rfl
theorem dX11_count_245 : decode cX11_count 245 = .ok (.getfield 54, 3) := o180 ac_cX11_count_240 5 0 54 rfl
theorem dX11_count_248 : decode cX11_count 248 = .ok (.iconst 2, 1) := o5 ac_cX11_count_240 8 rfl
theorem dX11_count_249 : decode cX11_count 249 = .ok (.invokevirtual 180, 3) := o182 ac_cX11_count_240 9 0 180 rfl
theorem dX11_count_252 : decode cX11_count 252 = .ok (.invokevirtual 203, 3) := o182 ac_cX11_count_240 12 0 203 rfl
theorem dX11_count_255 : decode cX11_count 255 = .ok (.ireturn, 1) := o172 ac_cX11_count_240 15 rfl
def kb_cX11_count_256 : List Nat := [42, 180, 0, 54, 4, 182, 0, 180, 172, 2, 172]
theorem ac_cX11_count_256 : AL cX11_count 256 kb_cX11_count_256 := AL.of (m := 11) (by decide +kernel)
theorem dX11_count_256 : decode cX11_count 256 = .ok (.aload_n 0, 1) := o42 ac_cX11_count_256 0 rfl
theorem dX11_count_257 : decode cX11_count 257 = .ok (.getfield 54, 3) := o180 ac_cX11_count_256 1 0 54 rfl
theorem dX11_count_260 : decode cX11_count 260 = .ok (.iconst 1, 1) := o4 ac_cX11_count_256 4 rfl
theorem dX11_count_261 : decode cX11_count 261 = .ok (.invokevirtual 180, 3) := o182 ac_cX11_count_256 5 0 180 rfl
theorem dX11_count_264 : decode cX11_count 264 = .ok (.ireturn, 1) := o172 ac_cX11_count_256 8 rfl
theorem dX11_count_265 : decode cX11_count 265 = .ok (.iconst (-1), 1) := o2 ac_cX11_count_256 9 rfl
theorem dX11_count_266 : decode cX11_count 266 = .ok (.ireturn, 1) := o172 ac_cX11_count_256 10 rfl
def kb_cX11_isHeight_0 : List Nat := [26, 155, 0, 13, 26, 16, 9, 163, 0, 7, 4, 167, 0, 4, 3, 172]
theorem ac_cX11_isHeight_0 : AL cX11_isHeight 0 kb_cX11_isHeight_0 := AL.of (m := 16) (by decide +kernel)
theorem dX11_isHeight_0 : decode cX11_isHeight 0 = .ok (.iload_n 0, 1) := o26 ac_cX11_isHeight_0 0 rfl
theorem dX11_isHeight_1 : decode cX11_isHeight 1 = .ok (.ifCond .lt 13, 3) := o155p ac_cX11_isHeight_0 1 0 13 rfl rfl
theorem dX11_isHeight_4 : decode cX11_isHeight 4 = .ok (.iload_n 0, 1) := o26 ac_cX11_isHeight_0 4 rfl
theorem dX11_isHeight_5 : decode cX11_isHeight 5 = .ok (.bipush 9, 2) := o16p ac_cX11_isHeight_0 5 9 rfl rfl
theorem dX11_isHeight_7 : decode cX11_isHeight 7 = .ok (.if_icmp .gt 7, 3) := o163p ac_cX11_isHeight_0 7 0 7 rfl rfl
theorem dX11_isHeight_10 : decode cX11_isHeight 10 = .ok (.iconst 1, 1) := o4 ac_cX11_isHeight_0 10 rfl
theorem dX11_isHeight_11 : decode cX11_isHeight 11 = .ok (.goto 4, 3) := o167p ac_cX11_isHeight_0 11 0 4 rfl rfl
theorem dX11_isHeight_15 : decode cX11_isHeight 15 = .ok (.ireturn, 1) := o172 ac_cX11_isHeight_0 15 rfl
theorem dX11_isHeight_14 : decode cX11_isHeight 14 = .ok (.iconst 0, 1) := o3 ac_cX11_isHeight_0 14 rfl
def kb_cX11_set_0 : List Nat := [27, 184, 0, 153, 153, 0, 14, 42, 180, 0, 54, 180, 0, 217, 27, 160, 0, 5, 3, 172]
theorem ac_cX11_set_0 : AL cX11_set 0 kb_cX11_set_0 := AL.of (m := 20) (by decide +kernel)
theorem dX11_set_0 : decode cX11_set 0 = .ok (.iload_n 1, 1) := o27 ac_cX11_set_0 0 rfl
theorem dX11_set_1 : decode cX11_set 1 = .ok (.invokestatic 153, 3) := o184 ac_cX11_set_0 1 0 153 rfl
theorem dX11_set_4 : decode cX11_set 4 = .ok (.ifCond .eq 14, 3) := o153p ac_cX11_set_0 4 0 14 rfl rfl
theorem dX11_set_7 : decode cX11_set 7 = .ok (.aload_n 0, 1) := o42 ac_cX11_set_0 7 rfl
theorem dX11_set_8 : decode cX11_set 8 = .ok (.getfield 54, 3) := o180 ac_cX11_set_0 8 0 54 rfl
theorem dX11_set_11 : decode cX11_set 11 = .ok (.getfield 217, 3) := o180 ac_cX11_set_0 11 0 217 rfl
theorem dX11_set_14 : decode cX11_set 14 = .ok (.iload_n 1, 1) := o27 ac_cX11_set_0 14 rfl
theorem dX11_set_15 : decode cX11_set 15 = .ok (.if_icmp .ne 5, 3) := o160p ac_cX11_set_0 15 0 5 rfl rfl
def kb_cX11_set_16 : List Nat := [0, 5, 3, 172, 42, 180, 0, 26, 42, 180, 0, 54, 182, 0, 206, 42, 180, 0, 54, 27]
theorem ac_cX11_set_16 : AL cX11_set 16 kb_cX11_set_16 := AL.of (m := 20) (by decide +kernel)
theorem dX11_set_20 : decode cX11_set 20 = .ok (.aload_n 0, 1) := o42 ac_cX11_set_16 4 rfl
theorem dX11_set_21 : decode cX11_set 21 = .ok (.getfield 26, 3) := o180 ac_cX11_set_16 5 0 26 rfl
theorem dX11_set_24 : decode cX11_set 24 = .ok (.aload_n 0, 1) := o42 ac_cX11_set_16 8 rfl
theorem dX11_set_25 : decode cX11_set 25 = .ok (.getfield 54, 3) := o180 ac_cX11_set_16 9 0 54 rfl
theorem dX11_set_28 : decode cX11_set 28 = .ok (.invokevirtual 206, 3) := o182 ac_cX11_set_16 12 0 206 rfl
theorem dX11_set_31 : decode cX11_set 31 = .ok (.aload_n 0, 1) := o42 ac_cX11_set_16 15 rfl
def kb_cX11_set_32 : List Nat := [180, 0, 54, 27, 181, 0, 217, 4, 172]
theorem ac_cX11_set_32 : AL cX11_set 32 kb_cX11_set_32 := AL.of (m := 9) (by decide +kernel)
theorem dX11_set_32 : decode cX11_set 32 = .ok (.getfield 54, 3) := o180 ac_cX11_set_32 0 0 54 rfl
theorem dX11_set_35 : decode cX11_set 35 = .ok (.iload_n 1, 1) := o27 ac_cX11_set_32 3 rfl
theorem dX11_set_36 : decode cX11_set 36 = .ok (.putfield 217, 3) := o181 ac_cX11_set_32 4 0 217 rfl
theorem dX11_set_39 : decode cX11_set 39 = .ok (.iconst 1, 1) := o4 ac_cX11_set_32 7 rfl
theorem dX11_set_40 : decode cX11_set 40 = .ok (.ireturn, 1) := o172 ac_cX11_set_32 8 rfl
theorem dX11_set_18 : decode cX11_set 18 = .ok (.iconst 0, 1) := o3 ac_cX11_set_16 2 rfl
theorem dX11_set_19 : decode cX11_set 19 = .ok (.ireturn, 1) := o172 ac_cX11_set_16 3 rfl
def kb_cX11_beats_0 : List Nat := [27, 155, 0, 9, 27, 16, 60, 164, 0, 5, 2, 172, 27, 158, 0, 37, 42, 180, 0, 26]
theorem ac_cX11_beats_0 : AL cX11_beats 0 kb_cX11_beats_0 := AL.of (m := 20) (by decide +kernel)
theorem dX11_beats_0 : decode cX11_beats 0 = .ok (.iload_n 1, 1) := o27 ac_cX11_beats_0 0 rfl
theorem dX11_beats_1 : decode cX11_beats 1 = .ok (.ifCond .lt 9, 3) := o155p ac_cX11_beats_0 1 0 9 rfl rfl
theorem dX11_beats_4 : decode cX11_beats 4 = .ok (.iload_n 1, 1) := o27 ac_cX11_beats_0 4 rfl
theorem dX11_beats_5 : decode cX11_beats 5 = .ok (.bipush 60, 2) := o16p ac_cX11_beats_0 5 60 rfl rfl
theorem dX11_beats_7 : decode cX11_beats 7 = .ok (.if_icmp .le 5, 3) := o164p ac_cX11_beats_0 7 0 5 rfl rfl
theorem dX11_beats_12 : decode cX11_beats 12 = .ok (.iload_n 1, 1) := o27 ac_cX11_beats_0 12 rfl
theorem dX11_beats_13 : decode cX11_beats 13 = .ok (.ifCond .le 37, 3) := o158p ac_cX11_beats_0 13 0 37 rfl rfl
def kb_cX11_beats_48 : List Nat := [0, 223, 42, 180, 0, 54, 180, 0, 174, 172]
theorem ac_cX11_beats_48 : AL cX11_beats 48 kb_cX11_beats_48 := AL.of (m := 10) (by decide +kernel)
theorem dX11_beats_50 : decode cX11_beats 50 = .ok (.aload_n 0, 1) := o42 ac_cX11_beats_48 2 rfl
theorem dX11_beats_51 : decode cX11_beats 51 = .ok (.getfield 54, 3) := o180 ac_cX11_beats_48 3 0 54 rfl
theorem dX11_beats_54 : decode cX11_beats 54 = .ok (.getfield 174, 3) := o180 ac_cX11_beats_48 6 0 174 rfl
theorem dX11_beats_57 : decode cX11_beats 57 = .ok (.ireturn, 1) := o172 ac_cX11_beats_48 9 rfl
def kb_cX11_beats_16 : List Nat := [42, 180, 0, 26, 42, 180, 0, 54, 182, 0, 206, 42, 180, 0, 19, 42, 180, 0, 82, 42]
theorem ac_cX11_beats_16 : AL cX11_beats 16 kb_cX11_beats_16 := AL.of (m := 20) (by decide +kernel)
theorem dX11_beats_16 : decode cX11_beats 16 = .ok (.aload_n 0, 1) := o42 ac_cX11_beats_16 0 rfl
theorem dX11_beats_17 : decode cX11_beats 17 = .ok (.getfield 26, 3) := o180 ac_cX11_beats_16 1 0 26 rfl
theorem dX11_beats_20 : decode cX11_beats 20 = .ok (.aload_n 0, 1) := o42 ac_cX11_beats_16 4 rfl
theorem dX11_beats_21 : decode cX11_beats 21 = .ok (.getfield 54, 3) := o180 ac_cX11_beats_16 5 0 54 rfl
theorem dX11_beats_24 : decode cX11_beats 24 = .ok (.invokevirtual 206, 3) := o182 ac_cX11_beats_16 8 0 206 rfl
theorem dX11_beats_27 : decode cX11_beats 27 = .ok (.aload_n 0, 1) := o42 ac_cX11_beats_16 11 rfl
theorem dX11_beats_28 : decode cX11_beats 28 = .ok (.getfield 19, 3) := o180 ac_cX11_beats_16 12 0 19 rfl
theorem dX11_beats_31 : decode cX11_beats 31 = .ok (.aload_n 0, 1) := o42 ac_cX11_beats_16 15 rfl
def kb_cX11_beats_32 : List Nat := [180, 0, 82, 42, 180, 0, 54, 27, 42, 180, 0, 82, 180, 0, 220, 182, 0, 223, 42, 180]
theorem ac_cX11_beats_32 : AL cX11_beats 32 kb_cX11_beats_32 := AL.of (m := 20) (by decide +kernel)
theorem dX11_beats_32 : decode cX11_beats 32 = .ok (.getfield 82, 3) := o180 ac_cX11_beats_32 0 0 82 rfl
theorem dX11_beats_35 : decode cX11_beats 35 = .ok (.aload_n 0, 1) := o42 ac_cX11_beats_32 3 rfl
theorem dX11_beats_36 : decode cX11_beats 36 = .ok (.getfield 54, 3) := o180 ac_cX11_beats_32 4 0 54 rfl
theorem dX11_beats_39 : decode cX11_beats 39 = .ok (.iload_n 1, 1) := o27 ac_cX11_beats_32 7 rfl
theorem dX11_beats_40 : decode cX11_beats 40 = .ok (.aload_n 0, 1) := o42 ac_cX11_beats_32 8 rfl
theorem dX11_beats_41 : decode cX11_beats 41 = .ok (.getfield 82, 3) := o180 ac_cX11_beats_32 9 0 82 rfl
theorem dX11_beats_44 : decode cX11_beats 44 = .ok (.getfield 220, 3) := o180 ac_cX11_beats_32 12 0 220 rfl
theorem dX11_beats_47 : decode cX11_beats 47 = .ok (.invokevirtual 223, 3) := o182 ac_cX11_beats_32 15 0 223 rfl
theorem dX11_beats_10 : decode cX11_beats 10 = .ok (.iconst (-1), 1) := o2 ac_cX11_beats_0 10 rfl
theorem dX11_beats_11 : decode cX11_beats 11 = .ok (.ireturn, 1) := o172 ac_cX11_beats_0 11 rfl
def kb_cX11_hold_0 : List Nat := [27, 155, 0, 8, 27, 6, 161, 0, 5, 3, 172, 42, 180, 0, 61, 27, 50, 42, 180, 0]
theorem ac_cX11_hold_0 : AL cX11_hold 0 kb_cX11_hold_0 := AL.of (m := 20) (by decide +kernel)
theorem dX11_hold_0 : decode cX11_hold 0 = .ok (.iload_n 1, 1) := o27 ac_cX11_hold_0 0 rfl
theorem dX11_hold_1 : decode cX11_hold 1 = .ok (.ifCond .lt 8, 3) := o155p ac_cX11_hold_0 1 0 8 rfl rfl
theorem dX11_hold_4 : decode cX11_hold 4 = .ok (.iload_n 1, 1) := o27 ac_cX11_hold_0 4 rfl
theorem dX11_hold_5 : decode cX11_hold 5 = .ok (.iconst 3, 1) := o6 ac_cX11_hold_0 5 rfl
theorem dX11_hold_6 : decode cX11_hold 6 = .ok (.if_icmp .lt 5, 3) := o161p ac_cX11_hold_0 6 0 5 rfl rfl
theorem dX11_hold_11 : decode cX11_hold 11 = .ok (.aload_n 0, 1) := o42 ac_cX11_hold_0 11 rfl
theorem dX11_hold_12 : decode cX11_hold 12 = .ok (.getfield 61, 3) := o180 ac_cX11_hold_0 12 0 61 rfl
theorem dX11_hold_15 : decode cX11_hold 15 = .ok (.iload_n 1, 1) := o27 ac_cX11_hold_0 15 rfl
def kb_cX11_hold_16 : List Nat := [50, 42, 180, 0, 54, 182, 0, 230, 42, 180, 0, 65, 27, 4, 84, 4, 172]
theorem ac_cX11_hold_16 : AL cX11_hold 16 kb_cX11_hold_16 := AL.of (m := 17) (by decide +kernel)
theorem dX11_hold_16 : decode cX11_hold 16 = .ok (.aaload, 1) := o50 ac_cX11_hold_16 0 rfl
theorem dX11_hold_17 : decode cX11_hold 17 = .ok (.aload_n 0, 1) := o42 ac_cX11_hold_16 1 rfl
theorem dX11_hold_18 : decode cX11_hold 18 = .ok (.getfield 54, 3) := o180 ac_cX11_hold_16 2 0 54 rfl
theorem dX11_hold_21 : decode cX11_hold 21 = .ok (.invokevirtual 230, 3) := o182 ac_cX11_hold_16 5 0 230 rfl
theorem dX11_hold_24 : decode cX11_hold 24 = .ok (.aload_n 0, 1) := o42 ac_cX11_hold_16 8 rfl
theorem dX11_hold_25 : decode cX11_hold 25 = .ok (.getfield 65, 3) := o180 ac_cX11_hold_16 9 0 65 rfl
theorem dX11_hold_28 : decode cX11_hold 28 = .ok (.iload_n 1, 1) := o27 ac_cX11_hold_16 12 rfl
theorem dX11_hold_29 : decode cX11_hold 29 = .ok (.iconst 1, 1) := o4 ac_cX11_hold_16 13 rfl
theorem dX11_hold_30 : decode cX11_hold 30 = .ok (.bastore, 1) := o84 ac_cX11_hold_16 14 rfl
theorem dX11_hold_31 : decode cX11_hold 31 = .ok (.iconst 1, 1) := o4 ac_cX11_hold_16 15 rfl
def kb_cX11_hold_32 : List Nat := [172]
theorem ac_cX11_hold_32 : AL cX11_hold 32 kb_cX11_hold_32 := AL.of (m := 1) (by decide +kernel)
theorem dX11_hold_32 : decode cX11_hold 32 = .ok (.ireturn, 1) := o172 ac_cX11_hold_32 0 rfl
def kb_cX11_restore_0 : List Nat := [27, 155, 0, 17, 27, 6, 162, 0, 12, 42, 180, 0, 65, 27, 51, 154, 0, 5, 3, 172]
theorem ac_cX11_restore_0 : AL cX11_restore 0 kb_cX11_restore_0 := AL.of (m := 20) (by decide +kernel)
theorem dX11_restore_0 : decode cX11_restore 0 = .ok (.iload_n 1, 1) := o27 ac_cX11_restore_0 0 rfl
theorem dX11_restore_1 : decode cX11_restore 1 = .ok (.ifCond .lt 17, 3) := o155p ac_cX11_restore_0 1 0 17 rfl rfl
theorem dX11_restore_4 : decode cX11_restore 4 = .ok (.iload_n 1, 1) := o27 ac_cX11_restore_0 4 rfl
theorem dX11_restore_5 : decode cX11_restore 5 = .ok (.iconst 3, 1) := o6 ac_cX11_restore_0 5 rfl
theorem dX11_restore_6 : decode cX11_restore 6 = .ok (.if_icmp .ge 12, 3) := o162p ac_cX11_restore_0 6 0 12 rfl rfl
theorem dX11_restore_9 : decode cX11_restore 9 = .ok (.aload_n 0, 1) := o42 ac_cX11_restore_0 9 rfl
theorem dX11_restore_10 : decode cX11_restore 10 = .ok (.getfield 65, 3) := o180 ac_cX11_restore_0 10 0 65 rfl
theorem dX11_restore_13 : decode cX11_restore 13 = .ok (.iload_n 1, 1) := o27 ac_cX11_restore_0 13 rfl
theorem dX11_restore_14 : decode cX11_restore 14 = .ok (.baload, 1) := o51 ac_cX11_restore_0 14 rfl
theorem dX11_restore_15 : decode cX11_restore 15 = .ok (.ifCond .ne 5, 3) := o154p ac_cX11_restore_0 15 0 5 rfl rfl
def kb_cX11_restore_16 : List Nat := [0, 5, 3, 172, 42, 180, 0, 54, 42, 180, 0, 61, 27, 50, 182, 0, 230, 42, 180, 0]
theorem ac_cX11_restore_16 : AL cX11_restore 16 kb_cX11_restore_16 := AL.of (m := 20) (by decide +kernel)
theorem dX11_restore_18 : decode cX11_restore 18 = .ok (.iconst 0, 1) := o3 ac_cX11_restore_16 2 rfl
theorem dX11_restore_19 : decode cX11_restore 19 = .ok (.ireturn, 1) := o172 ac_cX11_restore_16 3 rfl
theorem dX11_hold_9 : decode cX11_hold 9 = .ok (.iconst 0, 1) := o3 ac_cX11_hold_0 9 rfl
theorem dX11_hold_10 : decode cX11_hold 10 = .ok (.ireturn, 1) := o172 ac_cX11_hold_0 10 rfl
