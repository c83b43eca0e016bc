/-! the world as a list: what stands at a number, and what a store makes of it -/
theorem mw_get {ids : List Nat} {ad : Nat → Nat} {ca : Nat → ClassId} {i : Nat} (h : i ∈ ids) : ∃ p : Nat, ids[p]? = some i ∧ ∀ σ : HS, (mw ids ad ca σ)[p]? = some (ad i, ceK ad ca (kd i) i (σ.1 i) (σ.2.1 i) σ.2.2) := by
  obtain ⟨p, hp⟩ := List.mem_iff_getElem?.mp h
  refine ⟨p, hp, fun σ => ?_⟩
  unfold mw
  rw [List.getElem?_map, hp]
  rfl
theorem mw_len {ids : List Nat} {ad : Nat → Nat} {ca : Nat → ClassId} {σ : HS} : (mw ids ad ca σ).length = ids.length := by
  unfold mw
  rw [List.length_map]
theorem mw_at {ids : List Nat} {ad : Nat → Nat} {ca : Nat → ClassId} {σ : HS} {k : Nat} {q : Nat × va_E} (h : (mw ids ad ca σ)[k]? = some q) : ∃ i : Nat, ids[k]? = some i ∧ q = (ad i, ceK ad ca (kd i) i (σ.1 i) (σ.2.1 i) σ.2.2) := by
  unfold mw at h
  rw [List.getElem?_map] at h
  cases hi : ids[k]? with
  | none => rw [hi] at h; cases h
  | some i => rw [hi] at h; exact ⟨i, rfl, (Option.some.inj h).symm⟩
theorem mw_ats {ids : List Nat} {ad : Nat → Nat} {ca : Nat → ClassId} {k i : Nat} (h : ids[k]? = some i) (σ : HS) : (mw ids ad ca σ)[k]? = some (ad i, ceK ad ca (kd i) i (σ.1 i) (σ.2.1 i) σ.2.2) := by
  unfold mw
  rw [List.getElem?_map, h]
  rfl
theorem mw_set {ids : List Nat} {A : Nat → Prop} {ad : Nat → Nat} {ca : Nat → ClassId} {σ σ' : HS} {i p : Nat} {X : va_E} (hD : va_D A (mw ids ad ca σ)) (hp : ids[p]? = some i) (hX : ceK ad ca (kd i) i (σ'.1 i) (σ'.2.1 i) σ'.2.2 = X)
    (ho : ∀ j, j ≠ i → ceK ad ca (kd j) j (σ'.1 j) (σ'.2.1 j) σ'.2.2 = ceK ad ca (kd j) j (σ.1 j) (σ.2.1 j) σ.2.2) : (mw ids ad ca σ).set p (ad i, X) = mw ids ad ca σ' := by
  apply List.ext_getElem?
  intro j
  rw [List.getElem?_set]
  by_cases e : p = j
  · subst e
    rw [if_pos rfl, mw_ats hp σ', hX, mw_len, if_pos (List.getElem?_eq_some_iff.mp hp).1]
  · rw [if_neg e]
    cases hj : ids[j]? with
    | none =>
      have h1 : ids.length ≤ j := List.getElem?_eq_none_iff.mp hj
      rw [List.getElem?_eq_none (by rw [mw_len]; exact h1), List.getElem?_eq_none (by rw [mw_len]; exact h1)]
    | some j1 =>
      rw [mw_ats hj σ, mw_ats hj σ', ho j1 (fun h => e (by
        subst h
        exact hD.1 p j _ _ (mw_ats hp σ) (mw_ats hj σ) rfl))]
theorem mw_setI {ids : List Nat} {A : Nat → Prop} {ad : Nat → Nat} {ca : Nat → ClassId} {σ : HS} {i k p : Nat} {v : Int32} {X : va_E} (hD : va_D A (mw ids ad ca σ)) (hp : ids[p]? = some i) (hX : ceK ad ca (kd i) i (upd (σ.1 i) k v) (σ.2.1 i) σ.2.2 = X) : (mw ids ad ca σ).set p (ad i, X) = mw ids ad ca (hI σ i k v) := by
  refine mw_set hD hp ?_ ?_
  · show ceK ad ca (kd i) i (va_up σ.1 i (upd (σ.1 i) k v) i) (σ.2.1 i) σ.2.2 = X
    rw [va_up_self]
    exact hX
  · intro j hj
    show ceK ad ca (kd j) j (va_up σ.1 i (upd (σ.1 i) k v) j) (σ.2.1 j) σ.2.2 = _
    rw [va_up_ne _ _ hj]
theorem mw_setA {ids : List Nat} {A : Nat → Prop} {ad : Nat → Nat} {ca : Nat → ClassId} {σ : HS} {i p : Nat} {f : Nat → Int32} {X : va_E} (hD : va_D A (mw ids ad ca σ)) (hp : ids[p]? = some i) (hX : ceK ad ca (kd i) i f (σ.2.1 i) σ.2.2 = X) : (mw ids ad ca σ).set p (ad i, X) = mw ids ad ca (hA σ i f) := by
  refine mw_set hD hp ?_ ?_
  · show ceK ad ca (kd i) i (va_up σ.1 i f i) (σ.2.1 i) σ.2.2 = X
    rw [va_up_self]
    exact hX
  · intro j hj
    show ceK ad ca (kd j) j (va_up σ.1 i f j) (σ.2.1 j) σ.2.2 = _
    rw [va_up_ne _ _ hj]
theorem mw_setL {ids : List Nat} {A : Nat → Prop} {ad : Nat → Nat} {ca : Nat → ClassId} {σ : HS} {i k p : Nat} {v : Int64} {X : va_E} (hD : va_D A (mw ids ad ca σ)) (hp : ids[p]? = some i) (hX : ceK ad ca (kd i) i (σ.1 i) (vp_updL (σ.2.1 i) k v) σ.2.2 = X) : (mw ids ad ca σ).set p (ad i, X) = mw ids ad ca (hL σ i k v) := by
  refine mw_set hD hp ?_ ?_
  · show ceK ad ca (kd i) i (σ.1 i) (va_up σ.2.1 i (vp_updL (σ.2.1 i) k v) i) σ.2.2 = X
    rw [va_up_self]
    exact hX
  · intro j hj
    show ceK ad ca (kd j) j (σ.1 j) (va_up σ.2.1 i (vp_updL (σ.2.1 i) k v) j) σ.2.2 = _
    rw [va_up_ne _ _ hj]
theorem mw_D {ids : List Nat} {ad : Nat → Nat} {ca : Nat → ClassId} {A : Nat → Prop} {σ : HS} (h : va_D A (mw ids ad ca σ)) (σ' : HS) : va_D A (mw ids ad ca σ') := by
  refine ⟨fun i j p q hp hq e => ?_, fun k q hq => ?_⟩
  · obtain ⟨i1, hi, rfl⟩ := mw_at hp
    obtain ⟨j1, hj, rfl⟩ := mw_at hq
    exact h.1 i j _ _ (mw_ats hi σ) (mw_ats hj σ) e
  · obtain ⟨i1, hk, rfl⟩ := mw_at hq
    have := h.2 k _ (mw_ats hk σ)
    exact this
theorem tys_get {ids : List Nat} {ca : Nat → ClassId} {i : Nat} (hi : i ∈ ids) (h : 12 ≤ kd i) : ∃ t : Nat, (tys ids ca)[t]? = some (ca i, aty (kd i)) := by
  have hm : i ∈ arL ids := List.mem_filter.mpr ⟨hi, by simp [h]⟩
  obtain ⟨t, ht⟩ := List.mem_iff_getElem?.mp hm
  exact ⟨t, by unfold tys; rw [List.getElem?_map, ht]; rfl⟩
/-! locals by their places -/
def LV (ls : Array Slot) (nL : Nat) (vs : List (Option Value)) : Prop := ls.size = nL ∧ lv_wf ls ∧ ∀ (i : Nat) (v : Value), vs[i]? = some (some v) → ls[i]? = some (.val v)
def lvL (vs : List (Option Value)) : List (Nat × Value) := (List.range vs.length).filterMap (fun i => (vs.getD i none).map (fun v => (i, v)))
theorem lvL_mem {vs : List (Option Value)} {q : Nat × Value} : q ∈ lvL vs ↔ vs[q.1]? = some (some q.2) := by
  unfold lvL
  rw [List.mem_filterMap]
  constructor
  · rintro ⟨i, hi, h⟩
    have hi := List.mem_range.mp hi
    have hg : vs[i]? = some vs[i] := List.getElem?_eq_getElem hi
    simp only [List.getD, hg, Option.getD_some] at h
    cases hv : vs[i] with
    | none => rw [hv] at h; simp at h
    | some v => rw [hv] at h hg; simp at h; subst h; exact hg
  · intro h
    have hi : q.1 < vs.length := (List.getElem?_eq_some_iff.mp h).1
    refine ⟨q.1, List.mem_range.mpr hi, ?_⟩
    simp [List.getD, h]
theorem LV.has {ls : Array Slot} {nL : Nat} {vs : List (Option Value)} (h : LV ls nL vs) : lv_has ls nL (lvL vs) := ⟨h.1, h.2.1, fun q hq => h.2.2 q.1 q.2 (lvL_mem.mp hq)⟩
def catOk (vs : List (Option Value)) (i : Nat) : Bool := match i with
  | 0 => true
  | j + 1 => match vs[j]? with
    | some (some v) => !(v.category == 2)
    | _ => true
theorem catOk_use {vs : List (Option Value)} {i j : Nat} {v : Value} (h : catOk vs i = true) (e : j + 1 = i) (hv : vs[j]? = some (some v)) : (v.category == 2) = false := by
  subst e
  simp only [catOk, hv] at h
  simpa using h
theorem LV.store1 {ls : Array Slot} {nL i : Nat} {x : Value} {vs : List (Option Value)} (hc : catOk vs i = true) (h : lv_has ls nL ((i, x) :: (lvL vs).filter (fun q => !(q.1 == i) && !(q.1 + 1 == i && q.2.category == 2)))) : LV ls nL (vs.set i (some x)) := by
  refine ⟨h.1, h.2.1, fun j v hj => ?_⟩
  rw [List.getElem?_set] at hj
  by_cases e : i = j
  · subst e
    rw [if_pos rfl] at hj
    split at hj
    · cases hj
      exact h.2.2 (i, x) List.mem_cons_self
    · cases hj
  · rw [if_neg e] at hj
    refine h.2.2 (j, v) (List.mem_cons_of_mem _ (List.mem_filter.mpr ⟨lvL_mem.mpr hj, ?_⟩))
    have e1 : (j == i) = false := by simp; exact fun h => e h.symm
    by_cases e2 : j + 1 = i
    · have := catOk_use hc e2 hj
      simp [e1, this]
    · have e3 : (j + 1 == i) = false := by simpa using e2
      simp [e1, e3]
theorem LV.store2 {ls : Array Slot} {nL i : Nat} {x : Value} {vs : List (Option Value)} (hc : catOk vs i = true) (h : lv_has ls nL ((i, x) :: (lvL vs).filter (fun q => !(q.1 == i) && (!(q.1 == i + 1) && !(q.1 + 1 == i && q.2.category == 2))))) : LV ls nL ((vs.set (i + 1) none).set i (some x)) := by
  refine ⟨h.1, h.2.1, fun j v hj => ?_⟩
  rw [List.getElem?_set] at hj
  by_cases e : i = j
  · subst e
    rw [if_pos rfl] at hj
    split at hj
    · cases hj
      exact h.2.2 (i, x) List.mem_cons_self
    · cases hj
  · rw [if_neg e, List.getElem?_set] at hj
    by_cases e4 : i + 1 = j
    · rw [if_pos e4] at hj
      split at hj <;> cases hj
    · rw [if_neg e4] at hj
      refine h.2.2 (j, v) (List.mem_cons_of_mem _ (List.mem_filter.mpr ⟨lvL_mem.mpr hj, ?_⟩))
      have e1 : (j == i) = false := by simp; exact fun h => e h.symm
      have e5 : (j == i + 1) = false := by simp; exact fun h => e4 h.symm
      by_cases e2 : j + 1 = i
      · have := catOk_use hc e2 hj
        simp [e1, e5, this]
      · have e3 : (j + 1 == i) = false := by simpa using e2
        simp [e1, e3, e5]
def entL (av : List Value) : List (Option Value) := av.flatMap (fun v => if v.category = 2 then [some v, none] else [some v])
theorem entL_args : ∀ (av : List Value) (k i : Nat) (v : Value), (entL av)[i]? = some (some v) → (k + i, v) ∈ lv_args k av
  | [], k, i, v, h => by simp [entL] at h
  | a :: av, k, i, v, h => by
    have he : entL (a :: av) = (if a.category = 2 then [some a, none] else [some a]) ++ entL av := rfl
    rw [he] at h
    unfold lv_args
    by_cases c : a.category = 2
    · rw [if_pos c] at h ⊢
      match i, h with
      | 0, h => simp at h; subst h; simp
      | 1, h => simp at h
      | i + 2, h =>
        have h' : (entL av)[i]? = some (some v) := by simpa using h
        have := entL_args av (k + 2) i v h'
        rw [show k + (i + 2) = k + 2 + i by omega]
        exact List.mem_cons_of_mem _ this
    · rw [if_neg c] at h ⊢
      match i, h with
      | 0, h => simp at h; subst h; simp
      | i + 1, h =>
        have h' : (entL av)[i]? = some (some v) := by simpa using h
        have := entL_args av (k + 1) i v h'
        rw [show k + (i + 1) = k + 1 + i by omega]
        exact List.mem_cons_of_mem _ this
theorem LV.entry (av : List Value) {n : Nat} (h : (lg_sl av).length ≤ n) (z : Nat) : LV ((lg_sl av ++ List.replicate (n - (lg_sl av).length) Slot.unset).toArray) n (entL av ++ List.replicate z none) := by
  have h0 := lv_entry av h
  refine ⟨h0.1, h0.2.1, fun i v hv => ?_⟩
  rw [List.getElem?_append] at hv
  split at hv
  · have := entL_args av 0 i v hv
    rw [Nat.zero_add] at this
    exact h0.2.2 (i, v) this
  · rw [List.getElem?_replicate] at hv
    split at hv <;> cases hv
theorem LV.sub {ls : Array Slot} {nL : Nat} {vs vs' : List (Option Value)} (h : LV ls nL vs) (hs : ∀ (i : Nat) (v : Value), vs'[i]? = some (some v) → vs[i]? = some (some v)) : LV ls nL vs' := ⟨h.1, h.2.1, fun i v hv => h.2.2 i v (hs i v hv)⟩

/-! the walk of a method over the world: context, judgement, rows -/
abbrev GT : Type := Program × Launch × Env × Room × State × MethodId × Array Value × List Frame × Method × Code × Nat × Nat × (State → Prop) × va_G × (Nat → Prop) × Heap × Nat
/-- from the place pc, with locals vs, operands st and the world σ, the method comes to its end -/
def AW (ids : List Nat) (ad : Nat → Nat) (ca : Nat → ClassId) (Γ : GT) (pc : Nat) (vs : List (Option Value)) (st : List Value) (σ : HS) : Prop := match Γ with
  | (p, l, e, R, s, m, args, below, meth, c, kc, ks, Q, D, A, H0, nL) => ∀ (H : Heap) (locs : List Loc) (ls : Array Slot), va_P D vwCl (mw ids ad ca σ) H → va_S A H0 H locs → LV ls nL vs → W p l e R s m args below meth c H locs kc ks Q (F0 m pc ls st)
/-- what stays while a method is walked -/
def CT (ids : List Nat) (ad : Nat → Nat) (ca : Nat → ClassId) (Γ : GT) (cc : ByteArray) (own : String) (l0 : Launch) (D0 : va_G) (fr lo nL0 : Nat) : Prop := match Γ with
  | (p, l, e, R, s, m, args, below, meth, c, kc, ks, Q, D, A, H0, nL) => CallFix p m c cc nL s args gw_tbl own ∧ va_K D vwCl (tys ids ca) s ∧ EN s ∧ (∀ σ : HS, va_D A (mw ids ad ca σ)) ∧ (∀ q, H0.size ≤ q → A q) ∧ l = l0 ∧ D = D0 ∧ fr ≤ R.frames ∧ lo ≤ R.locals ∧ kc ≤ R.cells ∧ ks ≤ R.slots ∧ nL = nL0
section AWR
variable {ids : List Nat} {ad : Nat → Nat} {ca : Nat → ClassId} {Γ : GT} {cc : ByteArray} {own : String} {l0 : Launch} {D0 : va_G} {fr lo nL0 : Nat} {pc : Nat} {vs : List (Option Value)} {st : List Value} {σ : HS}
theorem AW.sub {vs' : List (Option Value)} (hs : ∀ (i : Nat) (v : Value), vs'[i]? = some (some v) → vs[i]? = some (some v)) (k : AW ids ad ca Γ pc vs' st σ) : AW ids ad ca Γ pc vs st σ := by
  obtain ⟨p, l, e, R, s, m, args, below, meth, c, kc, ks, Q, D, A, H0, nL⟩ := Γ
  intro H locs ls hP hS hl
  exact k H locs ls hP hS (hl.sub hs)
-- GENERATED by rules.py
theorem a_iconst (C : CT ids ad ca Γ cc own l0 D0 fr lo nL0) {n : Int} {v : Int32} (hd : decode cc pc = .ok (.iconst n, 1)) (hv : Int32.ofInt n = v) (k : AW ids ad ca Γ (pc + 1) vs (.int v :: st) σ) : AW ids ad ca Γ pc vs st σ := by
  obtain ⟨p, l, e, R, s, m, args, below, meth, c, kc, ks, Q, D, A, H0, nL⟩ := Γ
  obtain ⟨⟨hx, hb, hml, hown, hts⟩, hK, hE, hD, hA0, rfl, rfl, hfr, hlo, hkc, hks, rfl⟩ := C
  intro H locs ls hP hS hl
  exact lv_iconst hx hb hd hv (k H locs ls hP hS hl)
theorem a_bipush (C : CT ids ad ca Γ cc own l0 D0 fr lo nL0) {n : Int} {v : Int32} (hd : decode cc pc = .ok (.bipush n, 2)) (hv : (Int8.ofInt n).toInt32 = v) (k : AW ids ad ca Γ (pc + 2) vs (.int v :: st) σ) : AW ids ad ca Γ pc vs st σ := by
  obtain ⟨p, l, e, R, s, m, args, below, meth, c, kc, ks, Q, D, A, H0, nL⟩ := Γ
  obtain ⟨⟨hx, hb, hml, hown, hts⟩, hK, hE, hD, hA0, rfl, rfl, hfr, hlo, hkc, hks, rfl⟩ := C
  intro H locs ls hP hS hl
  exact lv_bipush hx hb hd hv (k H locs ls hP hS hl)
theorem a_sipush (C : CT ids ad ca Γ cc own l0 D0 fr lo nL0) {n : Int} {v : Int32} (hd : decode cc pc = .ok (.sipush n, 3)) (hv : (Int16.ofInt n).toInt32 = v) (k : AW ids ad ca Γ (pc + 3) vs (.int v :: st) σ) : AW ids ad ca Γ pc vs st σ := by
  obtain ⟨p, l, e, R, s, m, args, below, meth, c, kc, ks, Q, D, A, H0, nL⟩ := Γ
  obtain ⟨⟨hx, hb, hml, hown, hts⟩, hK, hE, hD, hA0, rfl, rfl, hfr, hlo, hkc, hks, rfl⟩ := C
  intro H locs ls hP hS hl
  exact lv_sipush hx hb hd hv (k H locs ls hP hS hl)
theorem a_lconst (C : CT ids ad ca Γ cc own l0 D0 fr lo nL0) {n : Fin 2} {v : Int64} (hd : decode cc pc = .ok (.lconst n, 1)) (hv : Int64.ofNat (n : Nat) = v) (k : AW ids ad ca Γ (pc + 1) vs (.long v :: st) σ) : AW ids ad ca Γ pc vs st σ := by
  obtain ⟨p, l, e, R, s, m, args, below, meth, c, kc, ks, Q, D, A, H0, nL⟩ := Γ
  obtain ⟨⟨hx, hb, hml, hown, hts⟩, hK, hE, hD, hA0, rfl, rfl, hfr, hlo, hkc, hks, rfl⟩ := C
  intro H locs ls hP hS hl
  exact lv_lconst hx hb hd hv (k H locs ls hP hS hl)
theorem a_ldc (C : CT ids ad ca Γ cc own l0 D0 fr lo nL0) {ix : Nat} {v : Int32} (hd : decode cc pc = .ok (.ldc ix, 2)) (hw : Cond.constant own ix v ∈ gw_tbl) (k : AW ids ad ca Γ (pc + 2) vs (.int v :: st) σ) : AW ids ad ca Γ pc vs st σ := by
  obtain ⟨p, l, e, R, s, m, args, below, meth, c, kc, ks, Q, D, A, H0, nL⟩ := Γ
  obtain ⟨⟨hx, hb, hml, hown, hts⟩, hK, hE, hD, hA0, rfl, rfl, hfr, hlo, hkc, hks, rfl⟩ := C
  intro H locs ls hP hS hl
  exact lv_ldc hx hb hown (hts _ hw) hd (k H locs ls hP hS hl)
theorem a_ldcw (C : CT ids ad ca Γ cc own l0 D0 fr lo nL0) {ix : Nat} {v : Int32} (hd : decode cc pc = .ok (.ldc_w ix, 3)) (hw : Cond.constant own ix v ∈ gw_tbl) (k : AW ids ad ca Γ (pc + 3) vs (.int v :: st) σ) : AW ids ad ca Γ pc vs st σ := by
  obtain ⟨p, l, e, R, s, m, args, below, meth, c, kc, ks, Q, D, A, H0, nL⟩ := Γ
  obtain ⟨⟨hx, hb, hml, hown, hts⟩, hK, hE, hD, hA0, rfl, rfl, hfr, hlo, hkc, hks, rfl⟩ := C
  intro H locs ls hP hS hl
  exact lv_ldcw hx hb hown (hts _ hw) hd (k H locs ls hP hS hl)
theorem a_ldc2 (C : CT ids ad ca Γ cc own l0 D0 fr lo nL0) {ix : Nat} {v : Int64} (hd : decode cc pc = .ok (.ldc2_w ix, 3)) (hw : Cond.constantLong own ix v ∈ gw_tbl) (k : AW ids ad ca Γ (pc + 3) vs (.long v :: st) σ) : AW ids ad ca Γ pc vs st σ := by
  obtain ⟨p, l, e, R, s, m, args, below, meth, c, kc, ks, Q, D, A, H0, nL⟩ := Γ
  obtain ⟨⟨hx, hb, hml, hown, hts⟩, hK, hE, hD, hA0, rfl, rfl, hfr, hlo, hkc, hks, rfl⟩ := C
  intro H locs ls hP hS hl
  exact lv_ldc2 hx hb hown (hts _ hw) hd (k H locs ls hP hS hl)
theorem a_iload_n (C : CT ids ad ca Γ cc own l0 D0 fr lo nL0) {q : Fin 4} {i : Nat} {x : Int32} (hd : decode cc pc = .ok (.iload_n q, 1)) (hi : (q : Nat) = i) (hv : vs[i]? = some (some (.int x))) (k : AW ids ad ca Γ (pc + 1) vs (.int x :: st) σ) : AW ids ad ca Γ pc vs st σ := by
  obtain ⟨p, l, e, R, s, m, args, below, meth, c, kc, ks, Q, D, A, H0, nL⟩ := Γ
  obtain ⟨⟨hx, hb, hml, hown, hts⟩, hK, hE, hD, hA0, rfl, rfl, hfr, hlo, hkc, hks, rfl⟩ := C
  intro H locs ls hP hS hl
  exact lv_iload_n hx hb hd hi (hl.2.2 _ _ hv) (k H locs ls hP hS hl)
theorem a_iload (C : CT ids ad ca Γ cc own l0 D0 fr lo nL0) {i : Nat} {x : Int32} (hd : decode cc pc = .ok (.iload i, 2)) (hv : vs[i]? = some (some (.int x))) (k : AW ids ad ca Γ (pc + 2) vs (.int x :: st) σ) : AW ids ad ca Γ pc vs st σ := by
  obtain ⟨p, l, e, R, s, m, args, below, meth, c, kc, ks, Q, D, A, H0, nL⟩ := Γ
  obtain ⟨⟨hx, hb, hml, hown, hts⟩, hK, hE, hD, hA0, rfl, rfl, hfr, hlo, hkc, hks, rfl⟩ := C
  intro H locs ls hP hS hl
  exact lv_iload hx hb hd (hl.2.2 _ _ hv) (k H locs ls hP hS hl)
theorem a_lload_n (C : CT ids ad ca Γ cc own l0 D0 fr lo nL0) {q : Fin 4} {i : Nat} {x : Int64} (hd : decode cc pc = .ok (.lload_n q, 1)) (hi : (q : Nat) = i) (hv : vs[i]? = some (some (.long x))) (k : AW ids ad ca Γ (pc + 1) vs (.long x :: st) σ) : AW ids ad ca Γ pc vs st σ := by
  obtain ⟨p, l, e, R, s, m, args, below, meth, c, kc, ks, Q, D, A, H0, nL⟩ := Γ
  obtain ⟨⟨hx, hb, hml, hown, hts⟩, hK, hE, hD, hA0, rfl, rfl, hfr, hlo, hkc, hks, rfl⟩ := C
  intro H locs ls hP hS hl
  exact lv_lload_n hx hb hd hi (hl.2.2 _ _ hv) (k H locs ls hP hS hl)
theorem a_lload (C : CT ids ad ca Γ cc own l0 D0 fr lo nL0) {i : Nat} {x : Int64} (hd : decode cc pc = .ok (.lload i, 2)) (hv : vs[i]? = some (some (.long x))) (k : AW ids ad ca Γ (pc + 2) vs (.long x :: st) σ) : AW ids ad ca Γ pc vs st σ := by
  obtain ⟨p, l, e, R, s, m, args, below, meth, c, kc, ks, Q, D, A, H0, nL⟩ := Γ
  obtain ⟨⟨hx, hb, hml, hown, hts⟩, hK, hE, hD, hA0, rfl, rfl, hfr, hlo, hkc, hks, rfl⟩ := C
  intro H locs ls hP hS hl
  exact lv_lload hx hb hd (hl.2.2 _ _ hv) (k H locs ls hP hS hl)
theorem a_aload_n (C : CT ids ad ca Γ cc own l0 D0 fr lo nL0) {q : Fin 4} {i : Nat} {x : Nat} (hd : decode cc pc = .ok (.aload_n q, 1)) (hi : (q : Nat) = i) (hv : vs[i]? = some (some (.ref x))) (k : AW ids ad ca Γ (pc + 1) vs (.ref x :: st) σ) : AW ids ad ca Γ pc vs st σ := by
  obtain ⟨p, l, e, R, s, m, args, below, meth, c, kc, ks, Q, D, A, H0, nL⟩ := Γ
  obtain ⟨⟨hx, hb, hml, hown, hts⟩, hK, hE, hD, hA0, rfl, rfl, hfr, hlo, hkc, hks, rfl⟩ := C
  intro H locs ls hP hS hl
  exact lv_aload_n hx hb hd hi (hl.2.2 _ _ hv) (k H locs ls hP hS hl)
theorem a_istore_n (C : CT ids ad ca Γ cc own l0 D0 fr lo nL0) {q : Fin 4} {i : Nat} {x : Int32} (hd : decode cc pc = .ok (.istore_n q, 1)) (hi : (q : Nat) = i) (hn : i < nL0) (hc : catOk vs i = true) {vs1 : List (Option Value)} (hvs : vs.set i (some (.int x)) = vs1) (k : AW ids ad ca Γ (pc + 1) vs1 st σ) : AW ids ad ca Γ pc vs (.int x :: st) σ := by
  obtain ⟨p, l, e, R, s, m, args, below, meth, c, kc, ks, Q, D, A, H0, nL⟩ := Γ
  obtain ⟨⟨hx, hb, hml, hown, hts⟩, hK, hE, hD, hA0, rfl, rfl, hfr, hlo, hkc, hks, rfl⟩ := C
  intro H locs ls hP hS hl
  subst hvs
  exact lv_istore_n hx hb hd hi hl.has hn rfl (fun ls1 h1 => k H locs ls1 hP hS (LV.store1 hc h1))
theorem a_istore (C : CT ids ad ca Γ cc own l0 D0 fr lo nL0) {i : Nat} {x : Int32} (hd : decode cc pc = .ok (.istore i, 2)) (hn : i < nL0) (hc : catOk vs i = true) {vs1 : List (Option Value)} (hvs : vs.set i (some (.int x)) = vs1) (k : AW ids ad ca Γ (pc + 2) vs1 st σ) : AW ids ad ca Γ pc vs (.int x :: st) σ := by
  obtain ⟨p, l, e, R, s, m, args, below, meth, c, kc, ks, Q, D, A, H0, nL⟩ := Γ
  obtain ⟨⟨hx, hb, hml, hown, hts⟩, hK, hE, hD, hA0, rfl, rfl, hfr, hlo, hkc, hks, rfl⟩ := C
  intro H locs ls hP hS hl
  subst hvs
  exact lv_istore hx hb hd hl.has hn rfl (fun ls1 h1 => k H locs ls1 hP hS (LV.store1 hc h1))
theorem a_astore_n (C : CT ids ad ca Γ cc own l0 D0 fr lo nL0) {q : Fin 4} {i : Nat} {x : Nat} (hd : decode cc pc = .ok (.astore_n q, 1)) (hi : (q : Nat) = i) (hn : i < nL0) (hc : catOk vs i = true) {vs1 : List (Option Value)} (hvs : vs.set i (some (.ref x)) = vs1) (k : AW ids ad ca Γ (pc + 1) vs1 st σ) : AW ids ad ca Γ pc vs (.ref x :: st) σ := by
  obtain ⟨p, l, e, R, s, m, args, below, meth, c, kc, ks, Q, D, A, H0, nL⟩ := Γ
  obtain ⟨⟨hx, hb, hml, hown, hts⟩, hK, hE, hD, hA0, rfl, rfl, hfr, hlo, hkc, hks, rfl⟩ := C
  intro H locs ls hP hS hl
  subst hvs
  exact lv_astore_n hx hb hd hi hl.has hn rfl (fun ls1 h1 => k H locs ls1 hP hS (LV.store1 hc h1))
theorem a_lstore_n (C : CT ids ad ca Γ cc own l0 D0 fr lo nL0) {q : Fin 4} {i : Nat} {x : Int64} (hd : decode cc pc = .ok (.lstore_n q, 1)) (hi : (q : Nat) = i) (hn : i + 1 < nL0) (hc : catOk vs i = true) {vs1 : List (Option Value)} (hvs : (vs.set (i + 1) none).set i (some (.long x)) = vs1) (k : AW ids ad ca Γ (pc + 1) vs1 st σ) : AW ids ad ca Γ pc vs (.long x :: st) σ := by
  obtain ⟨p, l, e, R, s, m, args, below, meth, c, kc, ks, Q, D, A, H0, nL⟩ := Γ
  obtain ⟨⟨hx, hb, hml, hown, hts⟩, hK, hE, hD, hA0, rfl, rfl, hfr, hlo, hkc, hks, rfl⟩ := C
  intro H locs ls hP hS hl
  subst hvs
  exact lv_lstore_n hx hb hd hi hl.has hn rfl (fun ls1 h1 => k H locs ls1 hP hS (LV.store2 hc h1))
theorem a_lstore (C : CT ids ad ca Γ cc own l0 D0 fr lo nL0) {i : Nat} {x : Int64} (hd : decode cc pc = .ok (.lstore i, 2)) (hn : i + 1 < nL0) (hc : catOk vs i = true) {vs1 : List (Option Value)} (hvs : (vs.set (i + 1) none).set i (some (.long x)) = vs1) (k : AW ids ad ca Γ (pc + 2) vs1 st σ) : AW ids ad ca Γ pc vs (.long x :: st) σ := by
  obtain ⟨p, l, e, R, s, m, args, below, meth, c, kc, ks, Q, D, A, H0, nL⟩ := Γ
  obtain ⟨⟨hx, hb, hml, hown, hts⟩, hK, hE, hD, hA0, rfl, rfl, hfr, hlo, hkc, hks, rfl⟩ := C
  intro H locs ls hP hS hl
  subst hvs
  exact lv_lstore hx hb hd hl.has hn rfl (fun ls1 h1 => k H locs ls1 hP hS (LV.store2 hc h1))
theorem a_iinc (C : CT ids ad ca Γ cc own l0 D0 fr lo nL0) {i : Nat} {n : Int} {x v : Int32} (hd : decode cc pc = .ok (.iinc i n, 3)) (hv : vs[i]? = some (some (.int x))) (he : x + Int32.ofInt n = v) (hn : i < nL0) (hc : catOk vs i = true) {vs1 : List (Option Value)} (hvs : vs.set i (some (.int v)) = vs1) (k : AW ids ad ca Γ (pc + 3) vs1 st σ) : AW ids ad ca Γ pc vs st σ := by
  obtain ⟨p, l, e, R, s, m, args, below, meth, c, kc, ks, Q, D, A, H0, nL⟩ := Γ
  obtain ⟨⟨hx, hb, hml, hown, hts⟩, hK, hE, hD, hA0, rfl, rfl, hfr, hlo, hkc, hks, rfl⟩ := C
  intro H locs ls hP hS hl
  subst hvs
  have hm : (i, Value.int x) ∈ lvL vs := lvL_mem.mpr hv
  obtain ⟨j, hj⟩ := List.mem_iff_getElem?.mp hm
  exact lv_iinc hx hb hd hl.has hj he hn rfl (fun ls1 h1 => k H locs ls1 hP hS (LV.store1 hc h1))
theorem a_iadd (C : CT ids ad ca Γ cc own l0 D0 fr lo nL0) {x y : Int32} (hd : decode cc pc = .ok (.iadd, 1)) (k : AW ids ad ca Γ (pc + 1) vs (.int (x + y) :: st) σ) : AW ids ad ca Γ pc vs (.int y :: .int x :: st) σ := by
  obtain ⟨p, l, e, R, s, m, args, below, meth, c, kc, ks, Q, D, A, H0, nL⟩ := Γ
  obtain ⟨⟨hx, hb, hml, hown, hts⟩, hK, hE, hD, hA0, rfl, rfl, hfr, hlo, hkc, hks, rfl⟩ := C
  intro H locs ls hP hS hl
  exact lv_iadd hx hb hd (k H locs ls hP hS hl)
theorem a_isub (C : CT ids ad ca Γ cc own l0 D0 fr lo nL0) {x y : Int32} (hd : decode cc pc = .ok (.isub, 1)) (k : AW ids ad ca Γ (pc + 1) vs (.int (x - y) :: st) σ) : AW ids ad ca Γ pc vs (.int y :: .int x :: st) σ := by
  obtain ⟨p, l, e, R, s, m, args, below, meth, c, kc, ks, Q, D, A, H0, nL⟩ := Γ
  obtain ⟨⟨hx, hb, hml, hown, hts⟩, hK, hE, hD, hA0, rfl, rfl, hfr, hlo, hkc, hks, rfl⟩ := C
  intro H locs ls hP hS hl
  exact lv_isub hx hb hd (k H locs ls hP hS hl)
theorem a_imul (C : CT ids ad ca Γ cc own l0 D0 fr lo nL0) {x y : Int32} (hd : decode cc pc = .ok (.imul, 1)) (k : AW ids ad ca Γ (pc + 1) vs (.int (x * y) :: st) σ) : AW ids ad ca Γ pc vs (.int y :: .int x :: st) σ := by
  obtain ⟨p, l, e, R, s, m, args, below, meth, c, kc, ks, Q, D, A, H0, nL⟩ := Γ
  obtain ⟨⟨hx, hb, hml, hown, hts⟩, hK, hE, hD, hA0, rfl, rfl, hfr, hlo, hkc, hks, rfl⟩ := C
  intro H locs ls hP hS hl
  exact lv_imul hx hb hd (k H locs ls hP hS hl)
theorem a_iand (C : CT ids ad ca Γ cc own l0 D0 fr lo nL0) {x y : Int32} (hd : decode cc pc = .ok (.iand, 1)) (k : AW ids ad ca Γ (pc + 1) vs (.int (x &&& y) :: st) σ) : AW ids ad ca Γ pc vs (.int y :: .int x :: st) σ := by
  obtain ⟨p, l, e, R, s, m, args, below, meth, c, kc, ks, Q, D, A, H0, nL⟩ := Γ
  obtain ⟨⟨hx, hb, hml, hown, hts⟩, hK, hE, hD, hA0, rfl, rfl, hfr, hlo, hkc, hks, rfl⟩ := C
  intro H locs ls hP hS hl
  exact lv_iand hx hb hd (k H locs ls hP hS hl)
theorem a_ior (C : CT ids ad ca Γ cc own l0 D0 fr lo nL0) {x y : Int32} (hd : decode cc pc = .ok (.ior, 1)) (k : AW ids ad ca Γ (pc + 1) vs (.int (x ||| y) :: st) σ) : AW ids ad ca Γ pc vs (.int y :: .int x :: st) σ := by
  obtain ⟨p, l, e, R, s, m, args, below, meth, c, kc, ks, Q, D, A, H0, nL⟩ := Γ
  obtain ⟨⟨hx, hb, hml, hown, hts⟩, hK, hE, hD, hA0, rfl, rfl, hfr, hlo, hkc, hks, rfl⟩ := C
  intro H locs ls hP hS hl
  exact lv_ior hx hb hd (k H locs ls hP hS hl)
theorem a_ixor (C : CT ids ad ca Γ cc own l0 D0 fr lo nL0) {x y : Int32} (hd : decode cc pc = .ok (.ixor, 1)) (k : AW ids ad ca Γ (pc + 1) vs (.int (x ^^^ y) :: st) σ) : AW ids ad ca Γ pc vs (.int y :: .int x :: st) σ := by
  obtain ⟨p, l, e, R, s, m, args, below, meth, c, kc, ks, Q, D, A, H0, nL⟩ := Γ
  obtain ⟨⟨hx, hb, hml, hown, hts⟩, hK, hE, hD, hA0, rfl, rfl, hfr, hlo, hkc, hks, rfl⟩ := C
  intro H locs ls hP hS hl
  exact lv_ixor hx hb hd (k H locs ls hP hS hl)
theorem a_ishl (C : CT ids ad ca Γ cc own l0 D0 fr lo nL0) {x y : Int32} (hd : decode cc pc = .ok (.ishl, 1)) (k : AW ids ad ca Γ (pc + 1) vs (.int (x <<< (y &&& 31)) :: st) σ) : AW ids ad ca Γ pc vs (.int y :: .int x :: st) σ := by
  obtain ⟨p, l, e, R, s, m, args, below, meth, c, kc, ks, Q, D, A, H0, nL⟩ := Γ
  obtain ⟨⟨hx, hb, hml, hown, hts⟩, hK, hE, hD, hA0, rfl, rfl, hfr, hlo, hkc, hks, rfl⟩ := C
  intro H locs ls hP hS hl
  exact lv_ishl hx hb hd (k H locs ls hP hS hl)
theorem a_ishr (C : CT ids ad ca Γ cc own l0 D0 fr lo nL0) {x y : Int32} (hd : decode cc pc = .ok (.ishr, 1)) (k : AW ids ad ca Γ (pc + 1) vs (.int (x >>> (y &&& 31)) :: st) σ) : AW ids ad ca Γ pc vs (.int y :: .int x :: st) σ := by
  obtain ⟨p, l, e, R, s, m, args, below, meth, c, kc, ks, Q, D, A, H0, nL⟩ := Γ
  obtain ⟨⟨hx, hb, hml, hown, hts⟩, hK, hE, hD, hA0, rfl, rfl, hfr, hlo, hkc, hks, rfl⟩ := C
  intro H locs ls hP hS hl
  exact lv_ishr hx hb hd (k H locs ls hP hS hl)
theorem a_iushr (C : CT ids ad ca Γ cc own l0 D0 fr lo nL0) {x y : Int32} (hd : decode cc pc = .ok (.iushr, 1)) (k : AW ids ad ca Γ (pc + 1) vs (.int (x.toUInt32 >>> (y.toUInt32 &&& Int32.toUInt32 31)).toInt32 :: st) σ) : AW ids ad ca Γ pc vs (.int y :: .int x :: st) σ := by
  obtain ⟨p, l, e, R, s, m, args, below, meth, c, kc, ks, Q, D, A, H0, nL⟩ := Γ
  obtain ⟨⟨hx, hb, hml, hown, hts⟩, hK, hE, hD, hA0, rfl, rfl, hfr, hlo, hkc, hks, rfl⟩ := C
  intro H locs ls hP hS hl
  exact lv_iushr hx hb hd rfl (k H locs ls hP hS hl)
theorem a_idiv (C : CT ids ad ca Γ cc own l0 D0 fr lo nL0) {x y : Int32} (hd : decode cc pc = .ok (.idiv, 1)) (hne : ¬ y = 0) (k : AW ids ad ca Γ (pc + 1) vs (.int (x / y) :: st) σ) : AW ids ad ca Γ pc vs (.int y :: .int x :: st) σ := by
  obtain ⟨p, l, e, R, s, m, args, below, meth, c, kc, ks, Q, D, A, H0, nL⟩ := Γ
  obtain ⟨⟨hx, hb, hml, hown, hts⟩, hK, hE, hD, hA0, rfl, rfl, hfr, hlo, hkc, hks, rfl⟩ := C
  intro H locs ls hP hS hl
  exact lv_idiv hx hb hd hne (k H locs ls hP hS hl)
theorem a_irem (C : CT ids ad ca Γ cc own l0 D0 fr lo nL0) {x y : Int32} (hd : decode cc pc = .ok (.irem, 1)) (hne : ¬ y = 0) (k : AW ids ad ca Γ (pc + 1) vs (.int (x - x / y * y) :: st) σ) : AW ids ad ca Γ pc vs (.int y :: .int x :: st) σ := by
  obtain ⟨p, l, e, R, s, m, args, below, meth, c, kc, ks, Q, D, A, H0, nL⟩ := Γ
  obtain ⟨⟨hx, hb, hml, hown, hts⟩, hK, hE, hD, hA0, rfl, rfl, hfr, hlo, hkc, hks, rfl⟩ := C
  intro H locs ls hP hS hl
  exact lv_irem hx hb hd hne (k H locs ls hP hS hl)
theorem a_ineg (C : CT ids ad ca Γ cc own l0 D0 fr lo nL0) {x : Int32} (hd : decode cc pc = .ok (.ineg, 1)) (k : AW ids ad ca Γ (pc + 1) vs (.int (-x) :: st) σ) : AW ids ad ca Γ pc vs (.int x :: st) σ := by
  obtain ⟨p, l, e, R, s, m, args, below, meth, c, kc, ks, Q, D, A, H0, nL⟩ := Γ
  obtain ⟨⟨hx, hb, hml, hown, hts⟩, hK, hE, hD, hA0, rfl, rfl, hfr, hlo, hkc, hks, rfl⟩ := C
  intro H locs ls hP hS hl
  exact lv_ineg hx hb hd (k H locs ls hP hS hl)
theorem a_ladd (C : CT ids ad ca Γ cc own l0 D0 fr lo nL0) {x y : Int64} (hd : decode cc pc = .ok (.ladd, 1)) (k : AW ids ad ca Γ (pc + 1) vs (.long (x + y) :: st) σ) : AW ids ad ca Γ pc vs (.long y :: .long x :: st) σ := by
  obtain ⟨p, l, e, R, s, m, args, below, meth, c, kc, ks, Q, D, A, H0, nL⟩ := Γ
  obtain ⟨⟨hx, hb, hml, hown, hts⟩, hK, hE, hD, hA0, rfl, rfl, hfr, hlo, hkc, hks, rfl⟩ := C
  intro H locs ls hP hS hl
  exact lv_ladd hx hb hd (k H locs ls hP hS hl)
theorem a_lmul (C : CT ids ad ca Γ cc own l0 D0 fr lo nL0) {x y : Int64} (hd : decode cc pc = .ok (.lmul, 1)) (k : AW ids ad ca Γ (pc + 1) vs (.long (x * y) :: st) σ) : AW ids ad ca Γ pc vs (.long y :: .long x :: st) σ := by
  obtain ⟨p, l, e, R, s, m, args, below, meth, c, kc, ks, Q, D, A, H0, nL⟩ := Γ
  obtain ⟨⟨hx, hb, hml, hown, hts⟩, hK, hE, hD, hA0, rfl, rfl, hfr, hlo, hkc, hks, rfl⟩ := C
  intro H locs ls hP hS hl
  exact lv_lmul hx hb hd (k H locs ls hP hS hl)
theorem a_lcmp (C : CT ids ad ca Γ cc own l0 D0 fr lo nL0) {x y : Int64} (hd : decode cc pc = .ok (.lcmp, 1)) (k : AW ids ad ca Γ (pc + 1) vs (.int (lg_cmp x y) :: st) σ) : AW ids ad ca Γ pc vs (.long y :: .long x :: st) σ := by
  obtain ⟨p, l, e, R, s, m, args, below, meth, c, kc, ks, Q, D, A, H0, nL⟩ := Γ
  obtain ⟨⟨hx, hb, hml, hown, hts⟩, hK, hE, hD, hA0, rfl, rfl, hfr, hlo, hkc, hks, rfl⟩ := C
  intro H locs ls hP hS hl
  exact W.lcmp hx hb hd (k H locs ls hP hS hl)
theorem a_i2l (C : CT ids ad ca Γ cc own l0 D0 fr lo nL0) {x : Int32} (hd : decode cc pc = .ok (.i2l, 1)) (k : AW ids ad ca Γ (pc + 1) vs (.long (x.toInt64) :: st) σ) : AW ids ad ca Γ pc vs (.int x :: st) σ := by
  obtain ⟨p, l, e, R, s, m, args, below, meth, c, kc, ks, Q, D, A, H0, nL⟩ := Γ
  obtain ⟨⟨hx, hb, hml, hown, hts⟩, hK, hE, hD, hA0, rfl, rfl, hfr, hlo, hkc, hks, rfl⟩ := C
  intro H locs ls hP hS hl
  exact lv_i2l hx hb hd rfl (k H locs ls hP hS hl)
theorem a_l2i (C : CT ids ad ca Γ cc own l0 D0 fr lo nL0) {x : Int64} (hd : decode cc pc = .ok (.l2i, 1)) (k : AW ids ad ca Γ (pc + 1) vs (.int (x.toInt32) :: st) σ) : AW ids ad ca Γ pc vs (.long x :: st) σ := by
  obtain ⟨p, l, e, R, s, m, args, below, meth, c, kc, ks, Q, D, A, H0, nL⟩ := Γ
  obtain ⟨⟨hx, hb, hml, hown, hts⟩, hK, hE, hD, hA0, rfl, rfl, hfr, hlo, hkc, hks, rfl⟩ := C
  intro H locs ls hP hS hl
  exact lv_l2i hx hb hd rfl (k H locs ls hP hS hl)
theorem a_i2b (C : CT ids ad ca Γ cc own l0 D0 fr lo nL0) {x : Int32} (hd : decode cc pc = .ok (.i2b, 1)) (k : AW ids ad ca Γ (pc + 1) vs (.int (x.toInt8.toInt32) :: st) σ) : AW ids ad ca Γ pc vs (.int x :: st) σ := by
  obtain ⟨p, l, e, R, s, m, args, below, meth, c, kc, ks, Q, D, A, H0, nL⟩ := Γ
  obtain ⟨⟨hx, hb, hml, hown, hts⟩, hK, hE, hD, hA0, rfl, rfl, hfr, hlo, hkc, hks, rfl⟩ := C
  intro H locs ls hP hS hl
  exact lv_i2b hx hb hd rfl (k H locs ls hP hS hl)
theorem a_i2c (C : CT ids ad ca Γ cc own l0 D0 fr lo nL0) {x : Int32} (hd : decode cc pc = .ok (.i2c, 1)) (k : AW ids ad ca Γ (pc + 1) vs (.int ((x.toUInt32 % 65536).toInt32) :: st) σ) : AW ids ad ca Γ pc vs (.int x :: st) σ := by
  obtain ⟨p, l, e, R, s, m, args, below, meth, c, kc, ks, Q, D, A, H0, nL⟩ := Γ
  obtain ⟨⟨hx, hb, hml, hown, hts⟩, hK, hE, hD, hA0, rfl, rfl, hfr, hlo, hkc, hks, rfl⟩ := C
  intro H locs ls hP hS hl
  exact lv_i2c hx hb hd rfl (k H locs ls hP hS hl)
theorem a_dup (C : CT ids ad ca Γ cc own l0 D0 fr lo nL0) {v : Value} (hd : decode cc pc = .ok (.dup, 1)) (hv : v.category = 1) (k : AW ids ad ca Γ (pc + 1) vs (v :: v :: st) σ) : AW ids ad ca Γ pc vs (v :: st) σ := by
  obtain ⟨p, l, e, R, s, m, args, below, meth, c, kc, ks, Q, D, A, H0, nL⟩ := Γ
  obtain ⟨⟨hx, hb, hml, hown, hts⟩, hK, hE, hD, hA0, rfl, rfl, hfr, hlo, hkc, hks, rfl⟩ := C
  intro H locs ls hP hS hl
  exact lv_dup hx hb hd hv (k H locs ls hP hS hl)
theorem a_dup2 (C : CT ids ad ca Γ cc own l0 D0 fr lo nL0) {v w : Value} (hd : decode cc pc = .ok (.dup2, 1)) (hv : v.category = 1) (hw : w.category = 1) (k : AW ids ad ca Γ (pc + 1) vs (v :: w :: v :: w :: st) σ) : AW ids ad ca Γ pc vs (v :: w :: st) σ := by
  obtain ⟨p, l, e, R, s, m, args, below, meth, c, kc, ks, Q, D, A, H0, nL⟩ := Γ
  obtain ⟨⟨hx, hb, hml, hown, hts⟩, hK, hE, hD, hA0, rfl, rfl, hfr, hlo, hkc, hks, rfl⟩ := C
  intro H locs ls hP hS hl
  exact lv_dup2_11 hx hb hd hv hw (k H locs ls hP hS hl)
theorem a_pop (C : CT ids ad ca Γ cc own l0 D0 fr lo nL0) {v : Value} (hd : decode cc pc = .ok (.pop, 1)) (hv : v.category = 1) (k : AW ids ad ca Γ (pc + 1) vs st σ) : AW ids ad ca Γ pc vs (v :: st) σ := by
  obtain ⟨p, l, e, R, s, m, args, below, meth, c, kc, ks, Q, D, A, H0, nL⟩ := Γ
  obtain ⟨⟨hx, hb, hml, hown, hts⟩, hK, hE, hD, hA0, rfl, rfl, hfr, hlo, hkc, hks, rfl⟩ := C
  intro H locs ls hP hS hl
  exact lv_pop hx hb hd hv (k H locs ls hP hS hl)
theorem a_goto (C : CT ids ad ca Γ cc own l0 D0 fr lo nL0) {off : Int} {tgt : Nat} (hd : decode cc pc = .ok (.goto off, 3)) (ht : (pc : Int) + off = (tgt : Int)) (k : AW ids ad ca Γ tgt vs st σ) : AW ids ad ca Γ pc vs st σ := by
  obtain ⟨p, l, e, R, s, m, args, below, meth, c, kc, ks, Q, D, A, H0, nL⟩ := Γ
  obtain ⟨⟨hx, hb, hml, hown, hts⟩, hK, hE, hD, hA0, rfl, rfl, hfr, hlo, hkc, hks, rfl⟩ := C
  intro H locs ls hP hS hl
  exact lv_goto hx hb hd ht (k H locs ls hP hS hl)
theorem a_if_eq (C : CT ids ad ca Γ cc own l0 D0 fr lo nL0) {x : Int32} {off : Int} {tgt : Nat} (hd : decode cc pc = .ok (.ifCond .eq off, 3)) (ht : (pc : Int) + off = (tgt : Int)) (kt : x = 0 → AW ids ad ca Γ tgt vs st σ) (kf : ¬ x = 0 → AW ids ad ca Γ (pc + 3) vs st σ) : AW ids ad ca Γ pc vs (.int x :: st) σ := by
  obtain ⟨p, l, e, R, s, m, args, below, meth, c, kc, ks, Q, D, A, H0, nL⟩ := Γ
  obtain ⟨⟨hx, hb, hml, hown, hts⟩, hK, hE, hD, hA0, rfl, rfl, hfr, hlo, hkc, hks, rfl⟩ := C
  intro H locs ls hP hS hl
  exact lv_if_eq hx hb hd ht (fun h => kt h H locs ls hP hS hl) (fun h => kf h H locs ls hP hS hl)
theorem a_if_ne (C : CT ids ad ca Γ cc own l0 D0 fr lo nL0) {x : Int32} {off : Int} {tgt : Nat} (hd : decode cc pc = .ok (.ifCond .ne off, 3)) (ht : (pc : Int) + off = (tgt : Int)) (kt : ¬ x = 0 → AW ids ad ca Γ tgt vs st σ) (kf : x = 0 → AW ids ad ca Γ (pc + 3) vs st σ) : AW ids ad ca Γ pc vs (.int x :: st) σ := by
  obtain ⟨p, l, e, R, s, m, args, below, meth, c, kc, ks, Q, D, A, H0, nL⟩ := Γ
  obtain ⟨⟨hx, hb, hml, hown, hts⟩, hK, hE, hD, hA0, rfl, rfl, hfr, hlo, hkc, hks, rfl⟩ := C
  intro H locs ls hP hS hl
  exact lv_if_ne hx hb hd ht (fun h => kt h H locs ls hP hS hl) (fun h => kf h H locs ls hP hS hl)
theorem a_if_lt (C : CT ids ad ca Γ cc own l0 D0 fr lo nL0) {x : Int32} {off : Int} {tgt : Nat} (hd : decode cc pc = .ok (.ifCond .lt off, 3)) (ht : (pc : Int) + off = (tgt : Int)) (kt : x < 0 → AW ids ad ca Γ tgt vs st σ) (kf : ¬ x < 0 → AW ids ad ca Γ (pc + 3) vs st σ) : AW ids ad ca Γ pc vs (.int x :: st) σ := by
  obtain ⟨p, l, e, R, s, m, args, below, meth, c, kc, ks, Q, D, A, H0, nL⟩ := Γ
  obtain ⟨⟨hx, hb, hml, hown, hts⟩, hK, hE, hD, hA0, rfl, rfl, hfr, hlo, hkc, hks, rfl⟩ := C
  intro H locs ls hP hS hl
  exact lv_if_lt hx hb hd ht (fun h => kt h H locs ls hP hS hl) (fun h => kf h H locs ls hP hS hl)
theorem a_if_ge (C : CT ids ad ca Γ cc own l0 D0 fr lo nL0) {x : Int32} {off : Int} {tgt : Nat} (hd : decode cc pc = .ok (.ifCond .ge off, 3)) (ht : (pc : Int) + off = (tgt : Int)) (kt : 0 ≤ x → AW ids ad ca Γ tgt vs st σ) (kf : ¬ 0 ≤ x → AW ids ad ca Γ (pc + 3) vs st σ) : AW ids ad ca Γ pc vs (.int x :: st) σ := by
  obtain ⟨p, l, e, R, s, m, args, below, meth, c, kc, ks, Q, D, A, H0, nL⟩ := Γ
  obtain ⟨⟨hx, hb, hml, hown, hts⟩, hK, hE, hD, hA0, rfl, rfl, hfr, hlo, hkc, hks, rfl⟩ := C
  intro H locs ls hP hS hl
  exact lv_if_ge hx hb hd ht (fun h => kt h H locs ls hP hS hl) (fun h => kf h H locs ls hP hS hl)
theorem a_if_gt (C : CT ids ad ca Γ cc own l0 D0 fr lo nL0) {x : Int32} {off : Int} {tgt : Nat} (hd : decode cc pc = .ok (.ifCond .gt off, 3)) (ht : (pc : Int) + off = (tgt : Int)) (kt : 0 < x → AW ids ad ca Γ tgt vs st σ) (kf : ¬ 0 < x → AW ids ad ca Γ (pc + 3) vs st σ) : AW ids ad ca Γ pc vs (.int x :: st) σ := by
  obtain ⟨p, l, e, R, s, m, args, below, meth, c, kc, ks, Q, D, A, H0, nL⟩ := Γ
  obtain ⟨⟨hx, hb, hml, hown, hts⟩, hK, hE, hD, hA0, rfl, rfl, hfr, hlo, hkc, hks, rfl⟩ := C
  intro H locs ls hP hS hl
  exact lv_if_gt hx hb hd ht (fun h => kt h H locs ls hP hS hl) (fun h => kf h H locs ls hP hS hl)
theorem a_if_le (C : CT ids ad ca Γ cc own l0 D0 fr lo nL0) {x : Int32} {off : Int} {tgt : Nat} (hd : decode cc pc = .ok (.ifCond .le off, 3)) (ht : (pc : Int) + off = (tgt : Int)) (kt : x ≤ 0 → AW ids ad ca Γ tgt vs st σ) (kf : ¬ x ≤ 0 → AW ids ad ca Γ (pc + 3) vs st σ) : AW ids ad ca Γ pc vs (.int x :: st) σ := by
  obtain ⟨p, l, e, R, s, m, args, below, meth, c, kc, ks, Q, D, A, H0, nL⟩ := Γ
  obtain ⟨⟨hx, hb, hml, hown, hts⟩, hK, hE, hD, hA0, rfl, rfl, hfr, hlo, hkc, hks, rfl⟩ := C
  intro H locs ls hP hS hl
  exact lv_if_le hx hb hd ht (fun h => kt h H locs ls hP hS hl) (fun h => kf h H locs ls hP hS hl)
theorem a_ic_eq (C : CT ids ad ca Γ cc own l0 D0 fr lo nL0) {x y : Int32} {off : Int} {tgt : Nat} (hd : decode cc pc = .ok (.if_icmp .eq off, 3)) (ht : (pc : Int) + off = (tgt : Int)) (kt : x = y → AW ids ad ca Γ tgt vs st σ) (kf : ¬ x = y → AW ids ad ca Γ (pc + 3) vs st σ) : AW ids ad ca Γ pc vs (.int y :: .int x :: st) σ := by
  obtain ⟨p, l, e, R, s, m, args, below, meth, c, kc, ks, Q, D, A, H0, nL⟩ := Γ
  obtain ⟨⟨hx, hb, hml, hown, hts⟩, hK, hE, hD, hA0, rfl, rfl, hfr, hlo, hkc, hks, rfl⟩ := C
  intro H locs ls hP hS hl
  exact lv_icmp_eq hx hb hd ht (fun h => kt h H locs ls hP hS hl) (fun h => kf h H locs ls hP hS hl)
theorem a_ic_ne (C : CT ids ad ca Γ cc own l0 D0 fr lo nL0) {x y : Int32} {off : Int} {tgt : Nat} (hd : decode cc pc = .ok (.if_icmp .ne off, 3)) (ht : (pc : Int) + off = (tgt : Int)) (kt : ¬ x = y → AW ids ad ca Γ tgt vs st σ) (kf : x = y → AW ids ad ca Γ (pc + 3) vs st σ) : AW ids ad ca Γ pc vs (.int y :: .int x :: st) σ := by
  obtain ⟨p, l, e, R, s, m, args, below, meth, c, kc, ks, Q, D, A, H0, nL⟩ := Γ
  obtain ⟨⟨hx, hb, hml, hown, hts⟩, hK, hE, hD, hA0, rfl, rfl, hfr, hlo, hkc, hks, rfl⟩ := C
  intro H locs ls hP hS hl
  exact lv_icmp_ne hx hb hd ht (fun h => kt h H locs ls hP hS hl) (fun h => kf h H locs ls hP hS hl)
theorem a_ic_lt (C : CT ids ad ca Γ cc own l0 D0 fr lo nL0) {x y : Int32} {off : Int} {tgt : Nat} (hd : decode cc pc = .ok (.if_icmp .lt off, 3)) (ht : (pc : Int) + off = (tgt : Int)) (kt : x < y → AW ids ad ca Γ tgt vs st σ) (kf : ¬ x < y → AW ids ad ca Γ (pc + 3) vs st σ) : AW ids ad ca Γ pc vs (.int y :: .int x :: st) σ := by
  obtain ⟨p, l, e, R, s, m, args, below, meth, c, kc, ks, Q, D, A, H0, nL⟩ := Γ
  obtain ⟨⟨hx, hb, hml, hown, hts⟩, hK, hE, hD, hA0, rfl, rfl, hfr, hlo, hkc, hks, rfl⟩ := C
  intro H locs ls hP hS hl
  exact lv_icmp_lt hx hb hd ht (fun h => kt h H locs ls hP hS hl) (fun h => kf h H locs ls hP hS hl)
theorem a_ic_ge (C : CT ids ad ca Γ cc own l0 D0 fr lo nL0) {x y : Int32} {off : Int} {tgt : Nat} (hd : decode cc pc = .ok (.if_icmp .ge off, 3)) (ht : (pc : Int) + off = (tgt : Int)) (kt : y ≤ x → AW ids ad ca Γ tgt vs st σ) (kf : ¬ y ≤ x → AW ids ad ca Γ (pc + 3) vs st σ) : AW ids ad ca Γ pc vs (.int y :: .int x :: st) σ := by
  obtain ⟨p, l, e, R, s, m, args, below, meth, c, kc, ks, Q, D, A, H0, nL⟩ := Γ
  obtain ⟨⟨hx, hb, hml, hown, hts⟩, hK, hE, hD, hA0, rfl, rfl, hfr, hlo, hkc, hks, rfl⟩ := C
  intro H locs ls hP hS hl
  exact lv_icmp_ge hx hb hd ht (fun h => kt h H locs ls hP hS hl) (fun h => kf h H locs ls hP hS hl)
theorem a_ic_gt (C : CT ids ad ca Γ cc own l0 D0 fr lo nL0) {x y : Int32} {off : Int} {tgt : Nat} (hd : decode cc pc = .ok (.if_icmp .gt off, 3)) (ht : (pc : Int) + off = (tgt : Int)) (kt : y < x → AW ids ad ca Γ tgt vs st σ) (kf : ¬ y < x → AW ids ad ca Γ (pc + 3) vs st σ) : AW ids ad ca Γ pc vs (.int y :: .int x :: st) σ := by
  obtain ⟨p, l, e, R, s, m, args, below, meth, c, kc, ks, Q, D, A, H0, nL⟩ := Γ
  obtain ⟨⟨hx, hb, hml, hown, hts⟩, hK, hE, hD, hA0, rfl, rfl, hfr, hlo, hkc, hks, rfl⟩ := C
  intro H locs ls hP hS hl
  exact lv_icmp_gt hx hb hd ht (fun h => kt h H locs ls hP hS hl) (fun h => kf h H locs ls hP hS hl)
theorem a_ic_le (C : CT ids ad ca Γ cc own l0 D0 fr lo nL0) {x y : Int32} {off : Int} {tgt : Nat} (hd : decode cc pc = .ok (.if_icmp .le off, 3)) (ht : (pc : Int) + off = (tgt : Int)) (kt : x ≤ y → AW ids ad ca Γ tgt vs st σ) (kf : ¬ x ≤ y → AW ids ad ca Γ (pc + 3) vs st σ) : AW ids ad ca Γ pc vs (.int y :: .int x :: st) σ := by
  obtain ⟨p, l, e, R, s, m, args, below, meth, c, kc, ks, Q, D, A, H0, nL⟩ := Γ
  obtain ⟨⟨hx, hb, hml, hown, hts⟩, hK, hE, hD, hA0, rfl, rfl, hfr, hlo, hkc, hks, rfl⟩ := C
  intro H locs ls hP hS hl
  exact lv_icmp_le hx hb hd ht (fun h => kt h H locs ls hP hS hl) (fun h => kf h H locs ls hP hS hl)
theorem a_tableIn (C : CT ids ad ca Γ cc own l0 D0 fr lo nL0) {dflt lo9 hi9 : Int} {offs : Array Int} {len : Nat} {x : Int32} {off : Int} {tgt : Nat} (hd : decode cc pc = .ok (.tableswitch dflt lo9 hi9 offs, len)) (h1 : ¬ x.toInt < lo9) (h2 : ¬ hi9 < x.toInt) (ho : offs[(x.toInt - lo9).toNat]? = some off) (ht : (pc : Int) + off = (tgt : Int)) (k : AW ids ad ca Γ tgt vs st σ) : AW ids ad ca Γ pc vs (.int x :: st) σ := by
  obtain ⟨p, l, e, R, s, m, args, below, meth, c, kc, ks, Q, D, A, H0, nL⟩ := Γ
  obtain ⟨⟨hx, hb, hml, hown, hts⟩, hK, hE, hD, hA0, rfl, rfl, hfr, hlo, hkc, hks, rfl⟩ := C
  intro H locs ls hP hS hl
  exact lv_tableIn hx hb hd h1 h2 ho ht (k H locs ls hP hS hl)
theorem a_tableOut (C : CT ids ad ca Γ cc own l0 D0 fr lo nL0) {dflt lo9 hi9 : Int} {offs : Array Int} {len : Nat} {x : Int32} {tgt : Nat} (hd : decode cc pc = .ok (.tableswitch dflt lo9 hi9 offs, len)) (h : x.toInt < lo9 ∨ hi9 < x.toInt) (ht : (pc : Int) + dflt = (tgt : Int)) (k : AW ids ad ca Γ tgt vs st σ) : AW ids ad ca Γ pc vs (.int x :: st) σ := by
  obtain ⟨p, l, e, R, s, m, args, below, meth, c, kc, ks, Q, D, A, H0, nL⟩ := Γ
  obtain ⟨⟨hx, hb, hml, hown, hts⟩, hK, hE, hD, hA0, rfl, rfl, hfr, hlo, hkc, hks, rfl⟩ := C
  intro H locs ls hP hS hl
  exact lv_tableOut hx hb hd h ht (k H locs ls hP hS hl)
theorem a_lookup (C : CT ids ad ca Γ cc own l0 D0 fr lo nL0) {dflt : Int} {ps : Array (Int × Int)} {len : Nat} {x : Int32} {off : Int} {tgt : Nat} (hd : decode cc pc = .ok (.lookupswitch dflt ps, len)) (hp : (ps.toList.zip (ps.toList.drop 1)).all (fun (a, next) => a.1 < next.1) = true) (ho : Op.lookupswitch.offset ps.toList dflt x.toInt = off) (ht : (pc : Int) + off = (tgt : Int)) (k : AW ids ad ca Γ tgt vs st σ) : AW ids ad ca Γ pc vs (.int x :: st) σ := by
  obtain ⟨p, l, e, R, s, m, args, below, meth, c, kc, ks, Q, D, A, H0, nL⟩ := Γ
  obtain ⟨⟨hx, hb, hml, hown, hts⟩, hK, hE, hD, hA0, rfl, rfl, hfr, hlo, hkc, hks, rfl⟩ := C
  intro H locs ls hP hS hl
  exact lv_lookup hx hb hd hp ho ht (k H locs ls hP hS hl)
theorem a_mmax (C : CT ids ad ca Γ cc own l0 D0 fr lo nL0) {ix : Nat} {x y : Int32} (hd : decode cc pc = .ok (.invokestatic ix, 3)) (h1 : Cond.methodLink own ix Lib.Math.max.name ∈ gw_tbl) (h2 : Cond.static Lib.Math.max.name ∈ gw_tbl) (h3 : Cond.initialized "java/lang/Math" ∈ gw_tbl) (h4 : Cond.code Lib.Math.max.name Lib.Math.max.code 2 (some .int) ∈ gw_tbl) (h5 : 1 ≤ fr) (h6 : (st.map fun v => v.category).sum + 13 ≤ lo) (k : AW ids ad ca Γ (pc + 3) vs (.int (if x < y then y else x) :: st) σ) : AW ids ad ca Γ pc vs (.int y :: .int x :: st) σ := by
  obtain ⟨p, l, e, R, s, m, args, below, meth, c, kc, ks, Q, D, A, H0, nL⟩ := Γ
  obtain ⟨⟨hx, hb, hml, hown, hts⟩, hK, hE, hD, hA0, rfl, rfl, hfr, hlo, hkc, hks, rfl⟩ := C
  intro H locs ls hP hS hl
  exact va_mmax hx hb (hml.trans hl.1.symm) hown (hts _ h1) (hts _ h2) (hts _ h3) (hts _ h4) (Nat.le_trans h5 hfr) (Nat.le_trans h6 hlo) hkc hks hd (k H locs ls hP hS hl)
theorem a_mmin (C : CT ids ad ca Γ cc own l0 D0 fr lo nL0) {ix : Nat} {x y : Int32} (hd : decode cc pc = .ok (.invokestatic ix, 3)) (h1 : Cond.methodLink own ix Lib.Math.min.name ∈ gw_tbl) (h2 : Cond.static Lib.Math.min.name ∈ gw_tbl) (h3 : Cond.initialized "java/lang/Math" ∈ gw_tbl) (h4 : Cond.code Lib.Math.min.name Lib.Math.min.code 2 (some .int) ∈ gw_tbl) (h5 : 1 ≤ fr) (h6 : (st.map fun v => v.category).sum + 13 ≤ lo) (k : AW ids ad ca Γ (pc + 3) vs (.int (if y < x then y else x) :: st) σ) : AW ids ad ca Γ pc vs (.int y :: .int x :: st) σ := by
  obtain ⟨p, l, e, R, s, m, args, below, meth, c, kc, ks, Q, D, A, H0, nL⟩ := Γ
  obtain ⟨⟨hx, hb, hml, hown, hts⟩, hK, hE, hD, hA0, rfl, rfl, hfr, hlo, hkc, hks, rfl⟩ := C
  intro H locs ls hP hS hl
  exact va_mmin hx hb (hml.trans hl.1.symm) hown (hts _ h1) (hts _ h2) (hts _ h3) (hts _ h4) (Nat.le_trans h5 hfr) (Nat.le_trans h6 hlo) hkc hks hd (k H locs ls hP hS hl)
theorem a_iald (C : CT ids ad ca Γ cc own l0 D0 fr lo nL0) {i : Nat} {j : Int32} (jn : Nat) (hk : kd i = 20) (hi : i ∈ ids) (h0 : ¬ j < 0) (hj : j.toNatClampNeg = jn) (hn : jn < al i) (hd : decode cc pc = .ok (.iaload, 1)) {v : Int32} (hv : (σ.1 i jn) = v) (k : AW ids ad ca Γ (pc + 1) vs (.int v :: st) σ) : AW ids ad ca Γ pc vs (.int j :: .ref (ad i) :: st) σ := by
  obtain ⟨p, l, e, R, s, m, args, below, meth, c, kc, ks, Q, D, A, H0, nL⟩ := Γ
  obtain ⟨⟨hx, hb, hml, hown, hts⟩, hK, hE, hD, hA0, rfl, rfl, hfr, hlo, hkc, hks, rfl⟩ := C
  intro H locs ls hP hS hl
  obtain ⟨t, ht⟩ := tys_get (ca := ca) hi (by omega)
  obtain ⟨ip, hip, hg⟩ := mw_get (ad := ad) (ca := ca) hi
  have hg := hg σ
  rw [hk] at ht hg
  subst hj
  subst hv
  exact va_iald hx hb hK hP ip t hg ht (fun h => h.elim h0 (fun h => absurd h (by omega))) hd (k H locs ls hP hS hl)
theorem a_zald (C : CT ids ad ca Γ cc own l0 D0 fr lo nL0) {i : Nat} {j : Int32} (jn : Nat) (hk : kd i = 21) (hi : i ∈ ids) (h0 : ¬ j < 0) (hj : j.toNatClampNeg = jn) (hn : jn < al i) (hd : decode cc pc = .ok (.baload, 1)) {v : Int32} (hv : (σ.1 i jn) = v) (k : AW ids ad ca Γ (pc + 1) vs (.int v :: st) σ) : AW ids ad ca Γ pc vs (.int j :: .ref (ad i) :: st) σ := by
  obtain ⟨p, l, e, R, s, m, args, below, meth, c, kc, ks, Q, D, A, H0, nL⟩ := Γ
  obtain ⟨⟨hx, hb, hml, hown, hts⟩, hK, hE, hD, hA0, rfl, rfl, hfr, hlo, hkc, hks, rfl⟩ := C
  intro H locs ls hP hS hl
  obtain ⟨t, ht⟩ := tys_get (ca := ca) hi (by omega)
  obtain ⟨ip, hip, hg⟩ := mw_get (ad := ad) (ca := ca) hi
  have hg := hg σ
  rw [hk] at ht hg
  subst hj
  subst hv
  exact va_zald hx hb hK hP ip t hg ht (fun h => h.elim h0 (fun h => absurd h (by omega))) hd (k H locs ls hP hS hl)
theorem a_bald (C : CT ids ad ca Γ cc own l0 D0 fr lo nL0) {i : Nat} {j : Int32} (jn : Nat) (hk : kd i = 22) (hi : i ∈ ids) (h0 : ¬ j < 0) (hj : j.toNatClampNeg = jn) (hn : jn < al i) (hd : decode cc pc = .ok (.baload, 1)) {v : Int32} (hv : (σ.1 i jn) = v) (k : AW ids ad ca Γ (pc + 1) vs (.int v :: st) σ) : AW ids ad ca Γ pc vs (.int j :: .ref (ad i) :: st) σ := by
  obtain ⟨p, l, e, R, s, m, args, below, meth, c, kc, ks, Q, D, A, H0, nL⟩ := Γ
  obtain ⟨⟨hx, hb, hml, hown, hts⟩, hK, hE, hD, hA0, rfl, rfl, hfr, hlo, hkc, hks, rfl⟩ := C
  intro H locs ls hP hS hl
  obtain ⟨t, ht⟩ := tys_get (ca := ca) hi (by omega)
  obtain ⟨ip, hip, hg⟩ := mw_get (ad := ad) (ca := ca) hi
  have hg := hg σ
  rw [hk] at ht hg
  subst hj
  subst hv
  exact va_bald hx hb hK hP ip t hg ht (fun h => h.elim h0 (fun h => absurd h (by omega))) hd (k H locs ls hP hS hl)
theorem a_lald (C : CT ids ad ca Γ cc own l0 D0 fr lo nL0) {i : Nat} {j : Int32} (jn : Nat) (hk : kd i = 23) (hi : i ∈ ids) (h0 : ¬ j < 0) (hj : j.toNatClampNeg = jn) (hn : jn < al i) (hd : decode cc pc = .ok (.laload, 1)) {v : Int64} (hv : (σ.2.1 i jn) = v) (k : AW ids ad ca Γ (pc + 1) vs (.long v :: st) σ) : AW ids ad ca Γ pc vs (.int j :: .ref (ad i) :: st) σ := by
  obtain ⟨p, l, e, R, s, m, args, below, meth, c, kc, ks, Q, D, A, H0, nL⟩ := Γ
  obtain ⟨⟨hx, hb, hml, hown, hts⟩, hK, hE, hD, hA0, rfl, rfl, hfr, hlo, hkc, hks, rfl⟩ := C
  intro H locs ls hP hS hl
  obtain ⟨t, ht⟩ := tys_get (ca := ca) hi (by omega)
  obtain ⟨ip, hip, hg⟩ := mw_get (ad := ad) (ca := ca) hi
  have hg := hg σ
  rw [hk] at ht hg
  subst hj
  subst hv
  exact va_lald hx hb hK hP ip t hg ht (fun h => h.elim h0 (fun h => absurd h (by omega))) hd (k H locs ls hP hS hl)
theorem a_iast (C : CT ids ad ca Γ cc own l0 D0 fr lo nL0) {i : Nat} {j : Int32} {x : Int32} (jn : Nat) (hk : kd i = 20) (hi : i ∈ ids) (h0 : ¬ j < 0) (hj : j.toNatClampNeg = jn) (hn : jn < al i) (hd : decode cc pc = .ok (.iastore, 1)) (k : AW ids ad ca Γ (pc + 1) vs st (hI σ i jn x)) : AW ids ad ca Γ pc vs (.int x :: .int j :: .ref (ad i) :: st) σ := by
  obtain ⟨p, l, e, R, s, m, args, below, meth, c, kc, ks, Q, D, A, H0, nL⟩ := Γ
  obtain ⟨⟨hx, hb, hml, hown, hts⟩, hK, hE, hD, hA0, rfl, rfl, hfr, hlo, hkc, hks, rfl⟩ := C
  intro H locs ls hP hS hl
  obtain ⟨t, ht⟩ := tys_get (ca := ca) hi (by omega)
  obtain ⟨ip, hip, hg⟩ := mw_get (ad := ad) (ca := ca) hi
  have hg := hg σ
  rw [hk] at ht hg
  subst hj
  refine va_iast hx hb hK hP (hD σ) hS ip t hg ht (fun h => h.elim h0 (fun h => absurd h (by omega))) hd (fun H1 locs1 hP1 hD1 hS1 => ?_)
  rw [mw_setI (hD σ) hip (by rw [hk]; rfl)] at hP1
  exact k H1 locs1 ls hP1 hS1 hl
theorem a_zast (C : CT ids ad ca Γ cc own l0 D0 fr lo nL0) {i : Nat} {j : Int32} {x : Int32} (jn : Nat) (hw : vp_nar .boolean x = x) (hk : kd i = 21) (hi : i ∈ ids) (h0 : ¬ j < 0) (hj : j.toNatClampNeg = jn) (hn : jn < al i) (hd : decode cc pc = .ok (.bastore, 1)) (k : AW ids ad ca Γ (pc + 1) vs st (hI σ i jn x)) : AW ids ad ca Γ pc vs (.int x :: .int j :: .ref (ad i) :: st) σ := by
  obtain ⟨p, l, e, R, s, m, args, below, meth, c, kc, ks, Q, D, A, H0, nL⟩ := Γ
  obtain ⟨⟨hx, hb, hml, hown, hts⟩, hK, hE, hD, hA0, rfl, rfl, hfr, hlo, hkc, hks, rfl⟩ := C
  intro H locs ls hP hS hl
  obtain ⟨t, ht⟩ := tys_get (ca := ca) hi (by omega)
  obtain ⟨ip, hip, hg⟩ := mw_get (ad := ad) (ca := ca) hi
  have hg := hg σ
  rw [hk] at ht hg
  subst hj
  refine va_zast hx hb hK hP (hD σ) hS ip t hg ht (fun h => h.elim h0 (fun h => absurd h (by omega))) hd (fun H1 locs1 hP1 hD1 hS1 => ?_)
  rw [mw_setI (hD σ) hip (by rw [hk]; rw [hw]; rfl)] at hP1
  exact k H1 locs1 ls hP1 hS1 hl
theorem a_last (C : CT ids ad ca Γ cc own l0 D0 fr lo nL0) {i : Nat} {j : Int32} {x : Int64} (jn : Nat) (hk : kd i = 23) (hi : i ∈ ids) (h0 : ¬ j < 0) (hj : j.toNatClampNeg = jn) (hn : jn < al i) (hd : decode cc pc = .ok (.lastore, 1)) (k : AW ids ad ca Γ (pc + 1) vs st (hL σ i jn x)) : AW ids ad ca Γ pc vs (.long x :: .int j :: .ref (ad i) :: st) σ := by
  obtain ⟨p, l, e, R, s, m, args, below, meth, c, kc, ks, Q, D, A, H0, nL⟩ := Γ
  obtain ⟨⟨hx, hb, hml, hown, hts⟩, hK, hE, hD, hA0, rfl, rfl, hfr, hlo, hkc, hks, rfl⟩ := C
  intro H locs ls hP hS hl
  obtain ⟨t, ht⟩ := tys_get (ca := ca) hi (by omega)
  obtain ⟨ip, hip, hg⟩ := mw_get (ad := ad) (ca := ca) hi
  have hg := hg σ
  rw [hk] at ht hg
  subst hj
  refine va_last hx hb hK hP (hD σ) hS ip t hg ht (fun h => h.elim h0 (fun h => absurd h (by omega))) hd (fun H1 locs1 hP1 hD1 hS1 => ?_)
  rw [mw_setL (hD σ) hip (by rw [hk]; rfl)] at hP1
  exact k H1 locs1 ls hP1 hS1 hl
theorem a_alen (C : CT ids ad ca Γ cc own l0 D0 fr lo nL0) {i : Nat} {v : Int32} (h12 : 12 ≤ kd i) (hi : i ∈ ids) (hv : Int32.ofNat (al i) = v) (hd : decode cc pc = .ok (.arraylength, 1)) (k : AW ids ad ca Γ (pc + 1) vs (.int v :: st) σ) : AW ids ad ca Γ pc vs (.ref (ad i) :: st) σ := by
  obtain ⟨p, l, e, R, s, m, args, below, meth, c, kc, ks, Q, D, A, H0, nL⟩ := Γ
  obtain ⟨⟨hx, hb, hml, hown, hts⟩, hK, hE, hD, hA0, rfl, rfl, hfr, hlo, hkc, hks, rfl⟩ := C
  intro H locs ls hP hS hl
  obtain ⟨t, ht⟩ := tys_get (ca := ca) hi h12
  obtain ⟨ip, hip, hg⟩ := mw_get (ad := ad) (ca := ca) hi
  have hg := hg σ
  have hc : ∃ x : vp_A, ceK ad ca (kd i) i (σ.1 i) (σ.2.1 i) σ.2.2 = .inl (ca i, x) ∧ x.1 = al i := by
    unfold ceK
    rw [if_neg (by omega)]
    split
    · exact ⟨_, rfl, rfl⟩
    · split
      · exact ⟨_, rfl, rfl⟩
      · exact ⟨_, rfl, rfl⟩
  obtain ⟨x, e1, e2⟩ := hc
  rw [e1] at hg
  exact va_alen hx hb hK hP ip t hg ht (by rw [e2]; exact hv) hd (k H locs ls hP hS hl)
theorem a_aald (C : CT ids ad ca Γ cc own l0 D0 fr lo nL0) {i : Nat} {j : Int32} {y : Nat} (jn : Nat) (hk : kd i = 24 ∨ kd i = 25) (hi : i ∈ ids) (h0 : ¬ j < 0) (hj : j.toNatClampNeg = jn) (hn : jn < al i) (hy : rfK ad (kd i) i jn = some (ad y)) (hd : decode cc pc = .ok (.aaload, 1)) (k : AW ids ad ca Γ (pc + 1) vs (.ref (ad y) :: st) σ) : AW ids ad ca Γ pc vs (.int j :: .ref (ad i) :: st) σ := by
  obtain ⟨p, l, e, R, s, m, args, below, meth, c, kc, ks, Q, D, A, H0, nL⟩ := Γ
  obtain ⟨⟨hx, hb, hml, hown, hts⟩, hK, hE, hD, hA0, rfl, rfl, hfr, hlo, hkc, hks, rfl⟩ := C
  intro H locs ls hP hS hl
  obtain ⟨t, ht⟩ := tys_get (ca := ca) hi (by omega)
  obtain ⟨ip, hip, hg⟩ := mw_get (ad := ad) (ca := ca) hi
  have hg := hg σ
  have hty : aty (kd i) = .object RX0 := by rcases hk with h | h <;> rw [h] <;> rfl
  have hce : ceK ad ca (kd i) i (σ.1 i) (σ.2.1 i) σ.2.2 = .inl (ca i, al i, .inr (.inr (.inr (.inr (rfK ad (kd i) i))))) := by rcases hk with h | h <;> rw [h] <;> rfl
  rw [hty] at ht
  rw [hce] at hg
  subst hj
  refine va_aldq hx hb hK hP ip t hg ht (fun h => h.elim h0 (fun h => absurd h (by omega))) hd ?_
  rw [hy]
  exact k H locs ls hP hS hl
theorem ceK_ob {n i : Nat} {g : Nat → Int32} {gl : Nat → Int64} {tx : Nat → Nat} (h : n < 12) : ceK ad ca n i g gl tx = .inr (n, fsK ad n i g tx) := by
  unfold ceK
  rw [if_pos h]
theorem a_get (C : CT ids ad ca Γ cc own l0 D0 fr lo nL0) {i n q ix : Nat} {v : Value} (F : FL own ix n q) (hk : kd i = n) (hi : i ∈ ids) (hv : (fsK ad n i (σ.1 i) σ.2.2)[q]? = some v) (hd : decode cc pc = .ok (.getfield ix, 3)) (k : AW ids ad ca Γ (pc + 3) vs (v :: st) σ) : AW ids ad ca Γ pc vs (.ref (ad i) :: st) σ := by
  obtain ⟨p, l, e, R, s, m, args, below, meth, c, kc, ks, Q, D, A, H0, nL⟩ := Γ
  obtain ⟨⟨hx, hb, hml, hown, hts⟩, hK, hE, hD, hA0, rfl, rfl, hfr, hlo, hkc, hks, rfl⟩ := C
  intro H locs ls hP hS hl
  obtain ⟨Cn, T, N, hc, hq, h12, hw, hin⟩ := F
  obtain ⟨ip, hip, hg⟩ := mw_get (ad := ad) (ca := ca) hi
  have hg := hg σ
  rw [hk, ceK_ob h12] at hg
  exact va_get hx hb hts hin hown hK hP ip hg hc q hq (hts _ hw) (fun _ h => h) hv hd (k H locs ls hP hS hl)
theorem a_put (C : CT ids ad ca Γ cc own l0 D0 fr lo nL0) {i n q ix : Nat} {ty : FieldType} {v : Int32} (F : FP own ix n q ty) (hk : kd i = n) (hi : i ∈ ids) (hn : narrow ty (.int v) = .int v) (hf : fits ty (.int v) = true) (hd : decode cc pc = .ok (.putfield ix, 3)) (k : AW ids ad ca Γ (pc + 3) vs st (hI σ i q v)) : AW ids ad ca Γ pc vs (.int v :: .ref (ad i) :: st) σ := by
  obtain ⟨p, l, e, R, s, m, args, below, meth, c, kc, ks, Q, D, A, H0, nL⟩ := Γ
  obtain ⟨⟨hx, hb, hml, hown, hts⟩, hK, hE, hD, hA0, rfl, rfl, hfr, hlo, hkc, hks, rfl⟩ := C
  intro H locs ls hP hS hl
  obtain ⟨Cn, T, N, ty0, ⟨hc, hq, h12, hw, hin⟩, hty, hnm, hfin, hdd, hset⟩ := F
  obtain ⟨ip, hip, hg⟩ := mw_get (ad := ad) (ca := ca) hi
  have hg := hg σ
  rw [hk, ceK_ob h12] at hg
  refine va_put hx hb hts hin ty0 hty hnm hown hK hP (hD σ) hS ip hg hc q hq (hts _ hw) (fun _ h => h) hfin hdd hn hf (hset ad i (σ.1 i) σ.2.2 v).2 hd (fun H1 locs1 hP1 hD1 hS1 => ?_)
  rw [mw_setI (hD σ) hip (by rw [hk, ceK_ob h12, (hset ad i (σ.1 i) σ.2.2 v).1])] at hP1
  exact k H1 locs1 ls hP1 hS1 hl
theorem a_copyi (C : CT ids ad ca Γ cc own l0 D0 fr lo nL0) {ix i0 i1 : Nat} {sp dp n : Int32} (a b z : Nat) (h1 : Cond.methodLink own ix arraycopyName ∈ gw_tbl) (h2 : Cond.native arraycopyName ∈ gw_tbl) (h3 : Cond.static arraycopyName ∈ gw_tbl) (h4 : Cond.initialized "java/lang/System" ∈ gw_tbl) (hk0 : kd i0 = 20) (hi0 : i0 ∈ ids) (hk1 : kd i1 = 20) (hi1 : i1 ∈ ids) (g1 : ¬ sp < 0) (g2 : ¬ dp < 0) (g3 : ¬ n < 0) (ea : sp.toNatClampNeg = a) (eb : dp.toNatClampNeg = b) (ez : n.toNatClampNeg = z) (g4 : a + z ≤ al i0) (g5 : b + z ≤ al i1) (h5 : 1 ≤ fr) (h6 : (st.map fun v => v.category).sum + (nativeFrameWords "java/lang/System" "arraycopy" 5 + 11) ≤ lo) (hd : decode cc pc = .ok (.invokestatic ix, 3)) (k : AW ids ad ca Γ (pc + 3) vs st (hA σ i1 (va_cpy (σ.1 i0) (σ.1 i1) a b z))) : AW ids ad ca Γ pc vs (.int n :: .int dp :: .ref (ad i1) :: .int sp :: .ref (ad i0) :: st) σ := by
  obtain ⟨p, l, e, R, s, m, args, below, meth, c, kc, ks, Q, D, A, H0, nL⟩ := Γ
  obtain ⟨⟨hx, hb, hml, hown, hts⟩, hK, hE, hD, hA0, rfl, rfl, hfr, hlo, hkc, hks, rfl⟩ := C
  intro H locs ls hP hS hl
  obtain ⟨t0, ht0⟩ := tys_get (ca := ca) hi0 (by omega)
  obtain ⟨t1, ht1⟩ := tys_get (ca := ca) hi1 (by omega)
  obtain ⟨ip0, hip0, hg0⟩ := mw_get (ad := ad) (ca := ca) hi0
  have hg0 := hg0 σ
  obtain ⟨ip1, hip1, hg1⟩ := mw_get (ad := ad) (ca := ca) hi1
  have hg1 := hg1 σ
  rw [hk0] at ht0 hg0
  rw [hk1] at ht1 hg1
  subst ea eb ez
  refine va_copyi hx hb (hml.trans hl.1.symm) hown (hts _ h1) (hts _ h2) (hts _ h3) (hts _ h4) hK hP (hD σ) hS ip0 ip1 t0 t1 hg0 hg1 ht0 ht1 rfl g1 g2 g3 g4 g5 (fun _ _ => rfl) (Nat.le_trans h5 hfr) (Nat.le_trans h6 hlo) hd (fun H1 locs1 hP1 hD1 hS1 => ?_)
  rw [mw_setA (hD σ) hip1 (by rw [hk1]; rfl)] at hP1
  exact k H1 locs1 ls hP1 hS1 hl
theorem kd_sj : ∀ j : Nat, kd j = 10 → j = 0 := by
  have h : ∀ j, j < NN → kd j = 10 → j = 0 := by decide +kernel
  have hl : kdL.length = 277 := by decide +kernel
  intro j hj
  by_cases hlt : j < NN
  · exact h j hlt hj
  · have h2 : kd j = 99 := by
      unfold kd
      rw [List.getD_eq_getElem?_getD, List.getElem?_eq_none (by rw [hl]; exact Nat.not_lt.mp hlt)]
      rfl
    omega
theorem fsK_tx {n i : Nat} {g : Nat → Int32} {tx tx1 : Nat → Nat} (h : n ≠ 10) : fsK ad n i g tx = fsK ad n i g tx1 := by
  unfold fsK
  split <;> first | rfl | exact absurd rfl h
def FPR (own : String) (ix q kk : Nat) : Prop := ∃ (Cn : String) (T : u_T) (N : Nat) (ty0 : Nat → FieldType) (ty : FieldType), (vwCl[10]? = some (Cn, T, N) ∧ q < N ∧ Cond.fieldLink own ix (T q).1 (T q).2.1 (T q).2.2.1 ∈ gw_tbl ∧ (∀ w ∈ u_ws Cn T N, w ∈ gw_tbl)) ∧ (∀ k, k < N → parseFieldDescriptor (T k).2.2.1 = some (ty0 k)) ∧ (∀ a, a < N → ∀ b, b < N → a ≠ b → (T a).2.1 ≠ (T b).2.1) ∧ (T q).2.2.2 = false ∧ parseFieldDescriptor (T q).2.2.1 = some ty ∧ (∀ v : Nat, narrow ty (.ref v) = .ref v ∧ fits ty (.ref v) = true) ∧ (∀ (ad : Nat → Nat) (i : Nat) (g : Nat → Int32) (tx : Nat → Nat) (v : Nat), fsK ad 10 i g (va_up tx kk v) = (fsK ad 10 i g tx).set q (.ref (ad v)) ∧ q < (fsK ad 10 i g tx).length)
theorem a_putR (C : CT ids ad ca Γ cc own l0 D0 fr lo nL0) (hi : 0 ∈ ids) {q kk ix v : Nat} (F : FPR own ix q kk) (hd : decode cc pc = .ok (.putfield ix, 3)) (k : AW ids ad ca Γ (pc + 3) vs st (hR σ kk v)) : AW ids ad ca Γ pc vs (.ref (ad v) :: .ref (ad 0) :: st) σ := by
  obtain ⟨p, l, e, R, s, m, args, below, meth, c, kc, ks, Q, D, A, H0, nL⟩ := Γ
  obtain ⟨⟨hx, hb, hml, hown, hts⟩, hK, hE, hD, hA0, rfl, rfl, hfr, hlo, hkc, hks, rfl⟩ := C
  intro H locs ls hP hS hl
  obtain ⟨Cn, T, N, ty0, ty, ⟨hc, hq, hw, hin⟩, hty, hnm, hfin, hdd, hnf, hset⟩ := F
  have hk : kd 0 = 10 := by decide
  obtain ⟨ip, hip, hg⟩ := mw_get (ad := ad) (ca := ca) hi
  have hg := hg σ
  rw [hk, ceK_ob (by decide)] at hg
  refine va_put hx hb hts hin ty0 hty hnm hown hK hP (hD σ) hS ip hg hc q hq (hts _ hw) (fun _ h => h) hfin hdd (hnf (ad v)).1 (hnf (ad v)).2 (hset ad 0 (σ.1 0) σ.2.2 v).2 hd (fun H1 locs1 hP1 hD1 hS1 => ?_)
  have e : (mw ids ad ca σ).set ip (ad 0, .inr (10, (fsK ad 10 0 (σ.1 0) σ.2.2).set q (.ref (ad v)))) = mw ids ad ca (hR σ kk v) := by
    refine mw_set (hD σ) hip ?_ ?_
    · rw [hk, ceK_ob (by decide)]
      exact congrArg (fun z => (Sum.inr (10, z) : va_E)) (hset ad 0 (σ.1 0) σ.2.2 v).1
    · intro j hj
      have hj2 : kd j ≠ 10 := fun h => hj (kd_sj j h)
      show ceK ad ca (kd j) j (σ.1 j) (σ.2.1 j) (va_up σ.2.2 kk v) = ceK ad ca (kd j) j (σ.1 j) (σ.2.1 j) σ.2.2
      unfold ceK
      rw [fsK_tx (tx1 := σ.2.2) hj2]
  rw [e] at hP1
  exact k H1 locs1 ls hP1 hS1 hl
theorem fpr_82 : FPR RX11 82 13 0 := ⟨RX11, TX11, 15, tyX11, .object RX10, ⟨rfl, by decide, gwm 473 (by decide +kernel) rfl, uw_10⟩, tyX11_ok, nmX11, rfl, by decide +kernel, fun _ => ⟨rfl, rfl⟩, fun _ _ _ _ _ => ⟨rfl, by show 13 < 15; decide⟩⟩
theorem fpr_86 : FPR RX11 86 14 1 := ⟨RX11, TX11, 15, tyX11, .object RX10, ⟨rfl, by decide, gwm 474 (by decide +kernel) rfl, uw_10⟩, tyX11_ok, nmX11, rfl, by decide +kernel, fun _ => ⟨rfl, rfl⟩, fun _ _ _ _ _ => ⟨rfl, by show 14 < 15; decide⟩⟩
end AWR
/-! contracts over the world, and calls -/
theorem lw_goodIn {ws : List Cond} (h : ∀ w ∈ ws, w ∈ gw_tbl) : GoodIn gw_tbl ws := fun w hw => ⟨h w hw, good_of_word (List.mem_filter.mp (h w hw)).2⟩
def KPre (D : va_G) (ids : List Nat) (ad : Nat → Nat) (ca : Nat → ClassId) (σ : HS) (sz : Nat) (U : State) : Prop := U.heap.size = sz ∧ va_P D vwCl (mw ids ad ca σ) U.heap ∧ va_K D vwCl (tys ids ca) U ∧ va_D (fun _ => True) (mw ids ad ca σ) ∧ EN U
def KAt (D : va_G) (ids : List Nat) (ad : Nat → Nat) (ca : Nat → ClassId) (A : Nat → Prop) (σ : HS) (t : State) : Prop := va_P D vwCl (mw ids ad ca σ) t.heap ∧ va_K D vwCl (tys ids ca) t ∧ va_D A (mw ids ad ca σ)
/-- y, called with av in the world σ, answers r and leaves a world, as post says -/
def Ki (l : Launch) (D : va_G) (ids : List Nat) (ad : Nat → Nat) (ca : Nat → ClassId) (y : MethodName) (cc : ByteArray) (nL : Nat) (ty : FieldType) (fr lo : Nat) (av : List Value) (σ : HS) (post : Int32 → HS → Prop) : Prop :=
  ∀ sz : Nat, Met l y (.code y cc nL (some ty) :: gw_tbl) { frames := fr, cells := 0, slots := 0, locals := lo } (va_Pc av (KPre D ids ad ca σ sz)) (va_Qi post (KAt D ids ad ca (va_A (mw ids ad ca σ) sz)) (va_A (mw ids ad ca σ) sz)) 0 0 (va_A (mw ids ad ca σ) sz)
def Kv (l : Launch) (D : va_G) (ids : List Nat) (ad : Nat → Nat) (ca : Nat → ClassId) (y : MethodName) (cc : ByteArray) (nL : Nat) (fr lo : Nat) (av : List Value) (σ : HS) (post : HS → Prop) : Prop :=
  ∀ sz : Nat, Met l y (.code y cc nL none :: gw_tbl) { frames := fr, cells := 0, slots := 0, locals := lo } (va_Pc av (KPre D ids ad ca σ sz)) (va_Qv post (KAt D ids ad ca (va_A (mw ids ad ca σ) sz)) (va_A (mw ids ad ca σ) sz)) 0 0 (va_A (mw ids ad ca σ) sz)
def Kl (l : Launch) (D : va_G) (ids : List Nat) (ad : Nat → Nat) (ca : Nat → ClassId) (y : MethodName) (cc : ByteArray) (nL : Nat) (fr lo : Nat) (av : List Value) (σ : HS) (post : Int64 → HS → Prop) : Prop :=
  ∀ sz : Nat, Met l y (.code y cc nL (some .long) :: gw_tbl) { frames := fr, cells := 0, slots := 0, locals := lo } (va_Pc av (KPre D ids ad ca σ sz)) (va_Ql post (KAt D ids ad ca (va_A (mw ids ad ca σ) sz)) (va_A (mw ids ad ca σ) sz)) 0 0 (va_A (mw ids ad ca σ) sz)
def RI (ids : List Nat) (ad : Nat → Nat) (ca : Nat → ClassId) (Γ : GT) (cc : ByteArray) (ty : FieldType) (post : Int32 → HS → Prop) : Prop := match Γ with
  | (p, l, e, R, s, m, args, below, meth, c, kc, ks, Q, D, A, H0, nL) => ∀ (H : Heap) (locs : List Loc) (ls : Array Slot) (pc : Nat) (σ : HS) (v : Int32), va_P D vwCl (mw ids ad ca σ) H → va_S A H0 H locs → post v σ → decode cc pc = .ok (.ireturn, 1) → narrow ty (.int v) = .int v → W p l e R s m args below meth c H locs kc ks Q (F0 m pc ls [.int v])
def RV (ids : List Nat) (ad : Nat → Nat) (ca : Nat → ClassId) (Γ : GT) (cc : ByteArray) (post : HS → Prop) : Prop := match Γ with
  | (p, l, e, R, s, m, args, below, meth, c, kc, ks, Q, D, A, H0, nL) => ∀ (H : Heap) (locs : List Loc) (ls : Array Slot) (pc : Nat) (σ : HS), va_P D vwCl (mw ids ad ca σ) H → va_S A H0 H locs → post σ → decode cc pc = .ok (.return_, 1) → W p l e R s m args below meth c H locs kc ks Q (F0 m pc ls [])
def RL_ (ids : List Nat) (ad : Nat → Nat) (ca : Nat → ClassId) (Γ : GT) (cc : ByteArray) (post : Int64 → HS → Prop) : Prop := match Γ with
  | (p, l, e, R, s, m, args, below, meth, c, kc, ks, Q, D, A, H0, nL) => ∀ (H : Heap) (locs : List Loc) (ls : Array Slot) (pc : Nat) (σ : HS) (v : Int64), va_P D vwCl (mw ids ad ca σ) H → va_S A H0 H locs → post v σ → decode cc pc = .ok (.lreturn, 1) → W p l e R s m args below meth c H locs kc ks Q (F0 m pc ls [.long v])
section KR
variable {l : Launch} {D : va_G} {ids : List Nat} {ad : Nat → Nat} {ca : Nat → ClassId} {y : MethodName} {cc : ByteArray} {nL fr lo : Nat} {ty : FieldType} {av : List Value} {σ : HS}
theorem Ki.of {post : Int32 → HS → Prop} (hy : plainName y.cls = true) (hL : (lg_sl av).length ≤ nL) (z : Nat)
    (body : ∀ Γ : GT, CT ids ad ca Γ cc y.cls l D fr lo nL → RI ids ad ca Γ cc ty post → AW ids ad ca Γ 0 (entL av ++ List.replicate z none) [] σ) : Ki l D ids ad ca y cc nL ty fr lo av σ post := by
  intro sz
  refine Met.ofW (cc := cc) (maxL := nL) (ret := some ty) hy rfl ?_
  intro p e s m args below meth c s₁ B hml hv
  obtain ⟨rfl, hsz, hP, hK, hD0, hE⟩ := hv
  have hts := atoms_spec (ws := (.code y cc nL (some ty) :: gw_tbl)) B.pre
  subst hsz
  have hD := hD0.self (sz := s.heap.size)
  rw [lg_entry_eq]
  refine body (p, l, e, { frames := fr, cells := 0, slots := 0, locals := lo }, s, m, av.toArray, below, meth, c, 0, 0, _, D, va_A (mw ids ad ca σ) s.heap.size, s.heap, nL) ⟨⟨B.exec, B.bytes, hml, findClass_of_methodNamed B.named, fun w h => hts w (List.mem_cons_of_mem _ h)⟩, hK, hE, fun σ' => mw_D hD σ', fun q h => Or.inr h, rfl, rfl, Nat.le_refl _, Nat.le_refl _, Nat.le_refl _, Nat.le_refl _, rfl⟩ ?_ s.heap [] _ hP va_S.rf (LV.entry av hL z)
  intro H locs ls pc σ' v hP' hS hp hd hn
  exact W.zret B.exec B.bytes B.returns hn (fun t ht hW => ⟨⟨v, σ', rfl, hp, by rw [ht]; exact hP', va_K.moved hW.alike hK, mw_D hD σ'⟩, hS.F ht⟩) hS.2.2 hd B.notSynchronized
theorem Kv.of {post : HS → Prop} (hy : plainName y.cls = true) (hL : (lg_sl av).length ≤ nL) (z : Nat)
    (body : ∀ Γ : GT, CT ids ad ca Γ cc y.cls l D fr lo nL → RV ids ad ca Γ cc post → AW ids ad ca Γ 0 (entL av ++ List.replicate z none) [] σ) : Kv l D ids ad ca y cc nL fr lo av σ post := by
  intro sz
  refine Met.ofW (cc := cc) (maxL := nL) (ret := none) hy rfl ?_
  intro p e s m args below meth c s₁ B hml hv
  obtain ⟨rfl, hsz, hP, hK, hD0, hE⟩ := hv
  have hts := atoms_spec (ws := (.code y cc nL none :: gw_tbl)) B.pre
  subst hsz
  have hD := hD0.self (sz := s.heap.size)
  rw [lg_entry_eq]
  refine body (p, l, e, { frames := fr, cells := 0, slots := 0, locals := lo }, s, m, av.toArray, below, meth, c, 0, 0, _, D, va_A (mw ids ad ca σ) s.heap.size, s.heap, nL) ⟨⟨B.exec, B.bytes, hml, findClass_of_methodNamed B.named, fun w h => hts w (List.mem_cons_of_mem _ h)⟩, hK, hE, fun σ' => mw_D hD σ', fun q h => Or.inr h, rfl, rfl, Nat.le_refl _, Nat.le_refl _, Nat.le_refl _, Nat.le_refl _, rfl⟩ ?_ s.heap [] _ hP va_S.rf (LV.entry av hL z)
  intro H locs ls pc σ' hP' hS hp hd
  exact W.vret B.exec B.bytes B.returns (fun t ht hW => ⟨⟨σ', rfl, hp, by rw [ht]; exact hP', va_K.moved hW.alike hK, mw_D hD σ'⟩, hS.F ht⟩) hS.2.2 hd B.notSynchronized
theorem Kl.of {post : Int64 → HS → Prop} (hy : plainName y.cls = true) (hL : (lg_sl av).length ≤ nL) (z : Nat)
    (body : ∀ Γ : GT, CT ids ad ca Γ cc y.cls l D fr lo nL → RL_ ids ad ca Γ cc post → AW ids ad ca Γ 0 (entL av ++ List.replicate z none) [] σ) : Kl l D ids ad ca y cc nL fr lo av σ post := by
  intro sz
  refine Met.ofW (cc := cc) (maxL := nL) (ret := some .long) hy rfl ?_
  intro p e s m args below meth c s₁ B hml hv
  obtain ⟨rfl, hsz, hP, hK, hD0, hE⟩ := hv
  have hts := atoms_spec (ws := (.code y cc nL (some .long) :: gw_tbl)) B.pre
  subst hsz
  have hD := hD0.self (sz := s.heap.size)
  rw [lg_entry_eq]
  refine body (p, l, e, { frames := fr, cells := 0, slots := 0, locals := lo }, s, m, av.toArray, below, meth, c, 0, 0, _, D, va_A (mw ids ad ca σ) s.heap.size, s.heap, nL) ⟨⟨B.exec, B.bytes, hml, findClass_of_methodNamed B.named, fun w h => hts w (List.mem_cons_of_mem _ h)⟩, hK, hE, fun σ' => mw_D hD σ', fun q h => Or.inr h, rfl, rfl, Nat.le_refl _, Nat.le_refl _, Nat.le_refl _, Nat.le_refl _, rfl⟩ ?_ s.heap [] _ hP va_S.rf (LV.entry av hL z)
  intro H locs ls pc σ' v hP' hS hp hd
  exact W.lret B.exec B.bytes B.returns (fun t ht hW => ⟨⟨v, σ', rfl, hp, by rw [ht]; exact hP', va_K.moved hW.alike hK, mw_D hD σ'⟩, hS.F ht⟩) hS.2.2 hd B.notSynchronized
end KR
section RETR
variable {ids : List Nat} {ad : Nat → Nat} {ca : Nat → ClassId} {Γ : GT} {cc : ByteArray} {own : String} {l0 : Launch} {D0 : va_G} {fr lo nL0 : Nat} {pc : Nat} {vs : List (Option Value)} {st : List Value} {σ : HS}
theorem a_iret {ty : FieldType} {post : Int32 → HS → Prop} {v : Int32} (Rt : RI ids ad ca Γ cc ty post) (hd : decode cc pc = .ok (.ireturn, 1)) (hn : narrow ty (.int v) = .int v) (hp : post v σ) : AW ids ad ca Γ pc vs [.int v] σ := by
  obtain ⟨p, l, e, R, s, m, args, below, meth, c, kc, ks, Q, D, A, H0, nL⟩ := Γ
  intro H locs ls hP hS hl
  exact Rt H locs ls pc σ v hP hS hp hd hn
theorem a_vret {post : HS → Prop} (Rt : RV ids ad ca Γ cc post) (hd : decode cc pc = .ok (.return_, 1)) (hp : post σ) : AW ids ad ca Γ pc vs [] σ := by
  obtain ⟨p, l, e, R, s, m, args, below, meth, c, kc, ks, Q, D, A, H0, nL⟩ := Γ
  intro H locs ls hP hS hl
  exact Rt H locs ls pc σ hP hS hp hd
theorem a_lret {post : Int64 → HS → Prop} {v : Int64} (Rt : RL_ ids ad ca Γ cc post) (hd : decode cc pc = .ok (.lreturn, 1)) (hp : post v σ) : AW ids ad ca Γ pc vs [.long v] σ := by
  obtain ⟨p, l, e, R, s, m, args, below, meth, c, kc, ks, Q, D, A, H0, nL⟩ := Γ
  intro H locs ls hP hS hl
  exact Rt H locs ls pc σ v hP hS hp hd
theorem KPre.blind {D : va_G} {av : List Value} {sz : Nat} : FrameBlind (va_Pc av (KPre D ids ad ca σ sz)) := fun a U g mk q => by
  obtain ⟨q0, q1, qP, qK, qD, qE⟩ := q
  exact ⟨q0, q1, qP, va_K.moved (u := U) (U := U.calling g mk a) (Vm.Alike.refl U.vm) qK, qD, EN.same (s := U) (U := U.calling g mk a) rfl qE⟩
theorem mw_freeA {A : Nat → Prop} {H0 H : Heap} {locs : List Loc} (hD : va_D A (mw ids ad ca σ)) (hS : va_S A H0 H locs) (hA : ∀ q, H0.size ≤ q → A q) : ∀ q, va_A (mw ids ad ca σ) H.size q → A q := fun q h => by
  rcases h with ⟨k, e, h⟩ | h
  · exact hD.2 k (q, e) h
  · exact hA q (Nat.le_trans hS.1 h)
-- GENERATED by calls.py
theorem a_callVi (C : CT ids ad ca Γ cc own l0 D0 fr lo nL0) {y : MethodName} {cc' : ByteArray} {nL' fr' lo' n ix : Nat} {ty : FieldType} {As st0 : List Value} {post : Int32 → HS → Prop} {i n0 : Nat} (hk : kd i = n0) (hi : i ∈ ids) (hq : ∃ (T : u_T) (N : Nat), vwCl[n0]? = some (y.cls, T, N)) (h12 : n0 < 12) (hM : Ki l0 D0 ids ad ca y cc' nL' ty fr' lo' (.ref (ad i) :: As) σ post) (hw : MI y cc' nL' (some ty) n) (hlink : Cond.methodLink own ix y ∈ gw_tbl) (hst : st0 = As.reverse ++ .ref (ad i) :: st) (hn : As.length = n) (hf1 : fr' + 1 ≤ fr) (hl1 : 8 + (nL' + 11) + lo' ≤ lo) (hcat : (st.map fun v => v.category).sum ≤ 8) (hd : decode cc pc = .ok (.invokevirtual ix, 3)) (k : ∀ (r : Int32) (σ' : HS), post r σ' → AW ids ad ca Γ (pc + 3) vs (.int r :: st) σ') : AW ids ad ca Γ pc vs st0 σ := by
  obtain ⟨p, l, e, R, s, m, args, below, meth, c, kc, ks, Q, D, A, H0, nL⟩ := Γ
  obtain ⟨⟨hx, hb, hml, hown, hts⟩, hK, hE, hD, hA0, rfl, rfl, hfr, hlo, hkc, hks, rfl⟩ := C
  intro H locs ls hP hS hl
  obtain ⟨w1, w2, w3, w4, w5, w6, w7⟩ := hw
  obtain ⟨T, N, hq⟩ := hq
  subst hst
  obtain ⟨ip, hip, hg⟩ := mw_get (ad := ad) (ca := ca) hi
  have hg := hg σ
  rw [hk, ceK_ob h12] at hg
  have hG : GoodIn gw_tbl (wsV own ix y.cls y (.code y cc' nL' (some ty) :: gw_tbl)) := lw_goodIn (fun w h => by
    simp only [wsV, List.cons_append, List.nil_append, List.mem_cons] at h
    rcases h with rfl | rfl | rfl | rfl | rfl | h
    · exact hlink
    · exact w1
    · exact w2
    · exact w3
    · exact w4
    · exact h)
  have hFc := mw_freeA (hD σ) hS hA0
  refine va_calli (va_runV (As := As) (rest := st) ⟨hx, hb, hml, hown, hts⟩ (hM H.size) (cwV n hts hG rfl rfl rfl ⟨rfl, w5, w6, w7⟩ ⟨Nat.le_trans hf1 hfr, Nat.le_trans hl1 hlo⟩) ⟨KPre.blind, va_recv hK hP hq hg, fun U hU hW => ⟨rfl, by rw [hU], by rw [hU]; exact hP, va_K.moved hW.alike hK, (hD σ).weaken (fun _ _ _ _ => trivial), hE.warm hW⟩⟩ rfl hn hl.1 rfl (lv_room hcat) hd ⟨hkc, hks⟩) hS (fun q _ h => hFc q h) hFc (fun r u t H1 locs1 ht hvm hw hB hz1 hk1 hS1 => ?_)
  have hP1 := hB.1
  rw [ht] at hP1
  exact k r u hw H1 locs1 ls hP1 hS1 hl
theorem a_callVv (C : CT ids ad ca Γ cc own l0 D0 fr lo nL0) {y : MethodName} {cc' : ByteArray} {nL' fr' lo' n ix : Nat} {As st0 : List Value} {post : HS → Prop} {i n0 : Nat} (hk : kd i = n0) (hi : i ∈ ids) (hq : ∃ (T : u_T) (N : Nat), vwCl[n0]? = some (y.cls, T, N)) (h12 : n0 < 12) (hM : Kv l0 D0 ids ad ca y cc' nL' fr' lo' (.ref (ad i) :: As) σ post) (hw : MI y cc' nL' none n) (hlink : Cond.methodLink own ix y ∈ gw_tbl) (hst : st0 = As.reverse ++ .ref (ad i) :: st) (hn : As.length = n) (hf1 : fr' + 1 ≤ fr) (hl1 : 8 + (nL' + 11) + lo' ≤ lo) (hcat : (st.map fun v => v.category).sum ≤ 8) (hd : decode cc pc = .ok (.invokevirtual ix, 3)) (k : ∀ (σ' : HS), post σ' → AW ids ad ca Γ (pc + 3) vs st σ') : AW ids ad ca Γ pc vs st0 σ := by
  obtain ⟨p, l, e, R, s, m, args, below, meth, c, kc, ks, Q, D, A, H0, nL⟩ := Γ
  obtain ⟨⟨hx, hb, hml, hown, hts⟩, hK, hE, hD, hA0, rfl, rfl, hfr, hlo, hkc, hks, rfl⟩ := C
  intro H locs ls hP hS hl
  obtain ⟨w1, w2, w3, w4, w5, w6, w7⟩ := hw
  obtain ⟨T, N, hq⟩ := hq
  subst hst
  obtain ⟨ip, hip, hg⟩ := mw_get (ad := ad) (ca := ca) hi
  have hg := hg σ
  rw [hk, ceK_ob h12] at hg
  have hG : GoodIn gw_tbl (wsV own ix y.cls y (.code y cc' nL' none :: gw_tbl)) := lw_goodIn (fun w h => by
    simp only [wsV, List.cons_append, List.nil_append, List.mem_cons] at h
    rcases h with rfl | rfl | rfl | rfl | rfl | h
    · exact hlink
    · exact w1
    · exact w2
    · exact w3
    · exact w4
    · exact h)
  have hFc := mw_freeA (hD σ) hS hA0
  refine va_callv (va_runV (As := As) (rest := st) ⟨hx, hb, hml, hown, hts⟩ (hM H.size) (cwV n hts hG rfl rfl rfl ⟨rfl, w5, w6, w7⟩ ⟨Nat.le_trans hf1 hfr, Nat.le_trans hl1 hlo⟩) ⟨KPre.blind, va_recv hK hP hq hg, fun U hU hW => ⟨rfl, by rw [hU], by rw [hU]; exact hP, va_K.moved hW.alike hK, (hD σ).weaken (fun _ _ _ _ => trivial), hE.warm hW⟩⟩ rfl hn hl.1 rfl (lv_room hcat) hd ⟨hkc, hks⟩) hS (fun q _ h => hFc q h) hFc (fun u t H1 locs1 ht hvm hw hB hz1 hk1 hS1 => ?_)
  have hP1 := hB.1
  rw [ht] at hP1
  exact k u hw H1 locs1 ls hP1 hS1 hl
theorem a_callSi (C : CT ids ad ca Γ cc own l0 D0 fr lo nL0) {y : MethodName} {cc' : ByteArray} {nL' fr' lo' n ix : Nat} {ty : FieldType} {As st0 : List Value} {post : Int32 → HS → Prop} (hM : Ki l0 D0 ids ad ca y cc' nL' ty fr' lo' As σ post) (hw : MS y cc' nL' (some ty) n) (hlink : Cond.methodLink own ix y ∈ gw_tbl) (hst : st0 = As.reverse ++ st) (hn : As.length = n) (hf1 : fr' + 1 ≤ fr) (hl1 : 8 + (nL' + 11) + lo' ≤ lo) (hcat : (st.map fun v => v.category).sum ≤ 8) (hd : decode cc pc = .ok (.invokestatic ix, 3)) (k : ∀ (r : Int32) (σ' : HS), post r σ' → AW ids ad ca Γ (pc + 3) vs (.int r :: st) σ') : AW ids ad ca Γ pc vs st0 σ := by
  obtain ⟨p, l, e, R, s, m, args, below, meth, c, kc, ks, Q, D, A, H0, nL⟩ := Γ
  obtain ⟨⟨hx, hb, hml, hown, hts⟩, hK, hE, hD, hA0, rfl, rfl, hfr, hlo, hkc, hks, rfl⟩ := C
  intro H locs ls hP hS hl
  obtain ⟨w1, w3, w4, w5, w6, w7⟩ := hw
  subst hst
  have hG : GoodIn gw_tbl (va_wsS own ix y (.code y cc' nL' (some ty) :: gw_tbl)) := lw_goodIn (fun w h => by
    simp only [va_wsS, List.cons_append, List.nil_append, List.mem_cons] at h
    rcases h with rfl | rfl | rfl | rfl | h
    · exact hlink
    · exact w1
    · exact w3
    · exact w4
    · exact h)
  have hFc := mw_freeA (hD σ) hS hA0
  refine va_calli (va_runS (As := As) (rest := st) ⟨hx, hb, hml, hown, hts⟩ (hM H.size) (va_cwS n hts hG rfl rfl rfl ⟨w5, w6, w7⟩ ⟨Nat.le_trans hf1 hfr, Nat.le_trans hl1 hlo⟩) ⟨KPre.blind, fun U hU hW => ⟨rfl, by rw [hU], by rw [hU]; exact hP, va_K.moved hW.alike hK, (hD σ).weaken (fun _ _ _ _ => trivial), hE.warm hW⟩⟩ rfl hn hl.1 rfl (lv_room hcat) hd ⟨hkc, hks⟩) hS (fun q _ h => hFc q h) hFc (fun r u t H1 locs1 ht hvm hw hB hz1 hk1 hS1 => ?_)
  have hP1 := hB.1
  rw [ht] at hP1
  exact k r u hw H1 locs1 ls hP1 hS1 hl
theorem a_callSv (C : CT ids ad ca Γ cc own l0 D0 fr lo nL0) {y : MethodName} {cc' : ByteArray} {nL' fr' lo' n ix : Nat} {As st0 : List Value} {post : HS → Prop} (hM : Kv l0 D0 ids ad ca y cc' nL' fr' lo' As σ post) (hw : MS y cc' nL' none n) (hlink : Cond.methodLink own ix y ∈ gw_tbl) (hst : st0 = As.reverse ++ st) (hn : As.length = n) (hf1 : fr' + 1 ≤ fr) (hl1 : 8 + (nL' + 11) + lo' ≤ lo) (hcat : (st.map fun v => v.category).sum ≤ 8) (hd : decode cc pc = .ok (.invokestatic ix, 3)) (k : ∀ (σ' : HS), post σ' → AW ids ad ca Γ (pc + 3) vs st σ') : AW ids ad ca Γ pc vs st0 σ := by
  obtain ⟨p, l, e, R, s, m, args, below, meth, c, kc, ks, Q, D, A, H0, nL⟩ := Γ
  obtain ⟨⟨hx, hb, hml, hown, hts⟩, hK, hE, hD, hA0, rfl, rfl, hfr, hlo, hkc, hks, rfl⟩ := C
  intro H locs ls hP hS hl
  obtain ⟨w1, w3, w4, w5, w6, w7⟩ := hw
  subst hst
  have hG : GoodIn gw_tbl (va_wsS own ix y (.code y cc' nL' none :: gw_tbl)) := lw_goodIn (fun w h => by
    simp only [va_wsS, List.cons_append, List.nil_append, List.mem_cons] at h
    rcases h with rfl | rfl | rfl | rfl | h
    · exact hlink
    · exact w1
    · exact w3
    · exact w4
    · exact h)
  have hFc := mw_freeA (hD σ) hS hA0
  refine va_callv (va_runS (As := As) (rest := st) ⟨hx, hb, hml, hown, hts⟩ (hM H.size) (va_cwS n hts hG rfl rfl rfl ⟨w5, w6, w7⟩ ⟨Nat.le_trans hf1 hfr, Nat.le_trans hl1 hlo⟩) ⟨KPre.blind, fun U hU hW => ⟨rfl, by rw [hU], by rw [hU]; exact hP, va_K.moved hW.alike hK, (hD σ).weaken (fun _ _ _ _ => trivial), hE.warm hW⟩⟩ rfl hn hl.1 rfl (lv_room hcat) hd ⟨hkc, hks⟩) hS (fun q _ h => hFc q h) hFc (fun u t H1 locs1 ht hvm hw hB hz1 hk1 hS1 => ?_)
  have hP1 := hB.1
  rw [ht] at hP1
  exact k u hw H1 locs1 ls hP1 hS1 hl
theorem a_callSl (C : CT ids ad ca Γ cc own l0 D0 fr lo nL0) {y : MethodName} {cc' : ByteArray} {nL' fr' lo' n ix : Nat} {As st0 : List Value} {post : Int64 → HS → Prop} (hM : Kl l0 D0 ids ad ca y cc' nL' fr' lo' As σ post) (hw : MS y cc' nL' (some .long) n) (hlink : Cond.methodLink own ix y ∈ gw_tbl) (hst : st0 = As.reverse ++ st) (hn : As.length = n) (hf1 : fr' + 1 ≤ fr) (hl1 : 8 + (nL' + 11) + lo' ≤ lo) (hcat : (st.map fun v => v.category).sum ≤ 8) (hd : decode cc pc = .ok (.invokestatic ix, 3)) (k : ∀ (r : Int64) (σ' : HS), post r σ' → AW ids ad ca Γ (pc + 3) vs (.long r :: st) σ') : AW ids ad ca Γ pc vs st0 σ := by
  obtain ⟨p, l, e, R, s, m, args, below, meth, c, kc, ks, Q, D, A, H0, nL⟩ := Γ
  obtain ⟨⟨hx, hb, hml, hown, hts⟩, hK, hE, hD, hA0, rfl, rfl, hfr, hlo, hkc, hks, rfl⟩ := C
  intro H locs ls hP hS hl
  obtain ⟨w1, w3, w4, w5, w6, w7⟩ := hw
  subst hst
  have hG : GoodIn gw_tbl (va_wsS own ix y (.code y cc' nL' (some .long) :: gw_tbl)) := lw_goodIn (fun w h => by
    simp only [va_wsS, List.cons_append, List.nil_append, List.mem_cons] at h
    rcases h with rfl | rfl | rfl | rfl | h
    · exact hlink
    · exact w1
    · exact w3
    · exact w4
    · exact h)
  have hFc := mw_freeA (hD σ) hS hA0
  refine va_calll (va_runS (As := As) (rest := st) ⟨hx, hb, hml, hown, hts⟩ (hM H.size) (va_cwS n hts hG rfl rfl rfl ⟨w5, w6, w7⟩ ⟨Nat.le_trans hf1 hfr, Nat.le_trans hl1 hlo⟩) ⟨KPre.blind, fun U hU hW => ⟨rfl, by rw [hU], by rw [hU]; exact hP, va_K.moved hW.alike hK, (hD σ).weaken (fun _ _ _ _ => trivial), hE.warm hW⟩⟩ rfl hn hl.1 rfl (lv_room hcat) hd ⟨hkc, hks⟩) hS (fun q _ h => hFc q h) hFc (fun r u t H1 locs1 ht hvm hw hB hz1 hk1 hS1 => ?_)
  have hP1 := hB.1
  rw [ht] at hP1
  exact k r u hw H1 locs1 ls hP1 hS1 hl
end RETR
/-! kinds and lengths by number; the fresh state -/
theorem kd_0 : kd 0 = 10 := by decide
theorem kd_1 : kd 1 = 5 := by decide
theorem kd_2 : kd 2 = 8 := by decide
theorem kd_3 : kd 3 = 20 := by decide
theorem al_3 : al 3 = 2000 := by decide
theorem kd_4 : kd 4 = 20 := by decide
theorem al_4 : al 4 = 401 := by decide
theorem kd_5 : kd 5 = 20 := by decide
theorem al_5 : al 5 = 401 := by decide
theorem kd_6 : kd 6 = 23 := by decide
theorem al_6 : al 6 = 401 := by decide
theorem kd_7 : kd 7 = 23 := by decide
theorem al_7 : al 7 = 12 := by decide
theorem kd_8 : kd 8 = 3 := by decide
theorem kd_9 : kd 9 = 1 := by decide
theorem kd_10 : kd 10 = 20 := by decide
theorem al_10 : al 10 = 9 := by decide
theorem kd_11 : kd 11 = 20 := by decide
theorem al_11 : al 11 = 32 := by decide
theorem kd_12 : kd 12 = 4 := by decide
theorem kd_13 : kd 13 = 24 := by decide
theorem al_13 : al 13 = 40 := by decide
theorem kd_14 : kd 14 = 2 := by decide
theorem kd_15 : kd 15 = 20 := by decide
theorem al_15 : al 15 = 20 := by decide
theorem kd_16 : kd 16 = 21 := by decide
theorem al_16 : al 16 = 20 := by decide
theorem kd_17 : kd 17 = 6 := by decide
theorem kd_18 : kd 18 = 20 := by decide
theorem al_18 : al 18 = 1024 := by decide
theorem kd_19 : kd 19 = 20 := by decide
theorem al_19 : al 19 = 1024 := by decide
theorem kd_20 : kd 20 = 20 := by decide
theorem al_20 : al 20 = 1024 := by decide
theorem kd_21 : kd 21 = 20 := by decide
theorem al_21 : al 21 = 12 := by decide
theorem kd_22 : kd 22 = 7 := by decide
theorem kd_23 : kd 23 = 20 := by decide
theorem al_23 : al 23 = 5 := by decide
theorem kd_24 : kd 24 = 20 := by decide
theorem al_24 : al 24 = 5 := by decide
theorem kd_25 : kd 25 = 25 := by decide
theorem al_25 : al 25 = 3 := by decide
theorem kd_26 : kd 26 = 21 := by decide
theorem al_26 : al 26 = 3 := by decide
theorem kd_27 : kd 27 = 20 := by decide
theorem al_27 : al 27 = 61 := by decide
theorem kd_28 : kd 28 = 20 := by decide
theorem al_28 : al 28 = 7 := by decide
theorem kd_29 : kd 29 = 20 := by decide
theorem al_29 : al 29 = 16 := by decide
theorem kd_30 : kd 30 = 9 := by decide
theorem kd_41 : kd 41 = 20 := by decide
theorem al_41 : al 41 = 408 := by decide
theorem kd_42 : kd 42 = 20 := by decide
theorem al_42 : al 42 = 4 := by decide
theorem kd_56 : kd 56 = 0 := by decide
theorem kd_57 : kd 57 = 20 := by decide
theorem al_57 : al 57 = 7 := by decide
theorem kd_58 : kd 58 = 20 := by decide
theorem al_58 : al 58 = 7 := by decide
theorem kd_59 : kd 59 = 20 := by decide
theorem al_59 : al 59 = 7 := by decide
theorem kd_64 : kd 64 = 0 := by decide
theorem kd_65 : kd 65 = 20 := by decide
theorem al_65 : al 65 = 7 := by decide
theorem kd_66 : kd 66 = 20 := by decide
theorem al_66 : al 66 = 7 := by decide
theorem kd_67 : kd 67 = 20 := by decide
theorem al_67 : al 67 = 7 := by decide
theorem kd_68 : kd 68 = 0 := by decide
theorem kd_69 : kd 69 = 20 := by decide
theorem al_69 : al 69 = 7 := by decide
theorem kd_70 : kd 70 = 20 := by decide
theorem al_70 : al 70 = 7 := by decide
theorem kd_71 : kd 71 = 20 := by decide
theorem al_71 : al 71 = 7 := by decide
theorem kd_72 : kd 72 = 0 := by decide
theorem kd_73 : kd 73 = 20 := by decide
theorem al_73 : al 73 = 7 := by decide
theorem kd_74 : kd 74 = 20 := by decide
theorem al_74 : al 74 = 7 := by decide
theorem kd_75 : kd 75 = 20 := by decide
theorem al_75 : al 75 = 7 := by decide
theorem kd_236 : kd 236 = 11 := by decide
theorem kd_237 : kd 237 = 22 := by decide
theorem al_237 : al 237 = 2000 := by decide
theorem kd_238 : kd 238 = 22 := by decide
theorem al_238 : al 238 = 2000 := by decide
theorem kd_239 : kd 239 = 20 := by decide
theorem al_239 : al 239 = 403 := by decide
theorem kd_240 : kd 240 = 20 := by decide
theorem al_240 : al 240 = 403 := by decide
theorem kd_241 : kd 241 = 20 := by decide
theorem al_241 : al 241 = 403 := by decide
theorem kd_242 : kd 242 = 23 := by decide
theorem al_242 : al 242 = 403 := by decide
theorem kd_243 : kd 243 = 23 := by decide
theorem al_243 : al 243 = 20 := by decide
theorem kd_244 : kd 244 = 23 := by decide
theorem al_244 : al 244 = 12 := by decide
theorem kd_245 : kd 245 = 20 := by decide
theorem al_245 : al 245 = 2 := by decide
theorem kd_246 : kd 246 = 20 := by decide
theorem al_246 : al 246 = 14 := by decide
theorem kd_247 : kd 247 = 20 := by decide
theorem al_247 : al 247 = 14 := by decide
theorem kd_248 : kd 248 = 20 := by decide
theorem al_248 : al 248 = 14 := by decide
theorem kd_249 : kd 249 = 20 := by decide
theorem al_249 : al 249 = 2 := by decide
theorem kd_250 : kd 250 = 20 := by decide
theorem al_250 : al 250 = 10 := by decide
theorem kd_251 : kd 251 = 20 := by decide
theorem al_251 : al 251 = 80 := by decide
theorem kd_252 : kd 252 = 20 := by decide
theorem al_252 : al 252 = 2 := by decide
theorem kd_253 : kd 253 = 20 := by decide
theorem al_253 : al 253 = 2 := by decide
theorem kd_254 : kd 254 = 20 := by decide
theorem al_254 : al 254 = 8 := by decide
theorem kd_255 : kd 255 = 20 := by decide
theorem al_255 : al 255 = 8 := by decide
theorem kd_256 : kd 256 = 21 := by decide
theorem al_256 : al 256 = 260 := by decide
theorem kd_257 : kd 257 = 20 := by decide
theorem al_257 : al 257 = 260 := by decide
theorem kd_258 : kd 258 = 20 := by decide
theorem al_258 : al 258 = 260 := by decide
theorem kd_259 : kd 259 = 20 := by decide
theorem al_259 : al 259 = 260 := by decide
theorem kd_260 : kd 260 = 20 := by decide
theorem al_260 : al 260 = 260 := by decide
theorem kd_261 : kd 261 = 20 := by decide
theorem al_261 : al 261 = 840 := by decide
theorem kd_262 : kd 262 = 20 := by decide
theorem al_262 : al 262 = 840 := by decide
theorem kd_263 : kd 263 = 20 := by decide
theorem al_263 : al 263 = 64 := by decide
theorem kd_264 : kd 264 = 20 := by decide
theorem al_264 : al 264 = 9 := by decide
theorem kd_265 : kd 265 = 20 := by decide
theorem al_265 : al 265 = 400 := by decide
theorem kd_266 : kd 266 = 20 := by decide
theorem al_266 : al 266 = 29 := by decide
theorem kd_267 : kd 267 = 20 := by decide
theorem al_267 : al 267 = 29 := by decide
theorem kd_268 : kd 268 = 20 := by decide
theorem al_268 : al 268 = 1160 := by decide
theorem kd_269 : kd 269 = 20 := by decide
theorem al_269 : al 269 = 16 := by decide
theorem kd_270 : kd 270 = 20 := by decide
theorem al_270 : al 270 = 1024 := by decide
theorem kd_271 : kd 271 = 20 := by decide
theorem al_271 : al 271 = 7 := by decide
theorem kd_272 : kd 272 = 20 := by decide
theorem al_272 : al 272 = 20 := by decide
theorem kd_273 : kd 273 = 21 := by decide
theorem al_273 : al 273 = 20 := by decide
theorem kd_274 : kd 274 = 20 := by decide
theorem al_274 : al 274 = 41 := by decide
theorem kd_275 : kd 275 = 21 := by decide
theorem al_275 : al 275 = 3 := by decide
theorem kd_276 : kd 276 = 20 := by decide
theorem al_276 : al 276 = 87 := by decide
def hC (σ : HS) (a b n : Nat) : HS := hA σ b (va_cpy (σ.1 a) (σ.1 b) 0 0 n)
/-- the ints of the fresh state -/
def s0I (i k : Nat) : Int32 := match kd i with
  | 0 => if k = 9 then -1 else if k = 11 then -1 else 0
  | 5 => if k = 1 then -1 else 0
  | 9 => if k = 8 then 8 else if k = 10 then 1 else 0
  | 11 => if k = 17 then -1 else 0
  | 20 => if i = 41 ∨ i = 54 then [0, -6, 0, -6, -11, -6, 0, -6].getD k 0
    else if i = 42 ∨ i = 55 then [0, 2, 4, 6].getD k 0
    else if i = 252 then (if k = 0 then 1 else 0)
    else if i = 266 ∨ i = 267 then (if k = 26 then -2 else if k = 28 then -1 else 0)
    else 0
  | _ => 0
def s0L (i k : Nat) : Int64 := if i = 243 then [10793230, 6224103356, 10819243, 2491444, 3497099, 316351, 9678763, 377761, 249, 399641, 107681, 332864552, 101525, 117630947, 43058, 10819228, 583, 12387257, 43996844, 158575].getD k 0 else 0
def s0 : HS := (s0I, s0L, fun k => if k = 0 then 30 else 43)
/-- the class's cells may have changed, the reference's haven't -/
def keepM (σ σ1 : HS) : Prop := ∀ k, 236 ≤ k → σ1.1 k = σ.1 k ∧ σ1.2.1 k = σ.2.1 k
theorem keepM.rf {σ : HS} : keepM σ σ := fun _ _ => ⟨rfl, rfl⟩
theorem keepM.tr {σ σ1 σ2 : HS} (h : keepM σ σ1) (h2 : keepM σ1 σ2) : keepM σ σ2 := fun k hk => ⟨(h2 k hk).1.trans (h k hk).1, (h2 k hk).2.trans (h k hk).2⟩
theorem keepM.I {σ σ1 : HS} {i k : Nat} {v : Int32} (h : keepM σ σ1) (hi : i < 236) : keepM σ (hI σ1 i k v) := fun q hq => ⟨(va_up_ne _ _ (show q ≠ i by omega)).trans (h q hq).1, (h q hq).2⟩
/-- only the cells in L may have changed -/
def only (L : List Nat) (σ σ1 : HS) : Prop := (∀ k, k ∉ L → σ1.1 k = σ.1 k) ∧ σ1.2 = σ.2
theorem only.rf {L : List Nat} {σ : HS} : only L σ σ := ⟨fun _ _ => rfl, rfl⟩
theorem only.tr {L : List Nat} {σ σ1 σ2 : HS} (h : only L σ σ1) (h2 : only L σ1 σ2) : only L σ σ2 := ⟨fun k hk => (h2.1 k hk).trans (h.1 k hk), h2.2.trans h.2⟩
theorem only.I {L : List Nat} {σ σ1 : HS} {i k : Nat} {v : Int32} (h : only L σ σ1) (hi : i ∈ L) : only L σ (hI σ1 i k v) := ⟨fun q hq => (va_up_ne _ _ (show q ≠ i from fun e => hq (by rw [e]; exact hi))).trans (h.1 q hq), h.2⟩
theorem only.mono {L L1 : List Nat} {σ σ1 : HS} (h : only L σ σ1) (hL : ∀ q, q ∈ L → q ∈ L1) : only L1 σ σ1 := ⟨fun q hq => h.1 q (fun e => hq (hL q e)), h.2⟩
theorem hI_s {σ : HS} {i k : Nat} {v : Int32} : (hI σ i k v).1 i k = v := by
  show va_up σ.1 i (upd (σ.1 i) k v) i k = v
  rw [va_up_self]
  exact pk_us
theorem hI_n {σ : HS} {i k j : Nat} {v : Int32} (h : j ≠ k) : (hI σ i k v).1 i j = σ.1 i j := by
  show va_up σ.1 i (upd (σ.1 i) k v) i j = σ.1 i j
  rw [va_up_self]
  exact pk_un h
theorem hI_o {σ : HS} {i k a : Nat} {v : Int32} (h : a ≠ i) : (hI σ i k v).1 a = σ.1 a := va_up_ne _ _ h
def kb_cX10_hasThing_0 : List Nat := [27, 155, 0, 15, 27, 42, 180, 0, 38, 162, 0, 7, 4, 167, 0, 4, 3, 172]
theorem ac_cX10_hasThing_0 : AL cX10_hasThing 0 kb_cX10_hasThing_0 := AL.of (m := 18) (by decide +kernel)
theorem dX10_hasThing_0 : decode cX10_hasThing 0 = .ok (.iload_n 1, 1) := o27 ac_cX10_hasThing_0 0 rfl
theorem dX10_hasThing_1 : decode cX10_hasThing 1 = .ok (.ifCond .lt 15, 3) := o155p ac_cX10_hasThing_0 1 0 15 rfl rfl
theorem dX10_hasThing_4 : decode cX10_hasThing 4 = .ok (.iload_n 1, 1) := o27 ac_cX10_hasThing_0 4 rfl
theorem dX10_hasThing_5 : decode cX10_hasThing 5 = .ok (.aload_n 0, 1) := o42 ac_cX10_hasThing_0 5 rfl
theorem dX10_hasThing_6 : decode cX10_hasThing 6 = .ok (.getfield 38, 3) := o180 ac_cX10_hasThing_0 6 0 38 rfl
theorem dX10_hasThing_9 : decode cX10_hasThing 9 = .ok (.if_icmp .ge 7, 3) := o162p ac_cX10_hasThing_0 9 0 7 rfl rfl
def kb_cX10_hasThing_16 : List Nat := [3, 172]
theorem ac_cX10_hasThing_16 : AL cX10_hasThing 16 kb_cX10_hasThing_16 := AL.of (m := 2) (by decide +kernel)
theorem dX10_hasThing_16 : decode cX10_hasThing 16 = .ok (.iconst 0, 1) := o3 ac_cX10_hasThing_16 0 rfl
theorem dX10_hasThing_17 : decode cX10_hasThing 17 = .ok (.ireturn, 1) := o172 ac_cX10_hasThing_16 1 rfl
def kb_cX10_hasPattern_0 : List Nat := [27, 155, 0, 15, 27, 42, 180, 0, 42, 162, 0, 7, 4, 167, 0, 4, 3, 172]
theorem ac_cX10_hasPattern_0 : AL cX10_hasPattern 0 kb_cX10_hasPattern_0 := AL.of (m := 18) (by decide +kernel)
theorem dX10_hasPattern_0 : decode cX10_hasPattern 0 = .ok (.iload_n 1, 1) := o27 ac_cX10_hasPattern_0 0 rfl
theorem dX10_hasPattern_1 : decode cX10_hasPattern 1 = .ok (.ifCond .lt 15, 3) := o155p ac_cX10_hasPattern_0 1 0 15 rfl rfl
theorem dX10_hasPattern_4 : decode cX10_hasPattern 4 = .ok (.iload_n 1, 1) := o27 ac_cX10_hasPattern_0 4 rfl
theorem dX10_hasPattern_5 : decode cX10_hasPattern 5 = .ok (.aload_n 0, 1) := o42 ac_cX10_hasPattern_0 5 rfl
theorem dX10_hasPattern_6 : decode cX10_hasPattern 6 = .ok (.getfield 42, 3) := o180 ac_cX10_hasPattern_0 6 0 42 rfl
theorem dX10_hasPattern_9 : decode cX10_hasPattern 9 = .ok (.if_icmp .ge 7, 3) := o162p ac_cX10_hasPattern_0 9 0 7 rfl rfl
def kb_cX10_hasPattern_16 : List Nat := [3, 172]
theorem ac_cX10_hasPattern_16 : AL cX10_hasPattern 16 kb_cX10_hasPattern_16 := AL.of (m := 2) (by decide +kernel)
theorem dX10_hasPattern_16 : decode cX10_hasPattern 16 = .ok (.iconst 0, 1) := o3 ac_cX10_hasPattern_16 0 rfl
theorem dX10_hasPattern_17 : decode cX10_hasPattern 17 = .ok (.ireturn, 1) := o172 ac_cX10_hasPattern_16 1 rfl
def kb_cJ6_bitCount_0f7a4_0 : List Nat := [26, 26, 4, 124, 19, 1, 9, 126, 100, 59, 26, 19, 1, 10, 126, 26, 5, 124, 19, 1]
theorem ac_cJ6_bitCount_0f7a4_0 : AL cJ6_bitCount_0f7a4 0 kb_cJ6_bitCount_0f7a4_0 := AL.of (m := 20) (by decide +kernel)
theorem dJ6_bitCount_0f7a4_0 : decode cJ6_bitCount_0f7a4 0 = .ok (.iload_n 0, 1) := o26 ac_cJ6_bitCount_0f7a4_0 0 rfl
theorem dJ6_bitCount_0f7a4_1 : decode cJ6_bitCount_0f7a4 1 = .ok (.iload_n 0, 1) := o26 ac_cJ6_bitCount_0f7a4_0 1 rfl
theorem dJ6_bitCount_0f7a4_2 : decode cJ6_bitCount_0f7a4 2 = .ok (.iconst 1, 1) := o4 ac_cJ6_bitCount_0f7a4_0 2 rfl
theorem dJ6_bitCount_0f7a4_3 : decode cJ6_bitCount_0f7a4 3 = .ok (.iushr, 1) := o124 ac_cJ6_bitCount_0f7a4_0 3 rfl
theorem dJ6_bitCount_0f7a4_4 : decode cJ6_bitCount_0f7a4 4 = .ok (.ldc_w 265, 3) := o19 ac_cJ6_bitCount_0f7a4_0 4 1 9 rfl
theorem dJ6_bitCount_0f7a4_7 : decode cJ6_bitCount_0f7a4 7 = .ok (.iand, 1) := o126 ac_cJ6_bitCount_0f7a4_0 7 rfl
theorem dJ6_bitCount_0f7a4_8 : decode cJ6_bitCount_0f7a4 8 = .ok (.isub, 1) := o100 ac_cJ6_bitCount_0f7a4_0 8 rfl
theorem dJ6_bitCount_0f7a4_9 : decode cJ6_bitCount_0f7a4 9 = .ok (.istore_n 0, 1) := o59 ac_cJ6_bitCount_0f7a4_0 9 rfl
theorem dJ6_bitCount_0f7a4_10 : decode cJ6_bitCount_0f7a4 10 = .ok (.iload_n 0, 1) := o26 ac_cJ6_bitCount_0f7a4_0 10 rfl
theorem dJ6_bitCount_0f7a4_11 : decode cJ6_bitCount_0f7a4 11 = .ok (.ldc_w 266, 3) := o19 ac_cJ6_bitCount_0f7a4_0 11 1 10 rfl
theorem dJ6_bitCount_0f7a4_14 : decode cJ6_bitCount_0f7a4 14 = .ok (.iand, 1) := o126 ac_cJ6_bitCount_0f7a4_0 14 rfl
theorem dJ6_bitCount_0f7a4_15 : decode cJ6_bitCount_0f7a4 15 = .ok (.iload_n 0, 1) := o26 ac_cJ6_bitCount_0f7a4_0 15 rfl
def kb_cJ6_bitCount_0f7a4_16 : List Nat := [5, 124, 19, 1, 10, 126, 96, 59, 26, 26, 7, 124, 96, 19, 1, 11, 126, 59, 26, 26]
theorem ac_cJ6_bitCount_0f7a4_16 : AL cJ6_bitCount_0f7a4 16 kb_cJ6_bitCount_0f7a4_16 := AL.of (m := 20) (by decide +kernel)
theorem dJ6_bitCount_0f7a4_16 : decode cJ6_bitCount_0f7a4 16 = .ok (.iconst 2, 1) := o5 ac_cJ6_bitCount_0f7a4_16 0 rfl
theorem dJ6_bitCount_0f7a4_17 : decode cJ6_bitCount_0f7a4 17 = .ok (.iushr, 1) := o124 ac_cJ6_bitCount_0f7a4_16 1 rfl
theorem dJ6_bitCount_0f7a4_18 : decode cJ6_bitCount_0f7a4 18 = .ok (.ldc_w 266, 3) := o19 ac_cJ6_bitCount_0f7a4_16 2 1 10 rfl
theorem dJ6_bitCount_0f7a4_21 : decode cJ6_bitCount_0f7a4 21 = .ok (.iand, 1) := o126 ac_cJ6_bitCount_0f7a4_16 5 rfl
theorem dJ6_bitCount_0f7a4_22 : decode cJ6_bitCount_0f7a4 22 = .ok (.iadd, 1) := o96 ac_cJ6_bitCount_0f7a4_16 6 rfl
theorem dJ6_bitCount_0f7a4_23 : decode cJ6_bitCount_0f7a4 23 = .ok (.istore_n 0, 1) := o59 ac_cJ6_bitCount_0f7a4_16 7 rfl
theorem dJ6_bitCount_0f7a4_24 : decode cJ6_bitCount_0f7a4 24 = .ok (.iload_n 0, 1) := o26 ac_cJ6_bitCount_0f7a4_16 8 rfl
theorem dJ6_bitCount_0f7a4_25 : decode cJ6_bitCount_0f7a4 25 = .ok (.iload_n 0, 1) := o26 ac_cJ6_bitCount_0f7a4_16 9 rfl
theorem dJ6_bitCount_0f7a4_26 : decode cJ6_bitCount_0f7a4 26 = .ok (.iconst 4, 1) := o7 ac_cJ6_bitCount_0f7a4_16 10 rfl
theorem dJ6_bitCount_0f7a4_27 : decode cJ6_bitCount_0f7a4 27 = .ok (.iushr, 1) := o124 ac_cJ6_bitCount_0f7a4_16 11 rfl
theorem dJ6_bitCount_0f7a4_28 : decode cJ6_bitCount_0f7a4 28 = .ok (.iadd, 1) := o96 ac_cJ6_bitCount_0f7a4_16 12 rfl
theorem dJ6_bitCount_0f7a4_29 : decode cJ6_bitCount_0f7a4 29 = .ok (.ldc_w 267, 3) := o19 ac_cJ6_bitCount_0f7a4_16 13 1 11 rfl
def kb_cJ6_bitCount_0f7a4_32 : List Nat := [126, 59, 26, 26, 16, 8, 124, 96, 59, 26, 26, 16, 16, 124, 96, 59, 26, 16, 63, 126]
theorem ac_cJ6_bitCount_0f7a4_32 : AL cJ6_bitCount_0f7a4 32 kb_cJ6_bitCount_0f7a4_32 := AL.of (m := 20) (by decide +kernel)
theorem dJ6_bitCount_0f7a4_32 : decode cJ6_bitCount_0f7a4 32 = .ok (.iand, 1) := o126 ac_cJ6_bitCount_0f7a4_32 0 rfl
theorem dJ6_bitCount_0f7a4_33 : decode cJ6_bitCount_0f7a4 33 = .ok (.istore_n 0, 1) := o59 ac_cJ6_bitCount_0f7a4_32 1 rfl
theorem dJ6_bitCount_0f7a4_34 : decode cJ6_bitCount_0f7a4 34 = .ok (.iload_n 0, 1) := o26 ac_cJ6_bitCount_0f7a4_32 2 rfl
theorem dJ6_bitCount_0f7a4_35 : decode cJ6_bitCount_0f7a4 35 = .ok (.iload_n 0, 1) := o26 ac_cJ6_bitCount_0f7a4_32 3 rfl
theorem dJ6_bitCount_0f7a4_36 : decode cJ6_bitCount_0f7a4 36 = .ok (.bipush 8, 2) := o16p ac_cJ6_bitCount_0f7a4_32 4 8 rfl rfl
theorem dJ6_bitCount_0f7a4_38 : decode cJ6_bitCount_0f7a4 38 = .ok (.iushr, 1) := o124 ac_cJ6_bitCount_0f7a4_32 6 rfl
theorem dJ6_bitCount_0f7a4_39 : decode cJ6_bitCount_0f7a4 39 = .ok (.iadd, 1) := o96 ac_cJ6_bitCount_0f7a4_32 7 rfl
theorem dJ6_bitCount_0f7a4_40 : decode cJ6_bitCount_0f7a4 40 = .ok (.istore_n 0, 1) := o59 ac_cJ6_bitCount_0f7a4_32 8 rfl
theorem dJ6_bitCount_0f7a4_41 : decode cJ6_bitCount_0f7a4 41 = .ok (.iload_n 0, 1) := o26 ac_cJ6_bitCount_0f7a4_32 9 rfl
theorem dJ6_bitCount_0f7a4_42 : decode cJ6_bitCount_0f7a4 42 = .ok (.iload_n 0, 1) := o26 ac_cJ6_bitCount_0f7a4_32 10 rfl
theorem dJ6_bitCount_0f7a4_43 : decode cJ6_bitCount_0f7a4 43 = .ok (.bipush 16, 2) := o16p ac_cJ6_bitCount_0f7a4_32 11 16 rfl rfl
theorem dJ6_bitCount_0f7a4_45 : decode cJ6_bitCount_0f7a4 45 = .ok (.iushr, 1) := o124 ac_cJ6_bitCount_0f7a4_32 13 rfl
theorem dJ6_bitCount_0f7a4_46 : decode cJ6_bitCount_0f7a4 46 = .ok (.iadd, 1) := o96 ac_cJ6_bitCount_0f7a4_32 14 rfl
theorem dJ6_bitCount_0f7a4_47 : decode cJ6_bitCount_0f7a4 47 = .ok (.istore_n 0, 1) := o59 ac_cJ6_bitCount_0f7a4_32 15 rfl
def kb_cJ6_bitCount_0f7a4_48 : List Nat := [26, 16, 63, 126, 172]
theorem ac_cJ6_bitCount_0f7a4_48 : AL cJ6_bitCount_0f7a4 48 kb_cJ6_bitCount_0f7a4_48 := AL.of (m := 5) (by decide +kernel)
theorem dJ6_bitCount_0f7a4_48 : decode cJ6_bitCount_0f7a4 48 = .ok (.iload_n 0, 1) := o26 ac_cJ6_bitCount_0f7a4_48 0 rfl
theorem dJ6_bitCount_0f7a4_49 : decode cJ6_bitCount_0f7a4 49 = .ok (.bipush 63, 2) := o16p ac_cJ6_bitCount_0f7a4_48 1 63 rfl rfl
theorem dJ6_bitCount_0f7a4_51 : decode cJ6_bitCount_0f7a4 51 = .ok (.iand, 1) := o126 ac_cJ6_bitCount_0f7a4_48 3 rfl
theorem dJ6_bitCount_0f7a4_52 : decode cJ6_bitCount_0f7a4 52 = .ok (.ireturn, 1) := o172 ac_cJ6_bitCount_0f7a4_48 4 rfl
def kb_cX0_firstLanding_0 : List Nat := [3, 60, 27, 42, 180, 0, 33, 162, 0, 19, 42, 27, 182, 0, 79, 153, 0, 5, 27, 172]
theorem ac_cX0_firstLanding_0 : AL cX0_firstLanding 0 kb_cX0_firstLanding_0 := AL.of (m := 20) (by decide +kernel)
theorem dX0_firstLanding_0 : decode cX0_firstLanding 0 = .ok (.iconst 0, 1) := o3 ac_cX0_firstLanding_0 0 rfl
theorem dX0_firstLanding_1 : decode cX0_firstLanding 1 = .ok (.istore_n 1, 1) := o60 ac_cX0_firstLanding_0 1 rfl
theorem dX0_firstLanding_2 : decode cX0_firstLanding 2 = .ok (.iload_n 1, 1) := o27 ac_cX0_firstLanding_0 2 rfl
theorem dX0_firstLanding_3 : decode cX0_firstLanding 3 = .ok (.aload_n 0, 1) := o42 ac_cX0_firstLanding_0 3 rfl
theorem dX0_firstLanding_4 : decode cX0_firstLanding 4 = .ok (.getfield 33, 3) := o180 ac_cX0_firstLanding_0 4 0 33 rfl
theorem dX0_firstLanding_7 : decode cX0_firstLanding 7 = .ok (.if_icmp .ge 19, 3) := o162p ac_cX0_firstLanding_0 7 0 19 rfl rfl
def kb_cX0_firstLanding_16 : List Nat := [0, 5, 27, 172, 132, 1, 1, 167, 255, 235, 2, 172]
theorem ac_cX0_firstLanding_16 : AL cX0_firstLanding 16 kb_cX0_firstLanding_16 := AL.of (m := 12) (by decide +kernel)
theorem dX0_firstLanding_26 : decode cX0_firstLanding 26 = .ok (.iconst (-1), 1) := o2 ac_cX0_firstLanding_16 10 rfl
theorem dX0_firstLanding_27 : decode cX0_firstLanding 27 = .ok (.ireturn, 1) := o172 ac_cX0_firstLanding_16 11 rfl
def kb_cX0_howManyLand_0 : List Nat := [3, 60, 3, 61, 28, 42, 180, 0, 33, 162, 0, 20, 42, 28, 182, 0, 79, 153, 0, 6]
theorem ac_cX0_howManyLand_0 : AL cX0_howManyLand 0 kb_cX0_howManyLand_0 := AL.of (m := 20) (by decide +kernel)
theorem dX0_howManyLand_0 : decode cX0_howManyLand 0 = .ok (.iconst 0, 1) := o3 ac_cX0_howManyLand_0 0 rfl
theorem dX0_howManyLand_1 : decode cX0_howManyLand 1 = .ok (.istore_n 1, 1) := o60 ac_cX0_howManyLand_0 1 rfl
theorem dX0_howManyLand_2 : decode cX0_howManyLand 2 = .ok (.iconst 0, 1) := o3 ac_cX0_howManyLand_0 2 rfl
theorem dX0_howManyLand_3 : decode cX0_howManyLand 3 = .ok (.istore_n 2, 1) := o61 ac_cX0_howManyLand_0 3 rfl
theorem dX0_howManyLand_4 : decode cX0_howManyLand 4 = .ok (.iload_n 2, 1) := o28 ac_cX0_howManyLand_0 4 rfl
theorem dX0_howManyLand_5 : decode cX0_howManyLand 5 = .ok (.aload_n 0, 1) := o42 ac_cX0_howManyLand_0 5 rfl
theorem dX0_howManyLand_6 : decode cX0_howManyLand 6 = .ok (.getfield 33, 3) := o180 ac_cX0_howManyLand_0 6 0 33 rfl
theorem dX0_howManyLand_9 : decode cX0_howManyLand 9 = .ok (.if_icmp .ge 20, 3) := o162p ac_cX0_howManyLand_0 9 0 20 rfl rfl
def kb_cX0_howManyLand_16 : List Nat := [79, 153, 0, 6, 132, 1, 1, 132, 2, 1, 167, 255, 234, 27, 172]
theorem ac_cX0_howManyLand_16 : AL cX0_howManyLand 16 kb_cX0_howManyLand_16 := AL.of (m := 15) (by decide +kernel)
theorem dX0_howManyLand_29 : decode cX0_howManyLand 29 = .ok (.iload_n 1, 1) := o27 ac_cX0_howManyLand_16 13 rfl
theorem dX0_howManyLand_30 : decode cX0_howManyLand 30 = .ok (.ireturn, 1) := o172 ac_cX0_howManyLand_16 14 rfl
def kb_cX0_landingBits_0 : List Nat := [3, 60, 3, 61, 28, 42, 180, 0, 33, 162, 0, 28, 42, 28, 182, 0, 83, 153, 0, 14]
theorem ac_cX0_landingBits_0 : AL cX0_landingBits 0 kb_cX0_landingBits_0 := AL.of (m := 20) (by decide +kernel)
theorem dX0_landingBits_0 : decode cX0_landingBits 0 = .ok (.iconst 0, 1) := o3 ac_cX0_landingBits_0 0 rfl
theorem dX0_landingBits_1 : decode cX0_landingBits 1 = .ok (.istore_n 1, 1) := o60 ac_cX0_landingBits_0 1 rfl
theorem dX0_landingBits_2 : decode cX0_landingBits 2 = .ok (.iconst 0, 1) := o3 ac_cX0_landingBits_0 2 rfl
theorem dX0_landingBits_3 : decode cX0_landingBits 3 = .ok (.istore_n 2, 1) := o61 ac_cX0_landingBits_0 3 rfl
theorem dX0_landingBits_4 : decode cX0_landingBits 4 = .ok (.iload_n 2, 1) := o28 ac_cX0_landingBits_0 4 rfl
theorem dX0_landingBits_5 : decode cX0_landingBits 5 = .ok (.aload_n 0, 1) := o42 ac_cX0_landingBits_0 5 rfl
theorem dX0_landingBits_6 : decode cX0_landingBits 6 = .ok (.getfield 33, 3) := o180 ac_cX0_landingBits_0 6 0 33 rfl
theorem dX0_landingBits_9 : decode cX0_landingBits 9 = .ok (.if_icmp .ge 28, 3) := o162p ac_cX0_landingBits_0 9 0 28 rfl rfl
def kb_cX0_landingBits_32 : List Nat := [2, 1, 167, 255, 226, 27, 172]
theorem ac_cX0_landingBits_32 : AL cX0_landingBits 32 kb_cX0_landingBits_32 := AL.of (m := 7) (by decide +kernel)
theorem dX0_landingBits_37 : decode cX0_landingBits 37 = .ok (.iload_n 1, 1) := o27 ac_cX0_landingBits_32 5 rfl
theorem dX0_landingBits_38 : decode cX0_landingBits 38 = .ok (.ireturn, 1) := o172 ac_cX0_landingBits_32 6 rfl
def kb_cX0_bitsOf_0 : List Nat := [3, 61, 3, 62, 29, 42, 180, 0, 33, 162, 0, 25, 42, 180, 0, 9, 29, 46, 27, 160]
theorem ac_cX0_bitsOf_0 : AL cX0_bitsOf 0 kb_cX0_bitsOf_0 := AL.of (m := 20) (by decide +kernel)
theorem dX0_bitsOf_0 : decode cX0_bitsOf 0 = .ok (.iconst 0, 1) := o3 ac_cX0_bitsOf_0 0 rfl
theorem dX0_bitsOf_1 : decode cX0_bitsOf 1 = .ok (.istore_n 2, 1) := o61 ac_cX0_bitsOf_0 1 rfl
theorem dX0_bitsOf_2 : decode cX0_bitsOf 2 = .ok (.iconst 0, 1) := o3 ac_cX0_bitsOf_0 2 rfl
theorem dX0_bitsOf_3 : decode cX0_bitsOf 3 = .ok (.istore_n 3, 1) := o62 ac_cX0_bitsOf_0 3 rfl
theorem dX0_bitsOf_4 : decode cX0_bitsOf 4 = .ok (.iload_n 3, 1) := o29 ac_cX0_bitsOf_0 4 rfl
theorem dX0_bitsOf_5 : decode cX0_bitsOf 5 = .ok (.aload_n 0, 1) := o42 ac_cX0_bitsOf_0 5 rfl
theorem dX0_bitsOf_6 : decode cX0_bitsOf 6 = .ok (.getfield 33, 3) := o180 ac_cX0_bitsOf_0 6 0 33 rfl
theorem dX0_bitsOf_9 : decode cX0_bitsOf 9 = .ok (.if_icmp .ge 25, 3) := o162p ac_cX0_bitsOf_0 9 0 25 rfl rfl
def kb_cX0_bitsOf_32 : List Nat := [255, 229, 28, 172]
theorem ac_cX0_bitsOf_32 : AL cX0_bitsOf 32 kb_cX0_bitsOf_32 := AL.of (m := 4) (by decide +kernel)
theorem dX0_bitsOf_34 : decode cX0_bitsOf 34 = .ok (.iload_n 2, 1) := o28 ac_cX0_bitsOf_32 2 rfl
theorem dX0_bitsOf_35 : decode cX0_bitsOf 35 = .ok (.ireturn, 1) := o172 ac_cX0_bitsOf_32 3 rfl
def kb_cX0_howManyUp_0 : List Nat := [42, 3, 182, 0, 70, 184, 0, 74, 172]
theorem ac_cX0_howManyUp_0 : AL cX0_howManyUp 0 kb_cX0_howManyUp_0 := AL.of (m := 9) (by decide +kernel)
theorem dX0_howManyUp_0 : decode cX0_howManyUp 0 = .ok (.aload_n 0, 1) := o42 ac_cX0_howManyUp_0 0 rfl
theorem dX0_howManyUp_1 : decode cX0_howManyUp 1 = .ok (.iconst 0, 1) := o3 ac_cX0_howManyUp_0 1 rfl
theorem dX0_howManyUp_2 : decode cX0_howManyUp 2 = .ok (.invokevirtual 70, 3) := o182 ac_cX0_howManyUp_0 2 0 70 rfl
theorem dX0_howManyUp_5 : decode cX0_howManyUp 5 = .ok (.invokestatic 74, 3) := o184 ac_cX0_howManyUp_0 5 0 74 rfl
theorem dX0_howManyUp_8 : decode cX0_howManyUp 8 = .ok (.ireturn, 1) := o172 ac_cX0_howManyUp_0 8 rfl
def kb_cX0_heightBy_0 : List Nat := [42, 180, 0, 25, 2, 159, 0, 8, 42, 180, 0, 25, 172, 43, 42, 180, 0, 21, 182, 0]
theorem ac_cX0_heightBy_0 : AL cX0_heightBy 0 kb_cX0_heightBy_0 := AL.of (m := 20) (by decide +kernel)
theorem dX0_heightBy_0 : decode cX0_heightBy 0 = .ok (.aload_n 0, 1) := o42 ac_cX0_heightBy_0 0 rfl
theorem dX0_heightBy_1 : decode cX0_heightBy 1 = .ok (.getfield 25, 3) := o180 ac_cX0_heightBy_0 1 0 25 rfl
theorem dX0_heightBy_4 : decode cX0_heightBy 4 = .ok (.iconst (-1), 1) := o2 ac_cX0_heightBy_0 4 rfl
theorem dX0_heightBy_5 : decode cX0_heightBy 5 = .ok (.if_icmp .eq 8, 3) := o159p ac_cX0_heightBy_0 5 0 8 rfl rfl
theorem dX0_heightBy_13 : decode cX0_heightBy 13 = .ok (.aload_n 1, 1) := o43 ac_cX0_heightBy_0 13 rfl
theorem dX0_heightBy_14 : decode cX0_heightBy 14 = .ok (.aload_n 0, 1) := o42 ac_cX0_heightBy_0 14 rfl
theorem dX0_heightBy_15 : decode cX0_heightBy 15 = .ok (.getfield 21, 3) := o180 ac_cX0_heightBy_0 15 0 21 rfl
def kb_cX0_heightBy_16 : List Nat := [0, 21, 182, 0, 93, 153, 0, 16, 43, 180, 0, 96, 42, 180, 0, 21, 46, 4, 162, 0]
theorem ac_cX0_heightBy_16 : AL cX0_heightBy 16 kb_cX0_heightBy_16 := AL.of (m := 20) (by decide +kernel)
theorem dX0_heightBy_18 : decode cX0_heightBy 18 = .ok (.invokevirtual 93, 3) := o182 ac_cX0_heightBy_16 2 0 93 rfl
theorem dX0_heightBy_21 : decode cX0_heightBy 21 = .ok (.ifCond .eq 16, 3) := o153p ac_cX0_heightBy_16 5 0 16 rfl rfl
def kb_cX0_heightBy_32 : List Nat := [46, 4, 162, 0, 5, 6, 172, 43, 180, 0, 99, 42, 180, 0, 21, 50, 42, 180, 0, 49]
theorem ac_cX0_heightBy_32 : AL cX0_heightBy 32 kb_cX0_heightBy_32 := AL.of (m := 20) (by decide +kernel)
theorem dX0_heightBy_37 : decode cX0_heightBy 37 = .ok (.iconst 3, 1) := o6 ac_cX0_heightBy_32 5 rfl
theorem dX0_heightBy_38 : decode cX0_heightBy 38 = .ok (.ireturn, 1) := o172 ac_cX0_heightBy_32 6 rfl
def kb_cX0_copy_0 : List Nat := [42, 43, 180, 0, 33, 181, 0, 33, 43, 180, 0, 9, 3, 42, 180, 0, 9, 3, 16, 7]
theorem ac_cX0_copy_0 : AL cX0_copy 0 kb_cX0_copy_0 := AL.of (m := 20) (by decide +kernel)
theorem dX0_copy_0 : decode cX0_copy 0 = .ok (.aload_n 0, 1) := o42 ac_cX0_copy_0 0 rfl
theorem dX0_copy_1 : decode cX0_copy 1 = .ok (.aload_n 1, 1) := o43 ac_cX0_copy_0 1 rfl
theorem dX0_copy_2 : decode cX0_copy 2 = .ok (.getfield 33, 3) := o180 ac_cX0_copy_0 2 0 33 rfl
theorem dX0_copy_5 : decode cX0_copy 5 = .ok (.putfield 33, 3) := o181 ac_cX0_copy_0 5 0 33 rfl
theorem dX0_copy_8 : decode cX0_copy 8 = .ok (.aload_n 1, 1) := o43 ac_cX0_copy_0 8 rfl
theorem dX0_copy_9 : decode cX0_copy 9 = .ok (.getfield 9, 3) := o180 ac_cX0_copy_0 9 0 9 rfl
theorem dX0_copy_12 : decode cX0_copy 12 = .ok (.iconst 0, 1) := o3 ac_cX0_copy_0 12 rfl
theorem dX0_copy_13 : decode cX0_copy 13 = .ok (.aload_n 0, 1) := o42 ac_cX0_copy_0 13 rfl
theorem dX0_copy_14 : decode cX0_copy 14 = .ok (.getfield 9, 3) := o180 ac_cX0_copy_0 14 0 9 rfl
def kb_cX0_copy_16 : List Nat := [9, 3, 16, 7, 184, 0, 43, 43, 180, 0, 15, 3, 42, 180, 0, 15, 3, 16, 7, 184]
theorem ac_cX0_copy_16 : AL cX0_copy 16 kb_cX0_copy_16 := AL.of (m := 20) (by decide +kernel)
theorem dX0_copy_17 : decode cX0_copy 17 = .ok (.iconst 0, 1) := o3 ac_cX0_copy_16 1 rfl
theorem dX0_copy_18 : decode cX0_copy 18 = .ok (.bipush 7, 2) := o16p ac_cX0_copy_16 2 7 rfl rfl
theorem dX0_copy_20 : decode cX0_copy 20 = .ok (.invokestatic 43, 3) := o184 ac_cX0_copy_16 4 0 43 rfl
theorem dX0_copy_23 : decode cX0_copy 23 = .ok (.aload_n 1, 1) := o43 ac_cX0_copy_16 7 rfl
theorem dX0_copy_24 : decode cX0_copy 24 = .ok (.getfield 15, 3) := o180 ac_cX0_copy_16 8 0 15 rfl
theorem dX0_copy_27 : decode cX0_copy 27 = .ok (.iconst 0, 1) := o3 ac_cX0_copy_16 11 rfl
theorem dX0_copy_28 : decode cX0_copy 28 = .ok (.aload_n 0, 1) := o42 ac_cX0_copy_16 12 rfl
theorem dX0_copy_29 : decode cX0_copy 29 = .ok (.getfield 15, 3) := o180 ac_cX0_copy_16 13 0 15 rfl
def kb_cX0_copy_32 : List Nat := [3, 16, 7, 184, 0, 43, 43, 180, 0, 18, 3, 42, 180, 0, 18, 3, 16, 7, 184, 0]
theorem ac_cX0_copy_32 : AL cX0_copy 32 kb_cX0_copy_32 := AL.of (m := 20) (by decide +kernel)
theorem dX0_copy_32 : decode cX0_copy 32 = .ok (.iconst 0, 1) := o3 ac_cX0_copy_32 0 rfl
theorem dX0_copy_33 : decode cX0_copy 33 = .ok (.bipush 7, 2) := o16p ac_cX0_copy_32 1 7 rfl rfl
theorem dX0_copy_35 : decode cX0_copy 35 = .ok (.invokestatic 43, 3) := o184 ac_cX0_copy_32 3 0 43 rfl
theorem dX0_copy_38 : decode cX0_copy 38 = .ok (.aload_n 1, 1) := o43 ac_cX0_copy_32 6 rfl
theorem dX0_copy_39 : decode cX0_copy 39 = .ok (.getfield 18, 3) := o180 ac_cX0_copy_32 7 0 18 rfl
theorem dX0_copy_42 : decode cX0_copy 42 = .ok (.iconst 0, 1) := o3 ac_cX0_copy_32 10 rfl
theorem dX0_copy_43 : decode cX0_copy 43 = .ok (.aload_n 0, 1) := o42 ac_cX0_copy_32 11 rfl
theorem dX0_copy_44 : decode cX0_copy 44 = .ok (.getfield 18, 3) := o180 ac_cX0_copy_32 12 0 18 rfl
theorem dX0_copy_47 : decode cX0_copy 47 = .ok (.iconst 0, 1) := o3 ac_cX0_copy_32 15 rfl
def kb_cX0_copy_48 : List Nat := [16, 7, 184, 0, 43, 42, 43, 180, 0, 49, 181, 0, 49, 42, 43, 180, 0, 52, 181, 0]
theorem ac_cX0_copy_48 : AL cX0_copy 48 kb_cX0_copy_48 := AL.of (m := 20) (by decide +kernel)
theorem dX0_copy_48 : decode cX0_copy 48 = .ok (.bipush 7, 2) := o16p ac_cX0_copy_48 0 7 rfl rfl
theorem dX0_copy_50 : decode cX0_copy 50 = .ok (.invokestatic 43, 3) := o184 ac_cX0_copy_48 2 0 43 rfl
theorem dX0_copy_53 : decode cX0_copy 53 = .ok (.aload_n 0, 1) := o42 ac_cX0_copy_48 5 rfl
theorem dX0_copy_54 : decode cX0_copy 54 = .ok (.aload_n 1, 1) := o43 ac_cX0_copy_48 6 rfl
theorem dX0_copy_55 : decode cX0_copy 55 = .ok (.getfield 49, 3) := o180 ac_cX0_copy_48 7 0 49 rfl
theorem dX0_copy_58 : decode cX0_copy 58 = .ok (.putfield 49, 3) := o181 ac_cX0_copy_48 10 0 49 rfl
theorem dX0_copy_61 : decode cX0_copy 61 = .ok (.aload_n 0, 1) := o42 ac_cX0_copy_48 13 rfl
theorem dX0_copy_62 : decode cX0_copy 62 = .ok (.aload_n 1, 1) := o43 ac_cX0_copy_48 14 rfl
theorem dX0_copy_63 : decode cX0_copy 63 = .ok (.getfield 52, 3) := o180 ac_cX0_copy_48 15 0 52 rfl
def kb_cX0_copy_64 : List Nat := [0, 52, 181, 0, 52, 42, 43, 180, 0, 55, 181, 0, 55, 42, 43, 180, 0, 58, 181, 0]
theorem ac_cX0_copy_64 : AL cX0_copy 64 kb_cX0_copy_64 := AL.of (m := 20) (by decide +kernel)
theorem dX0_copy_66 : decode cX0_copy 66 = .ok (.putfield 52, 3) := o181 ac_cX0_copy_64 2 0 52 rfl
theorem dX0_copy_69 : decode cX0_copy 69 = .ok (.aload_n 0, 1) := o42 ac_cX0_copy_64 5 rfl
theorem dX0_copy_70 : decode cX0_copy 70 = .ok (.aload_n 1, 1) := o43 ac_cX0_copy_64 6 rfl
theorem dX0_copy_71 : decode cX0_copy 71 = .ok (.getfield 55, 3) := o180 ac_cX0_copy_64 7 0 55 rfl
theorem dX0_copy_74 : decode cX0_copy 74 = .ok (.putfield 55, 3) := o181 ac_cX0_copy_64 10 0 55 rfl
theorem dX0_copy_77 : decode cX0_copy 77 = .ok (.aload_n 0, 1) := o42 ac_cX0_copy_64 13 rfl
theorem dX0_copy_78 : decode cX0_copy 78 = .ok (.aload_n 1, 1) := o43 ac_cX0_copy_64 14 rfl
theorem dX0_copy_79 : decode cX0_copy 79 = .ok (.getfield 58, 3) := o180 ac_cX0_copy_64 15 0 58 rfl
def kb_cX0_copy_80 : List Nat := [0, 58, 181, 0, 58, 42, 43, 180, 0, 61, 181, 0, 61, 42, 43, 180, 0, 21, 181, 0]
theorem ac_cX0_copy_80 : AL cX0_copy 80 kb_cX0_copy_80 := AL.of (m := 20) (by decide +kernel)
theorem dX0_copy_82 : decode cX0_copy 82 = .ok (.putfield 58, 3) := o181 ac_cX0_copy_80 2 0 58 rfl
theorem dX0_copy_85 : decode cX0_copy 85 = .ok (.aload_n 0, 1) := o42 ac_cX0_copy_80 5 rfl
theorem dX0_copy_86 : decode cX0_copy 86 = .ok (.aload_n 1, 1) := o43 ac_cX0_copy_80 6 rfl
theorem dX0_copy_87 : decode cX0_copy 87 = .ok (.getfield 61, 3) := o180 ac_cX0_copy_80 7 0 61 rfl
theorem dX0_copy_90 : decode cX0_copy 90 = .ok (.putfield 61, 3) := o181 ac_cX0_copy_80 10 0 61 rfl
theorem dX0_copy_93 : decode cX0_copy 93 = .ok (.aload_n 0, 1) := o42 ac_cX0_copy_80 13 rfl
theorem dX0_copy_94 : decode cX0_copy 94 = .ok (.aload_n 1, 1) := o43 ac_cX0_copy_80 14 rfl
theorem dX0_copy_95 : decode cX0_copy 95 = .ok (.getfield 21, 3) := o180 ac_cX0_copy_80 15 0 21 rfl
def kb_cX0_copy_96 : List Nat := [0, 21, 181, 0, 21, 42, 43, 180, 0, 67, 181, 0, 67, 42, 43, 180, 0, 25, 181, 0]
theorem ac_cX0_copy_96 : AL cX0_copy 96 kb_cX0_copy_96 := AL.of (m := 20) (by decide +kernel)
theorem dX0_copy_98 : decode cX0_copy 98 = .ok (.putfield 21, 3) := o181 ac_cX0_copy_96 2 0 21 rfl
theorem dX0_copy_101 : decode cX0_copy 101 = .ok (.aload_n 0, 1) := o42 ac_cX0_copy_96 5 rfl
theorem dX0_copy_102 : decode cX0_copy 102 = .ok (.aload_n 1, 1) := o43 ac_cX0_copy_96 6 rfl
theorem dX0_copy_103 : decode cX0_copy 103 = .ok (.getfield 67, 3) := o180 ac_cX0_copy_96 7 0 67 rfl
theorem dX0_copy_106 : decode cX0_copy 106 = .ok (.putfield 67, 3) := o181 ac_cX0_copy_96 10 0 67 rfl
theorem dX0_copy_109 : decode cX0_copy 109 = .ok (.aload_n 0, 1) := o42 ac_cX0_copy_96 13 rfl
theorem dX0_copy_110 : decode cX0_copy 110 = .ok (.aload_n 1, 1) := o43 ac_cX0_copy_96 14 rfl
theorem dX0_copy_111 : decode cX0_copy 111 = .ok (.getfield 25, 3) := o180 ac_cX0_copy_96 15 0 25 rfl
def kb_cX0_copy_112 : List Nat := [0, 25, 181, 0, 25, 177]
theorem ac_cX0_copy_112 : AL cX0_copy 112 kb_cX0_copy_112 := AL.of (m := 6) (by decide +kernel)
theorem dX0_copy_114 : decode cX0_copy 114 = .ok (.putfield 25, 3) := o181 ac_cX0_copy_112 2 0 25 rfl
theorem dX0_copy_117 : decode cX0_copy 117 = .ok (.return_, 1) := o177 ac_cX0_copy_112 5 rfl
def kb_cX5_keep_0 : List Nat := [42, 180, 0, 11, 42, 180, 0, 22, 50, 43, 182, 0, 25, 42, 42, 180, 0, 22, 4, 96]
theorem ac_cX5_keep_0 : AL cX5_keep 0 kb_cX5_keep_0 := AL.of (m := 20) (by decide +kernel)
theorem dX5_keep_0 : decode cX5_keep 0 = .ok (.aload_n 0, 1) := o42 ac_cX5_keep_0 0 rfl
theorem dX5_keep_1 : decode cX5_keep 1 = .ok (.getfield 11, 3) := o180 ac_cX5_keep_0 1 0 11 rfl
theorem dX5_keep_4 : decode cX5_keep 4 = .ok (.aload_n 0, 1) := o42 ac_cX5_keep_0 4 rfl
theorem dX5_keep_5 : decode cX5_keep 5 = .ok (.getfield 22, 3) := o180 ac_cX5_keep_0 5 0 22 rfl
theorem dX5_keep_8 : decode cX5_keep 8 = .ok (.aaload, 1) := o50 ac_cX5_keep_0 8 rfl
theorem dX5_keep_9 : decode cX5_keep 9 = .ok (.aload_n 1, 1) := o43 ac_cX5_keep_0 9 rfl
theorem dX5_keep_10 : decode cX5_keep 10 = .ok (.invokevirtual 25, 3) := o182 ac_cX5_keep_0 10 0 25 rfl
theorem dX5_keep_13 : decode cX5_keep 13 = .ok (.aload_n 0, 1) := o42 ac_cX5_keep_0 13 rfl
theorem dX5_keep_14 : decode cX5_keep 14 = .ok (.aload_n 0, 1) := o42 ac_cX5_keep_0 14 rfl
theorem dX5_keep_15 : decode cX5_keep 15 = .ok (.getfield 22, 3) := o180 ac_cX5_keep_0 15 0 22 rfl
def kb_cX5_keep_16 : List Nat := [0, 22, 4, 96, 16, 40, 112, 181, 0, 22, 42, 16, 40, 42, 180, 0, 18, 4, 96, 184]
theorem ac_cX5_keep_16 : AL cX5_keep 16 kb_cX5_keep_16 := AL.of (m := 20) (by decide +kernel)
theorem dX5_keep_18 : decode cX5_keep 18 = .ok (.iconst 1, 1) := o4 ac_cX5_keep_16 2 rfl
theorem dX5_keep_19 : decode cX5_keep 19 = .ok (.iadd, 1) := o96 ac_cX5_keep_16 3 rfl
theorem dX5_keep_20 : decode cX5_keep 20 = .ok (.bipush 40, 2) := o16p ac_cX5_keep_16 4 40 rfl rfl
theorem dX5_keep_22 : decode cX5_keep 22 = .ok (.irem, 1) := o112 ac_cX5_keep_16 6 rfl
theorem dX5_keep_23 : decode cX5_keep 23 = .ok (.putfield 22, 3) := o181 ac_cX5_keep_16 7 0 22 rfl
theorem dX5_keep_26 : decode cX5_keep 26 = .ok (.aload_n 0, 1) := o42 ac_cX5_keep_16 10 rfl
theorem dX5_keep_27 : decode cX5_keep 27 = .ok (.bipush 40, 2) := o16p ac_cX5_keep_16 11 40 rfl rfl
theorem dX5_keep_29 : decode cX5_keep 29 = .ok (.aload_n 0, 1) := o42 ac_cX5_keep_16 13 rfl
theorem dX5_keep_30 : decode cX5_keep 30 = .ok (.getfield 18, 3) := o180 ac_cX5_keep_16 14 0 18 rfl
def kb_cX5_keep_32 : List Nat := [18, 4, 96, 184, 0, 29, 181, 0, 18, 177]
theorem ac_cX5_keep_32 : AL cX5_keep 32 kb_cX5_keep_32 := AL.of (m := 10) (by decide +kernel)
theorem dX5_keep_33 : decode cX5_keep 33 = .ok (.iconst 1, 1) := o4 ac_cX5_keep_32 1 rfl
theorem dX5_keep_34 : decode cX5_keep 34 = .ok (.iadd, 1) := o96 ac_cX5_keep_32 2 rfl
theorem dX5_keep_35 : decode cX5_keep 35 = .ok (.invokestatic 29, 3) := o184 ac_cX5_keep_32 3 0 29 rfl
theorem dX5_keep_38 : decode cX5_keep 38 = .ok (.putfield 18, 3) := o181 ac_cX5_keep_32 6 0 18 rfl
theorem dX5_keep_41 : decode cX5_keep 41 = .ok (.return_, 1) := o177 ac_cX5_keep_32 9 rfl
def kb_cX4_oneBeat_0 : List Nat := [44, 182, 0, 22, 54, 4, 21, 4, 2, 160, 0, 23, 44, 3, 44, 180, 0, 42, 43, 180]
theorem ac_cX4_oneBeat_0 : AL cX4_oneBeat 0 kb_cX4_oneBeat_0 := AL.of (m := 20) (by decide +kernel)
theorem dX4_oneBeat_0 : decode cX4_oneBeat 0 = .ok (.aload_n 2, 1) := o44 ac_cX4_oneBeat_0 0 rfl
theorem dX4_oneBeat_1 : decode cX4_oneBeat 1 = .ok (.invokevirtual 22, 3) := o182 ac_cX4_oneBeat_0 1 0 22 rfl
theorem dX4_oneBeat_4 : decode cX4_oneBeat 4 = .ok (.istore 4, 2) := o54 ac_cX4_oneBeat_0 4 4 rfl
theorem dX4_oneBeat_6 : decode cX4_oneBeat 6 = .ok (.iload 4, 2) := o21 ac_cX4_oneBeat_0 6 4 rfl
theorem dX4_oneBeat_8 : decode cX4_oneBeat 8 = .ok (.iconst (-1), 1) := o2 ac_cX4_oneBeat_0 8 rfl
theorem dX4_oneBeat_9 : decode cX4_oneBeat 9 = .ok (.if_icmp .ne 23, 3) := o160p ac_cX4_oneBeat_0 9 0 23 rfl rfl
theorem dX4_oneBeat_12 : decode cX4_oneBeat 12 = .ok (.aload_n 2, 1) := o44 ac_cX4_oneBeat_0 12 rfl
theorem dX4_oneBeat_13 : decode cX4_oneBeat 13 = .ok (.iconst 0, 1) := o3 ac_cX4_oneBeat_0 13 rfl
theorem dX4_oneBeat_14 : decode cX4_oneBeat 14 = .ok (.aload_n 2, 1) := o44 ac_cX4_oneBeat_0 14 rfl
theorem dX4_oneBeat_15 : decode cX4_oneBeat 15 = .ok (.getfield 42, 3) := o180 ac_cX4_oneBeat_0 15 0 42 rfl
def kb_cX4_oneBeat_16 : List Nat := [0, 42, 43, 180, 0, 46, 100, 184, 0, 51, 181, 0, 42, 167, 0, 60, 21, 4, 4, 96]
theorem ac_cX4_oneBeat_16 : AL cX4_oneBeat 16 kb_cX4_oneBeat_16 := AL.of (m := 20) (by decide +kernel)
theorem dX4_oneBeat_18 : decode cX4_oneBeat 18 = .ok (.aload_n 1, 1) := o43 ac_cX4_oneBeat_16 2 rfl
theorem dX4_oneBeat_19 : decode cX4_oneBeat 19 = .ok (.getfield 46, 3) := o180 ac_cX4_oneBeat_16 3 0 46 rfl
theorem dX4_oneBeat_22 : decode cX4_oneBeat 22 = .ok (.isub, 1) := o100 ac_cX4_oneBeat_16 6 rfl
theorem dX4_oneBeat_23 : decode cX4_oneBeat 23 = .ok (.invokestatic 51, 3) := o184 ac_cX4_oneBeat_16 7 0 51 rfl
theorem dX4_oneBeat_26 : decode cX4_oneBeat 26 = .ok (.putfield 42, 3) := o181 ac_cX4_oneBeat_16 10 0 42 rfl
theorem dX4_oneBeat_29 : decode cX4_oneBeat 29 = .ok (.goto 60, 3) := o167p ac_cX4_oneBeat_16 13 0 60 rfl rfl
def kb_cX4_oneBeat_80 : List Nat := [42, 43, 44, 21, 4, 29, 182, 0, 68, 3, 54, 5, 21, 5, 44, 180, 0, 57, 162, 0]
theorem ac_cX4_oneBeat_80 : AL cX4_oneBeat 80 kb_cX4_oneBeat_80 := AL.of (m := 20) (by decide +kernel)
theorem dX4_oneBeat_89 : decode cX4_oneBeat 89 = .ok (.iconst 0, 1) := o3 ac_cX4_oneBeat_80 9 rfl
theorem dX4_oneBeat_90 : decode cX4_oneBeat 90 = .ok (.istore 5, 2) := o54 ac_cX4_oneBeat_80 10 5 rfl
theorem dX4_oneBeat_92 : decode cX4_oneBeat 92 = .ok (.iload 5, 2) := o21 ac_cX4_oneBeat_80 12 5 rfl
theorem dX4_oneBeat_94 : decode cX4_oneBeat 94 = .ok (.aload_n 2, 1) := o44 ac_cX4_oneBeat_80 14 rfl
theorem dX4_oneBeat_95 : decode cX4_oneBeat 95 = .ok (.getfield 57, 3) := o180 ac_cX4_oneBeat_80 15 0 57 rfl
def kb_cX4_oneBeat_96 : List Nat := [0, 57, 162, 0, 29, 44, 21, 5, 182, 0, 71, 153, 0, 14, 44, 180, 0, 74, 21, 5]
theorem ac_cX4_oneBeat_96 : AL cX4_oneBeat 96 kb_cX4_oneBeat_96 := AL.of (m := 20) (by decide +kernel)
theorem dX4_oneBeat_98 : decode cX4_oneBeat 98 = .ok (.if_icmp .ge 29, 3) := o162p ac_cX4_oneBeat_96 2 0 29 rfl rfl
def kb_cX4_oneBeat_112 : List Nat := [0, 74, 21, 5, 92, 46, 4, 100, 79, 132, 5, 1, 167, 255, 224, 44, 89, 180, 0, 78]
theorem ac_cX4_oneBeat_112 : AL cX4_oneBeat 112 kb_cX4_oneBeat_112 := AL.of (m := 20) (by decide +kernel)
theorem dX4_oneBeat_127 : decode cX4_oneBeat 127 = .ok (.aload_n 2, 1) := o44 ac_cX4_oneBeat_112 15 rfl
def kb_cX4_oneBeat_128 : List Nat := [89, 180, 0, 78, 4, 96, 181, 0, 78, 44, 2, 181, 0, 81, 177]
theorem ac_cX4_oneBeat_128 : AL cX4_oneBeat 128 kb_cX4_oneBeat_128 := AL.of (m := 15) (by decide +kernel)
theorem dX4_oneBeat_128 : decode cX4_oneBeat 128 = .ok (.dup, 1) := o89 ac_cX4_oneBeat_128 0 rfl
theorem dX4_oneBeat_129 : decode cX4_oneBeat 129 = .ok (.getfield 78, 3) := o180 ac_cX4_oneBeat_128 1 0 78 rfl
theorem dX4_oneBeat_132 : decode cX4_oneBeat 132 = .ok (.iconst 1, 1) := o4 ac_cX4_oneBeat_128 4 rfl
theorem dX4_oneBeat_133 : decode cX4_oneBeat 133 = .ok (.iadd, 1) := o96 ac_cX4_oneBeat_128 5 rfl
theorem dX4_oneBeat_134 : decode cX4_oneBeat 134 = .ok (.putfield 78, 3) := o181 ac_cX4_oneBeat_128 6 0 78 rfl
theorem dX4_oneBeat_137 : decode cX4_oneBeat 137 = .ok (.aload_n 2, 1) := o44 ac_cX4_oneBeat_128 9 rfl
theorem dX4_oneBeat_138 : decode cX4_oneBeat 138 = .ok (.iconst (-1), 1) := o2 ac_cX4_oneBeat_128 10 rfl
theorem dX4_oneBeat_139 : decode cX4_oneBeat 139 = .ok (.putfield 81, 3) := o181 ac_cX4_oneBeat_128 11 0 81 rfl
theorem dX4_oneBeat_142 : decode cX4_oneBeat 142 = .ok (.return_, 1) := o177 ac_cX4_oneBeat_128 14 rfl
def kb_cX4_goOn_0 : List Nat := [3, 54, 5, 21, 5, 29, 162, 0, 17, 42, 43, 44, 21, 4, 182, 0, 18, 132, 5, 1]
theorem ac_cX4_goOn_0 : AL cX4_goOn 0 kb_cX4_goOn_0 := AL.of (m := 20) (by decide +kernel)
theorem dX4_goOn_0 : decode cX4_goOn 0 = .ok (.iconst 0, 1) := o3 ac_cX4_goOn_0 0 rfl
theorem dX4_goOn_1 : decode cX4_goOn 1 = .ok (.istore 5, 2) := o54 ac_cX4_goOn_0 1 5 rfl
theorem dX4_goOn_3 : decode cX4_goOn 3 = .ok (.iload 5, 2) := o21 ac_cX4_goOn_0 3 5 rfl
theorem dX4_goOn_5 : decode cX4_goOn 5 = .ok (.iload_n 3, 1) := o29 ac_cX4_goOn_0 5 rfl
theorem dX4_goOn_6 : decode cX4_goOn 6 = .ok (.if_icmp .ge 17, 3) := o162p ac_cX4_goOn_0 6 0 17 rfl rfl
theorem dX4_goOn_9 : decode cX4_goOn 9 = .ok (.aload_n 0, 1) := o42 ac_cX4_goOn_0 9 rfl
theorem dX4_goOn_10 : decode cX4_goOn 10 = .ok (.aload_n 1, 1) := o43 ac_cX4_goOn_0 10 rfl
theorem dX4_goOn_11 : decode cX4_goOn 11 = .ok (.aload_n 2, 1) := o44 ac_cX4_goOn_0 11 rfl
theorem dX4_goOn_12 : decode cX4_goOn 12 = .ok (.iload 4, 2) := o21 ac_cX4_goOn_0 12 4 rfl
theorem dX4_goOn_14 : decode cX4_goOn 14 = .ok (.invokevirtual 18, 3) := o182 ac_cX4_goOn_0 14 0 18 rfl
def kb_cX4_goOn_16 : List Nat := [18, 132, 5, 1, 167, 255, 239, 177]
theorem ac_cX4_goOn_16 : AL cX4_goOn 16 kb_cX4_goOn_16 := AL.of (m := 8) (by decide +kernel)
theorem dX4_goOn_17 : decode cX4_goOn 17 = .ok (.iinc 5 1, 3) := o132p ac_cX4_goOn_16 1 5 1 rfl rfl
theorem dX4_goOn_20 : decode cX4_goOn 20 = .ok (.goto (-17), 3) := o167n ac_cX4_goOn_16 4 255 239 16 rfl rfl rfl
theorem dX4_goOn_23 : decode cX4_goOn 23 = .ok (.return_, 1) := o177 ac_cX4_goOn_16 7 rfl
def kb_cX4_goOnSafely_0 : List Nat := [42, 43, 44, 2, 182, 0, 18, 177]
theorem ac_cX4_goOnSafely_0 : AL cX4_goOnSafely 0 kb_cX4_goOnSafely_0 := AL.of (m := 8) (by decide +kernel)
theorem dX4_goOnSafely_0 : decode cX4_goOnSafely 0 = .ok (.aload_n 0, 1) := o42 ac_cX4_goOnSafely_0 0 rfl
theorem dX4_goOnSafely_1 : decode cX4_goOnSafely 1 = .ok (.aload_n 1, 1) := o43 ac_cX4_goOnSafely_0 1 rfl
theorem dX4_goOnSafely_2 : decode cX4_goOnSafely 2 = .ok (.aload_n 2, 1) := o44 ac_cX4_goOnSafely_0 2 rfl
theorem dX4_goOnSafely_3 : decode cX4_goOnSafely 3 = .ok (.iconst (-1), 1) := o2 ac_cX4_goOnSafely_0 3 rfl
theorem dX4_goOnSafely_4 : decode cX4_goOnSafely 4 = .ok (.invokevirtual 18, 3) := o182 ac_cX4_goOnSafely_0 4 0 18 rfl
theorem dX4_goOnSafely_7 : decode cX4_goOnSafely 7 = .ok (.return_, 1) := o177 ac_cX4_goOnSafely_0 7 rfl
def kb_cX4_inForce_0 : List Nat := [44, 182, 0, 22, 62, 29, 2, 160, 0, 5, 3, 172, 42, 43, 44, 29, 44, 182, 0, 28]
theorem ac_cX4_inForce_0 : AL cX4_inForce 0 kb_cX4_inForce_0 := AL.of (m := 20) (by decide +kernel)
theorem dX4_inForce_0 : decode cX4_inForce 0 = .ok (.aload_n 2, 1) := o44 ac_cX4_inForce_0 0 rfl
theorem dX4_inForce_1 : decode cX4_inForce 1 = .ok (.invokevirtual 22, 3) := o182 ac_cX4_inForce_0 1 0 22 rfl
theorem dX4_inForce_4 : decode cX4_inForce 4 = .ok (.istore_n 3, 1) := o62 ac_cX4_inForce_0 4 rfl
theorem dX4_inForce_5 : decode cX4_inForce 5 = .ok (.iload_n 3, 1) := o29 ac_cX4_inForce_0 5 rfl
theorem dX4_inForce_6 : decode cX4_inForce 6 = .ok (.iconst (-1), 1) := o2 ac_cX4_inForce_0 6 rfl
theorem dX4_inForce_7 : decode cX4_inForce 7 = .ok (.if_icmp .ne 5, 3) := o160p ac_cX4_inForce_0 7 0 5 rfl rfl
theorem dX4_inForce_10 : decode cX4_inForce 10 = .ok (.iconst 0, 1) := o3 ac_cX4_inForce_0 10 rfl
theorem dX4_inForce_11 : decode cX4_inForce 11 = .ok (.ireturn, 1) := o172 ac_cX4_inForce_0 11 rfl
def kb_cX11_thing_0 : List Nat := [42, 180, 0, 82, 27, 182, 0, 121, 154, 0, 5, 2, 172, 28, 170, 0, 0, 0, 0, 100]
theorem ac_cX11_thing_0 : AL cX11_thing 0 kb_cX11_thing_0 := AL.of (m := 20) (by decide +kernel)
theorem dX11_thing_0 : decode cX11_thing 0 = .ok (.aload_n 0, 1) := o42 ac_cX11_thing_0 0 rfl
theorem dX11_thing_1 : decode cX11_thing 1 = .ok (.getfield 82, 3) := o180 ac_cX11_thing_0 1 0 82 rfl
theorem dX11_thing_4 : decode cX11_thing 4 = .ok (.iload_n 1, 1) := o27 ac_cX11_thing_0 4 rfl
theorem dX11_thing_5 : decode cX11_thing 5 = .ok (.invokevirtual 121, 3) := o182 ac_cX11_thing_0 5 0 121 rfl
theorem dX11_thing_8 : decode cX11_thing 8 = .ok (.ifCond .ne 5, 3) := o154p ac_cX11_thing_0 8 0 5 rfl rfl
theorem dX11_thing_11 : decode cX11_thing 11 = .ok (.iconst (-1), 1) := o2 ac_cX11_thing_0 11 rfl
theorem dX11_thing_12 : decode cX11_thing 12 = .ok (.ireturn, 1) := o172 ac_cX11_thing_0 12 rfl
def kb_cX11_pattern_0 : List Nat := [42, 180, 0, 82, 27, 182, 0, 143, 154, 0, 5, 2, 172, 28, 2, 160, 0, 13, 42, 180]
theorem ac_cX11_pattern_0 : AL cX11_pattern 0 kb_cX11_pattern_0 := AL.of (m := 20) (by decide +kernel)
theorem dX11_pattern_0 : decode cX11_pattern 0 = .ok (.aload_n 0, 1) := o42 ac_cX11_pattern_0 0 rfl
theorem dX11_pattern_1 : decode cX11_pattern 1 = .ok (.getfield 82, 3) := o180 ac_cX11_pattern_0 1 0 82 rfl
theorem dX11_pattern_4 : decode cX11_pattern 4 = .ok (.iload_n 1, 1) := o27 ac_cX11_pattern_0 4 rfl
theorem dX11_pattern_5 : decode cX11_pattern 5 = .ok (.invokevirtual 143, 3) := o182 ac_cX11_pattern_0 5 0 143 rfl
theorem dX11_pattern_8 : decode cX11_pattern 8 = .ok (.ifCond .ne 5, 3) := o154p ac_cX11_pattern_0 8 0 5 rfl rfl
theorem dX11_pattern_11 : decode cX11_pattern 11 = .ok (.iconst (-1), 1) := o2 ac_cX11_pattern_0 11 rfl
theorem dX11_pattern_12 : decode cX11_pattern 12 = .ok (.ireturn, 1) := o172 ac_cX11_pattern_0 12 rfl
def kb_cX11_tells_0 : List Nat := [42, 180, 0, 82, 27, 182, 0, 121, 153, 0, 12, 29, 155, 0, 8, 29, 6, 164, 0, 6]
theorem ac_cX11_tells_0 : AL cX11_tells 0 kb_cX11_tells_0 := AL.of (m := 20) (by decide +kernel)
theorem dX11_tells_0 : decode cX11_tells 0 = .ok (.aload_n 0, 1) := o42 ac_cX11_tells_0 0 rfl
theorem dX11_tells_1 : decode cX11_tells 1 = .ok (.getfield 82, 3) := o180 ac_cX11_tells_0 1 0 82 rfl
theorem dX11_tells_4 : decode cX11_tells 4 = .ok (.iload_n 1, 1) := o27 ac_cX11_tells_0 4 rfl
theorem dX11_tells_5 : decode cX11_tells 5 = .ok (.invokevirtual 121, 3) := o182 ac_cX11_tells_0 5 0 121 rfl
theorem dX11_tells_8 : decode cX11_tells 8 = .ok (.ifCond .eq 12, 3) := o153p ac_cX11_tells_0 8 0 12 rfl rfl
def kb_cX11_tells_16 : List Nat := [6, 164, 0, 6, 16, 156, 172, 29, 153, 0, 8, 29, 4, 160, 0, 7, 4, 167, 0, 4]
theorem ac_cX11_tells_16 : AL cX11_tells 16 kb_cX11_tells_16 := AL.of (m := 20) (by decide +kernel)
theorem dX11_tells_20 : decode cX11_tells 20 = .ok (.bipush (-100), 2) := o16n ac_cX11_tells_16 4 156 99 rfl rfl rfl
theorem dX11_tells_22 : decode cX11_tells 22 = .ok (.ireturn, 1) := o172 ac_cX11_tells_16 6 rfl
def kb_cX11_throwIn_0 : List Nat := [42, 180, 0, 82, 27, 182, 0, 121, 153, 0, 21, 42, 180, 0, 54, 27, 182, 0, 134, 154]
theorem ac_cX11_throwIn_0 : AL cX11_throwIn 0 kb_cX11_throwIn_0 := AL.of (m := 20) (by decide +kernel)
theorem dX11_throwIn_0 : decode cX11_throwIn 0 = .ok (.aload_n 0, 1) := o42 ac_cX11_throwIn_0 0 rfl
theorem dX11_throwIn_1 : decode cX11_throwIn 1 = .ok (.getfield 82, 3) := o180 ac_cX11_throwIn_0 1 0 82 rfl
theorem dX11_throwIn_4 : decode cX11_throwIn 4 = .ok (.iload_n 1, 1) := o27 ac_cX11_throwIn_0 4 rfl
theorem dX11_throwIn_5 : decode cX11_throwIn 5 = .ok (.invokevirtual 121, 3) := o182 ac_cX11_throwIn_0 5 0 121 rfl
theorem dX11_throwIn_8 : decode cX11_throwIn 8 = .ok (.ifCond .eq 21, 3) := o153p ac_cX11_throwIn_0 8 0 21 rfl rfl
def kb_cX11_throwIn_16 : List Nat := [182, 0, 134, 154, 0, 10, 28, 184, 0, 153, 154, 0, 5, 3, 172, 42, 180, 0, 26, 42]
theorem ac_cX11_throwIn_16 : AL cX11_throwIn 16 kb_cX11_throwIn_16 := AL.of (m := 20) (by decide +kernel)
theorem dX11_throwIn_29 : decode cX11_throwIn 29 = .ok (.iconst 0, 1) := o3 ac_cX11_throwIn_16 13 rfl
theorem dX11_throwIn_30 : decode cX11_throwIn 30 = .ok (.ireturn, 1) := o172 ac_cX11_throwIn_16 14 rfl
def kb_cX11_use_0 : List Nat := [42, 180, 0, 82, 27, 182, 0, 143, 154, 0, 5, 3, 172, 42, 180, 0, 26, 42, 180, 0]
theorem ac_cX11_use_0 : AL cX11_use 0 kb_cX11_use_0 := AL.of (m := 20) (by decide +kernel)
theorem dX11_use_0 : decode cX11_use 0 = .ok (.aload_n 0, 1) := o42 ac_cX11_use_0 0 rfl
theorem dX11_use_1 : decode cX11_use 1 = .ok (.getfield 82, 3) := o180 ac_cX11_use_0 1 0 82 rfl
theorem dX11_use_4 : decode cX11_use 4 = .ok (.iload_n 1, 1) := o27 ac_cX11_use_0 4 rfl
theorem dX11_use_5 : decode cX11_use 5 = .ok (.invokevirtual 143, 3) := o182 ac_cX11_use_0 5 0 143 rfl
theorem dX11_use_8 : decode cX11_use 8 = .ok (.ifCond .ne 5, 3) := o154p ac_cX11_use_0 8 0 5 rfl rfl
theorem dX11_use_11 : decode cX11_use 11 = .ok (.iconst 0, 1) := o3 ac_cX11_use_0 11 rfl
theorem dX11_use_12 : decode cX11_use 12 = .ok (.ireturn, 1) := o172 ac_cX11_use_0 12 rfl
def kb_cX11_closes_0 : List Nat := [42, 180, 0, 82, 27, 182, 0, 143, 153, 0, 12, 28, 155, 0, 8, 28, 4, 164, 0, 5]
theorem ac_cX11_closes_0 : AL cX11_closes 0 kb_cX11_closes_0 := AL.of (m := 20) (by decide +kernel)
theorem dX11_closes_0 : decode cX11_closes 0 = .ok (.aload_n 0, 1) := o42 ac_cX11_closes_0 0 rfl
theorem dX11_closes_1 : decode cX11_closes 1 = .ok (.getfield 82, 3) := o180 ac_cX11_closes_0 1 0 82 rfl
theorem dX11_closes_4 : decode cX11_closes 4 = .ok (.iload_n 1, 1) := o27 ac_cX11_closes_0 4 rfl
theorem dX11_closes_5 : decode cX11_closes 5 = .ok (.invokevirtual 143, 3) := o182 ac_cX11_closes_0 5 0 143 rfl
theorem dX11_closes_8 : decode cX11_closes 8 = .ok (.ifCond .eq 12, 3) := o153p ac_cX11_closes_0 8 0 12 rfl rfl
def kb_cX11_closes_16 : List Nat := [4, 164, 0, 5, 2, 172, 42, 180, 0, 82, 180, 0, 149, 27, 50, 42, 180, 0, 82, 180]
theorem ac_cX11_closes_16 : AL cX11_closes 16 kb_cX11_closes_16 := AL.of (m := 20) (by decide +kernel)
theorem dX11_closes_20 : decode cX11_closes 20 = .ok (.iconst (-1), 1) := o2 ac_cX11_closes_16 4 rfl
theorem dX11_closes_21 : decode cX11_closes 21 = .ok (.ireturn, 1) := o172 ac_cX11_closes_16 5 rfl
def kb_cX11_joined_0 : List Nat := [42, 180, 0, 82, 27, 182, 0, 143, 153, 0, 23, 42, 180, 0, 82, 28, 182, 0, 143, 153]
theorem ac_cX11_joined_0 : AL cX11_joined 0 kb_cX11_joined_0 := AL.of (m := 20) (by decide +kernel)
theorem dX11_joined_0 : decode cX11_joined 0 = .ok (.aload_n 0, 1) := o42 ac_cX11_joined_0 0 rfl
theorem dX11_joined_1 : decode cX11_joined 1 = .ok (.getfield 82, 3) := o180 ac_cX11_joined_0 1 0 82 rfl
theorem dX11_joined_4 : decode cX11_joined 4 = .ok (.iload_n 1, 1) := o27 ac_cX11_joined_0 4 rfl
theorem dX11_joined_5 : decode cX11_joined 5 = .ok (.invokevirtual 143, 3) := o182 ac_cX11_joined_0 5 0 143 rfl
theorem dX11_joined_8 : decode cX11_joined 8 = .ok (.ifCond .eq 23, 3) := o153p ac_cX11_joined_0 8 0 23 rfl rfl
def kb_cX11_joined_16 : List Nat := [182, 0, 143, 153, 0, 12, 29, 155, 0, 8, 29, 4, 164, 0, 5, 2, 172, 42, 180, 0]
theorem ac_cX11_joined_16 : AL cX11_joined 16 kb_cX11_joined_16 := AL.of (m := 20) (by decide +kernel)
theorem dX11_joined_31 : decode cX11_joined 31 = .ok (.iconst (-1), 1) := o2 ac_cX11_joined_16 15 rfl
def kb_cX11_joined_32 : List Nat := [172, 42, 180, 0, 82, 180, 0, 146, 27, 46, 54, 4, 42, 180, 0, 82, 180, 0, 149, 27]
theorem ac_cX11_joined_32 : AL cX11_joined 32 kb_cX11_joined_32 := AL.of (m := 20) (by decide +kernel)
theorem dX11_joined_32 : decode cX11_joined 32 = .ok (.ireturn, 1) := o172 ac_cX11_joined_32 0 rfl
def kb_cX11_turned_0 : List Nat := [42, 180, 0, 82, 27, 182, 0, 143, 153, 0, 14, 42, 180, 0, 82, 28, 182, 0, 143, 154]
theorem ac_cX11_turned_0 : AL cX11_turned 0 kb_cX11_turned_0 := AL.of (m := 20) (by decide +kernel)
theorem dX11_turned_0 : decode cX11_turned 0 = .ok (.aload_n 0, 1) := o42 ac_cX11_turned_0 0 rfl
theorem dX11_turned_1 : decode cX11_turned 1 = .ok (.getfield 82, 3) := o180 ac_cX11_turned_0 1 0 82 rfl
theorem dX11_turned_4 : decode cX11_turned 4 = .ok (.iload_n 1, 1) := o27 ac_cX11_turned_0 4 rfl
theorem dX11_turned_5 : decode cX11_turned 5 = .ok (.invokevirtual 143, 3) := o182 ac_cX11_turned_0 5 0 143 rfl
theorem dX11_turned_8 : decode cX11_turned 8 = .ok (.ifCond .eq 14, 3) := o153p ac_cX11_turned_0 8 0 14 rfl rfl
def kb_cX11_turned_16 : List Nat := [182, 0, 143, 154, 0, 5, 2, 172, 42, 180, 0, 82, 180, 0, 146, 27, 46, 62, 29, 42]
theorem ac_cX11_turned_16 : AL cX11_turned 16 kb_cX11_turned_16 := AL.of (m := 20) (by decide +kernel)
theorem dX11_turned_22 : decode cX11_turned 22 = .ok (.iconst (-1), 1) := o2 ac_cX11_turned_16 6 rfl
theorem dX11_turned_23 : decode cX11_turned 23 = .ok (.ireturn, 1) := o172 ac_cX11_turned_16 7 rfl
def kb_cX11_span_0 : List Nat := [42, 180, 0, 82, 27, 182, 0, 143, 154, 0, 5, 2, 172, 42, 180, 0, 82, 180, 0, 149]
theorem ac_cX11_span_0 : AL cX11_span 0 kb_cX11_span_0 := AL.of (m := 20) (by decide +kernel)
theorem dX11_span_0 : decode cX11_span 0 = .ok (.aload_n 0, 1) := o42 ac_cX11_span_0 0 rfl
theorem dX11_span_1 : decode cX11_span 1 = .ok (.getfield 82, 3) := o180 ac_cX11_span_0 1 0 82 rfl
theorem dX11_span_4 : decode cX11_span 4 = .ok (.iload_n 1, 1) := o27 ac_cX11_span_0 4 rfl
theorem dX11_span_5 : decode cX11_span 5 = .ok (.invokevirtual 143, 3) := o182 ac_cX11_span_0 5 0 143 rfl
theorem dX11_span_8 : decode cX11_span 8 = .ok (.ifCond .ne 5, 3) := o154p ac_cX11_span_0 8 0 5 rfl rfl
theorem dX11_span_11 : decode cX11_span 11 = .ok (.iconst (-1), 1) := o2 ac_cX11_span_0 11 rfl
theorem dX11_span_12 : decode cX11_span 12 = .ok (.ireturn, 1) := o172 ac_cX11_span_0 12 rfl
def kb_cX11_orbits_0 : List Nat := [42, 180, 0, 82, 27, 182, 0, 143, 154, 0, 5, 2, 172, 42, 180, 0, 82, 180, 0, 149]
theorem ac_cX11_orbits_0 : AL cX11_orbits 0 kb_cX11_orbits_0 := AL.of (m := 20) (by decide +kernel)
theorem dX11_orbits_0 : decode cX11_orbits 0 = .ok (.aload_n 0, 1) := o42 ac_cX11_orbits_0 0 rfl
theorem dX11_orbits_1 : decode cX11_orbits 1 = .ok (.getfield 82, 3) := o180 ac_cX11_orbits_0 1 0 82 rfl
theorem dX11_orbits_4 : decode cX11_orbits 4 = .ok (.iload_n 1, 1) := o27 ac_cX11_orbits_0 4 rfl
theorem dX11_orbits_5 : decode cX11_orbits 5 = .ok (.invokevirtual 143, 3) := o182 ac_cX11_orbits_0 5 0 143 rfl
theorem dX11_orbits_8 : decode cX11_orbits 8 = .ok (.ifCond .ne 5, 3) := o154p ac_cX11_orbits_0 8 0 5 rfl rfl
theorem dX11_orbits_11 : decode cX11_orbits 11 = .ok (.iconst (-1), 1) := o2 ac_cX11_orbits_0 11 rfl
theorem dX11_orbits_12 : decode cX11_orbits 12 = .ok (.ireturn, 1) := o172 ac_cX11_orbits_0 12 rfl
def kb_cX11_swaps_0 : List Nat := [42, 180, 0, 82, 27, 182, 0, 143, 154, 0, 5, 2, 172, 42, 180, 0, 82, 180, 0, 149]
theorem ac_cX11_swaps_0 : AL cX11_swaps 0 kb_cX11_swaps_0 := AL.of (m := 20) (by decide +kernel)
theorem dX11_swaps_0 : decode cX11_swaps 0 = .ok (.aload_n 0, 1) := o42 ac_cX11_swaps_0 0 rfl
theorem dX11_swaps_1 : decode cX11_swaps 1 = .ok (.getfield 82, 3) := o180 ac_cX11_swaps_0 1 0 82 rfl
theorem dX11_swaps_4 : decode cX11_swaps 4 = .ok (.iload_n 1, 1) := o27 ac_cX11_swaps_0 4 rfl
theorem dX11_swaps_5 : decode cX11_swaps 5 = .ok (.invokevirtual 143, 3) := o182 ac_cX11_swaps_0 5 0 143 rfl
theorem dX11_swaps_8 : decode cX11_swaps 8 = .ok (.ifCond .ne 5, 3) := o154p ac_cX11_swaps_0 8 0 5 rfl rfl
theorem dX11_swaps_11 : decode cX11_swaps 11 = .ok (.iconst (-1), 1) := o2 ac_cX11_swaps_0 11 rfl
theorem dX11_swaps_12 : decode cX11_swaps 12 = .ok (.ireturn, 1) := o172 ac_cX11_swaps_0 12 rfl
def kb_cX11_room_0 : List Nat := [42, 180, 0, 82, 27, 182, 0, 121, 153, 0, 14, 42, 180, 0, 54, 27, 182, 0, 134, 153]
theorem ac_cX11_room_0 : AL cX11_room 0 kb_cX11_room_0 := AL.of (m := 20) (by decide +kernel)
theorem dX11_room_0 : decode cX11_room 0 = .ok (.aload_n 0, 1) := o42 ac_cX11_room_0 0 rfl
theorem dX11_room_1 : decode cX11_room 1 = .ok (.getfield 82, 3) := o180 ac_cX11_room_0 1 0 82 rfl
theorem dX11_room_4 : decode cX11_room 4 = .ok (.iload_n 1, 1) := o27 ac_cX11_room_0 4 rfl
theorem dX11_room_5 : decode cX11_room 5 = .ok (.invokevirtual 121, 3) := o182 ac_cX11_room_0 5 0 121 rfl
theorem dX11_room_8 : decode cX11_room 8 = .ok (.ifCond .eq 14, 3) := o153p ac_cX11_room_0 8 0 14 rfl rfl
def kb_cX11_room_16 : List Nat := [182, 0, 134, 153, 0, 5, 2, 172, 3, 61, 28, 16, 9, 163, 0, 42, 42, 180, 0, 58]
theorem ac_cX11_room_16 : AL cX11_room 16 kb_cX11_room_16 := AL.of (m := 20) (by decide +kernel)
theorem dX11_room_22 : decode cX11_room 22 = .ok (.iconst (-1), 1) := o2 ac_cX11_room_16 6 rfl
theorem dX11_room_23 : decode cX11_room 23 = .ok (.ireturn, 1) := o172 ac_cX11_room_16 7 rfl
def kb_cX11_into_0 : List Nat := [42, 180, 0, 82, 27, 182, 0, 143, 153, 0, 8, 28, 2, 162, 0, 5, 2, 172, 42, 180]
theorem ac_cX11_into_0 : AL cX11_into 0 kb_cX11_into_0 := AL.of (m := 20) (by decide +kernel)
theorem dX11_into_0 : decode cX11_into 0 = .ok (.aload_n 0, 1) := o42 ac_cX11_into_0 0 rfl
theorem dX11_into_1 : decode cX11_into 1 = .ok (.getfield 82, 3) := o180 ac_cX11_into_0 1 0 82 rfl
theorem dX11_into_4 : decode cX11_into 4 = .ok (.iload_n 1, 1) := o27 ac_cX11_into_0 4 rfl
theorem dX11_into_5 : decode cX11_into 5 = .ok (.invokevirtual 143, 3) := o182 ac_cX11_into_0 5 0 143 rfl
theorem dX11_into_8 : decode cX11_into 8 = .ok (.ifCond .eq 8, 3) := o153p ac_cX11_into_0 8 0 8 rfl rfl
def kb_cX11_into_16 : List Nat := [2, 172, 42, 180, 0, 82, 180, 0, 149, 27, 50, 78, 42, 180, 0, 82, 180, 0, 146, 27]
theorem ac_cX11_into_16 : AL cX11_into 16 kb_cX11_into_16 := AL.of (m := 20) (by decide +kernel)
theorem dX11_into_16 : decode cX11_into 16 = .ok (.iconst (-1), 1) := o2 ac_cX11_into_16 0 rfl
theorem dX11_into_17 : decode cX11_into 17 = .ok (.ireturn, 1) := o172 ac_cX11_into_16 1 rfl
def kb_cX11_place_0 : List Nat := [42, 180, 0, 10, 180, 0, 118, 172]
theorem ac_cX11_place_0 : AL cX11_place 0 kb_cX11_place_0 := AL.of (m := 8) (by decide +kernel)
theorem dX11_place_0 : decode cX11_place 0 = .ok (.aload_n 0, 1) := o42 ac_cX11_place_0 0 rfl
theorem dX11_place_1 : decode cX11_place 1 = .ok (.getfield 10, 3) := o180 ac_cX11_place_0 1 0 10 rfl
theorem dX11_place_4 : decode cX11_place 4 = .ok (.getfield 118, 3) := o180 ac_cX11_place_0 4 0 118 rfl
theorem dX11_place_7 : decode cX11_place 7 = .ok (.ireturn, 1) := o172 ac_cX11_place_0 7 rfl
def kb_cX11_forget_0 : List Nat := [42, 180, 0, 33, 180, 0, 117, 60, 42, 180, 0, 33, 3, 181, 0, 117, 27, 172]
theorem ac_cX11_forget_0 : AL cX11_forget 0 kb_cX11_forget_0 := AL.of (m := 18) (by decide +kernel)
theorem dX11_forget_0 : decode cX11_forget 0 = .ok (.aload_n 0, 1) := o42 ac_cX11_forget_0 0 rfl
theorem dX11_forget_1 : decode cX11_forget 1 = .ok (.getfield 33, 3) := o180 ac_cX11_forget_0 1 0 33 rfl
theorem dX11_forget_4 : decode cX11_forget 4 = .ok (.getfield 117, 3) := o180 ac_cX11_forget_0 4 0 117 rfl
theorem dX11_forget_7 : decode cX11_forget 7 = .ok (.istore_n 1, 1) := o60 ac_cX11_forget_0 7 rfl
theorem dX11_forget_8 : decode cX11_forget 8 = .ok (.aload_n 0, 1) := o42 ac_cX11_forget_0 8 rfl
theorem dX11_forget_9 : decode cX11_forget 9 = .ok (.getfield 33, 3) := o180 ac_cX11_forget_0 9 0 33 rfl
theorem dX11_forget_12 : decode cX11_forget 12 = .ok (.iconst 0, 1) := o3 ac_cX11_forget_0 12 rfl
theorem dX11_forget_13 : decode cX11_forget 13 = .ok (.putfield 117, 3) := o181 ac_cX11_forget_0 13 0 117 rfl
def kb_cX11_forget_16 : List Nat := [27, 172]
theorem ac_cX11_forget_16 : AL cX11_forget 16 kb_cX11_forget_16 := AL.of (m := 2) (by decide +kernel)
theorem dX11_forget_16 : decode cX11_forget 16 = .ok (.iload_n 1, 1) := o27 ac_cX11_forget_16 0 rfl
theorem dX11_forget_17 : decode cX11_forget 17 = .ok (.ireturn, 1) := o172 ac_cX11_forget_16 1 rfl
def kb_cX11_lands_0 : List Nat := [42, 180, 0, 54, 182, 1, 20, 172]
theorem ac_cX11_lands_0 : AL cX11_lands 0 kb_cX11_lands_0 := AL.of (m := 8) (by decide +kernel)
theorem dX11_lands_0 : decode cX11_lands 0 = .ok (.aload_n 0, 1) := o42 ac_cX11_lands_0 0 rfl
theorem dX11_lands_1 : decode cX11_lands 1 = .ok (.getfield 54, 3) := o180 ac_cX11_lands_0 1 0 54 rfl
theorem dX11_lands_4 : decode cX11_lands 4 = .ok (.invokevirtual 276, 3) := o182 ac_cX11_lands_0 4 1 20 rfl
theorem dX11_lands_7 : decode cX11_lands 7 = .ok (.ireturn, 1) := o172 ac_cX11_lands_0 7 rfl
def kb_cX11_down_0 : List Nat := [42, 180, 0, 58, 42, 180, 0, 54, 182, 0, 230, 3, 60, 27, 17, 0, 200, 163, 0, 44]
theorem ac_cX11_down_0 : AL cX11_down 0 kb_cX11_down_0 := AL.of (m := 20) (by decide +kernel)
theorem dX11_down_0 : decode cX11_down 0 = .ok (.aload_n 0, 1) := o42 ac_cX11_down_0 0 rfl
theorem dX11_down_1 : decode cX11_down 1 = .ok (.getfield 58, 3) := o180 ac_cX11_down_0 1 0 58 rfl
theorem dX11_down_4 : decode cX11_down 4 = .ok (.aload_n 0, 1) := o42 ac_cX11_down_0 4 rfl
theorem dX11_down_5 : decode cX11_down 5 = .ok (.getfield 54, 3) := o180 ac_cX11_down_0 5 0 54 rfl
theorem dX11_down_8 : decode cX11_down 8 = .ok (.invokevirtual 230, 3) := o182 ac_cX11_down_0 8 0 230 rfl
theorem dX11_down_11 : decode cX11_down 11 = .ok (.iconst 0, 1) := o3 ac_cX11_down_0 11 rfl
theorem dX11_down_12 : decode cX11_down 12 = .ok (.istore_n 1, 1) := o60 ac_cX11_down_0 12 rfl
theorem dX11_down_13 : decode cX11_down 13 = .ok (.iload_n 1, 1) := o27 ac_cX11_down_0 13 rfl
theorem dX11_down_14 : decode cX11_down 14 = .ok (.sipush 200, 3) := o17p ac_cX11_down_0 14 0 200 rfl rfl
def kb_cX11_down_16 : List Nat := [200, 163, 0, 44, 42, 180, 0, 58, 182, 0, 156, 154, 0, 5, 27, 172, 42, 180, 0, 19]
theorem ac_cX11_down_16 : AL cX11_down 16 kb_cX11_down_16 := AL.of (m := 20) (by decide +kernel)
theorem dX11_down_17 : decode cX11_down 17 = .ok (.if_icmp .gt 44, 3) := o163p ac_cX11_down_16 1 0 44 rfl rfl
theorem dX11_down_20 : decode cX11_down 20 = .ok (.aload_n 0, 1) := o42 ac_cX11_down_16 4 rfl
theorem dX11_down_21 : decode cX11_down 21 = .ok (.getfield 58, 3) := o180 ac_cX11_down_16 5 0 58 rfl
theorem dX11_down_24 : decode cX11_down 24 = .ok (.invokevirtual 156, 3) := o182 ac_cX11_down_16 8 0 156 rfl
theorem dX11_down_27 : decode cX11_down 27 = .ok (.ifCond .ne 5, 3) := o154p ac_cX11_down_16 11 0 5 rfl rfl
theorem dX11_down_30 : decode cX11_down 30 = .ok (.iload_n 1, 1) := o27 ac_cX11_down_16 14 rfl
theorem dX11_down_31 : decode cX11_down 31 = .ok (.ireturn, 1) := o172 ac_cX11_down_16 15 rfl
def kb_cX11_gap_0 : List Nat := [42, 180, 0, 58, 42, 180, 0, 54, 182, 0, 230, 3, 60, 27, 16, 60, 163, 0, 36, 42]
theorem ac_cX11_gap_0 : AL cX11_gap 0 kb_cX11_gap_0 := AL.of (m := 20) (by decide +kernel)
theorem dX11_gap_0 : decode cX11_gap 0 = .ok (.aload_n 0, 1) := o42 ac_cX11_gap_0 0 rfl
theorem dX11_gap_1 : decode cX11_gap 1 = .ok (.getfield 58, 3) := o180 ac_cX11_gap_0 1 0 58 rfl
theorem dX11_gap_4 : decode cX11_gap 4 = .ok (.aload_n 0, 1) := o42 ac_cX11_gap_0 4 rfl
theorem dX11_gap_5 : decode cX11_gap 5 = .ok (.getfield 54, 3) := o180 ac_cX11_gap_0 5 0 54 rfl
theorem dX11_gap_8 : decode cX11_gap 8 = .ok (.invokevirtual 230, 3) := o182 ac_cX11_gap_0 8 0 230 rfl
theorem dX11_gap_11 : decode cX11_gap 11 = .ok (.iconst 0, 1) := o3 ac_cX11_gap_0 11 rfl
theorem dX11_gap_12 : decode cX11_gap 12 = .ok (.istore_n 1, 1) := o60 ac_cX11_gap_0 12 rfl
theorem dX11_gap_13 : decode cX11_gap 13 = .ok (.iload_n 1, 1) := o27 ac_cX11_gap_0 13 rfl
theorem dX11_gap_14 : decode cX11_gap 14 = .ok (.bipush 60, 2) := o16p ac_cX11_gap_0 14 60 rfl rfl
def kb_cX11_gap_16 : List Nat := [163, 0, 36, 42, 180, 0, 58, 182, 1, 36, 154, 0, 5, 27, 172, 42, 180, 0, 19, 42]
theorem ac_cX11_gap_16 : AL cX11_gap 16 kb_cX11_gap_16 := AL.of (m := 20) (by decide +kernel)
theorem dX11_gap_16 : decode cX11_gap 16 = .ok (.if_icmp .gt 36, 3) := o163p ac_cX11_gap_16 0 0 36 rfl rfl
theorem dX11_gap_19 : decode cX11_gap 19 = .ok (.aload_n 0, 1) := o42 ac_cX11_gap_16 3 rfl
theorem dX11_gap_20 : decode cX11_gap 20 = .ok (.getfield 58, 3) := o180 ac_cX11_gap_16 4 0 58 rfl
theorem dX11_gap_23 : decode cX11_gap 23 = .ok (.invokevirtual 292, 3) := o182 ac_cX11_gap_16 7 1 36 rfl
theorem dX11_gap_26 : decode cX11_gap 26 = .ok (.ifCond .ne 5, 3) := o154p ac_cX11_gap_16 10 0 5 rfl rfl
theorem dX11_gap_29 : decode cX11_gap 29 = .ok (.iload_n 1, 1) := o27 ac_cX11_gap_16 13 rfl
theorem dX11_gap_30 : decode cX11_gap 30 = .ok (.ireturn, 1) := o172 ac_cX11_gap_16 14 rfl
def kb_cX11_handover_0 : List Nat := [42, 180, 0, 58, 42, 180, 0, 54, 182, 0, 230, 42, 180, 0, 54, 3, 182, 0, 180, 60]
theorem ac_cX11_handover_0 : AL cX11_handover 0 kb_cX11_handover_0 := AL.of (m := 20) (by decide +kernel)
theorem dX11_handover_0 : decode cX11_handover 0 = .ok (.aload_n 0, 1) := o42 ac_cX11_handover_0 0 rfl
theorem dX11_handover_1 : decode cX11_handover 1 = .ok (.getfield 58, 3) := o180 ac_cX11_handover_0 1 0 58 rfl
theorem dX11_handover_4 : decode cX11_handover 4 = .ok (.aload_n 0, 1) := o42 ac_cX11_handover_0 4 rfl
theorem dX11_handover_5 : decode cX11_handover 5 = .ok (.getfield 54, 3) := o180 ac_cX11_handover_0 5 0 54 rfl
theorem dX11_handover_8 : decode cX11_handover 8 = .ok (.invokevirtual 230, 3) := o182 ac_cX11_handover_0 8 0 230 rfl
theorem dX11_handover_11 : decode cX11_handover 11 = .ok (.aload_n 0, 1) := o42 ac_cX11_handover_0 11 rfl
theorem dX11_handover_12 : decode cX11_handover 12 = .ok (.getfield 54, 3) := o180 ac_cX11_handover_0 12 0 54 rfl
theorem dX11_handover_15 : decode cX11_handover 15 = .ok (.iconst 0, 1) := o3 ac_cX11_handover_0 15 rfl
def kb_cX11_handover_16 : List Nat := [182, 0, 180, 60, 3, 61, 28, 16, 60, 163, 0, 59, 27, 154, 0, 5, 28, 172, 42, 180]
theorem ac_cX11_handover_16 : AL cX11_handover 16 kb_cX11_handover_16 := AL.of (m := 20) (by decide +kernel)
theorem dX11_handover_16 : decode cX11_handover 16 = .ok (.invokevirtual 180, 3) := o182 ac_cX11_handover_16 0 0 180 rfl
theorem dX11_handover_19 : decode cX11_handover 19 = .ok (.istore_n 1, 1) := o60 ac_cX11_handover_16 3 rfl
theorem dX11_handover_20 : decode cX11_handover 20 = .ok (.iconst 0, 1) := o3 ac_cX11_handover_16 4 rfl
theorem dX11_handover_21 : decode cX11_handover 21 = .ok (.istore_n 2, 1) := o61 ac_cX11_handover_16 5 rfl
theorem dX11_handover_22 : decode cX11_handover 22 = .ok (.iload_n 2, 1) := o28 ac_cX11_handover_16 6 rfl
theorem dX11_handover_23 : decode cX11_handover 23 = .ok (.bipush 60, 2) := o16p ac_cX11_handover_16 7 60 rfl rfl
theorem dX11_handover_25 : decode cX11_handover 25 = .ok (.if_icmp .gt 59, 3) := o163p ac_cX11_handover_16 9 0 59 rfl rfl
theorem dX11_handover_28 : decode cX11_handover 28 = .ok (.iload_n 1, 1) := o27 ac_cX11_handover_16 12 rfl
theorem dX11_handover_29 : decode cX11_handover 29 = .ok (.ifCond .ne 5, 3) := o154p ac_cX11_handover_16 13 0 5 rfl rfl
def kb_cX11_handover_32 : List Nat := [28, 172, 42, 180, 0, 58, 182, 1, 26, 62, 29, 2, 159, 0, 11, 27, 4, 29, 120, 2]
theorem ac_cX11_handover_32 : AL cX11_handover 32 kb_cX11_handover_32 := AL.of (m := 20) (by decide +kernel)
theorem dX11_handover_32 : decode cX11_handover 32 = .ok (.iload_n 2, 1) := o28 ac_cX11_handover_32 0 rfl
theorem dX11_handover_33 : decode cX11_handover 33 = .ok (.ireturn, 1) := o172 ac_cX11_handover_32 1 rfl
def kb_cX5_giveBack_0 : List Nat := [42, 180, 0, 18, 154, 0, 5, 3, 172, 42, 42, 180, 0, 22, 16, 40, 96, 4, 100, 16]
theorem ac_cX5_giveBack_0 : AL cX5_giveBack 0 kb_cX5_giveBack_0 := AL.of (m := 20) (by decide +kernel)
theorem dX5_giveBack_0 : decode cX5_giveBack 0 = .ok (.aload_n 0, 1) := o42 ac_cX5_giveBack_0 0 rfl
theorem dX5_giveBack_1 : decode cX5_giveBack 1 = .ok (.getfield 18, 3) := o180 ac_cX5_giveBack_0 1 0 18 rfl
theorem dX5_giveBack_4 : decode cX5_giveBack 4 = .ok (.ifCond .ne 5, 3) := o154p ac_cX5_giveBack_0 4 0 5 rfl rfl
theorem dX5_giveBack_7 : decode cX5_giveBack 7 = .ok (.iconst 0, 1) := o3 ac_cX5_giveBack_0 7 rfl
theorem dX5_giveBack_8 : decode cX5_giveBack 8 = .ok (.ireturn, 1) := o172 ac_cX5_giveBack_0 8 rfl
def kb_cX11_undo_0 : List Nat := [42, 180, 0, 26, 42, 180, 0, 54, 182, 0, 226, 172]
theorem ac_cX11_undo_0 : AL cX11_undo 0 kb_cX11_undo_0 := AL.of (m := 12) (by decide +kernel)
theorem dX11_undo_0 : decode cX11_undo 0 = .ok (.aload_n 0, 1) := o42 ac_cX11_undo_0 0 rfl
theorem dX11_undo_1 : decode cX11_undo 1 = .ok (.getfield 26, 3) := o180 ac_cX11_undo_0 1 0 26 rfl
theorem dX11_undo_4 : decode cX11_undo 4 = .ok (.aload_n 0, 1) := o42 ac_cX11_undo_0 4 rfl
theorem dX11_undo_5 : decode cX11_undo 5 = .ok (.getfield 54, 3) := o180 ac_cX11_undo_0 5 0 54 rfl
theorem dX11_undo_8 : decode cX11_undo 8 = .ok (.invokevirtual 226, 3) := o182 ac_cX11_undo_0 8 0 226 rfl
theorem dX11_undo_11 : decode cX11_undo 11 = .ok (.ireturn, 1) := o172 ac_cX11_undo_0 11 rfl
def kb_cX9_append_0 : List Nat := [16, 24, 61, 28, 155, 0, 45, 42, 180, 0, 25, 17, 7, 208, 162, 0, 29, 42, 180, 0]
theorem ac_cX9_append_0 : AL cX9_append 0 kb_cX9_append_0 := AL.of (m := 20) (by decide +kernel)
theorem dX9_append_0 : decode cX9_append 0 = .ok (.bipush 24, 2) := o16p ac_cX9_append_0 0 24 rfl rfl
theorem dX9_append_2 : decode cX9_append 2 = .ok (.istore_n 2, 1) := o61 ac_cX9_append_0 2 rfl
theorem dX9_append_3 : decode cX9_append 3 = .ok (.iload_n 2, 1) := o28 ac_cX9_append_0 3 rfl
theorem dX9_append_4 : decode cX9_append 4 = .ok (.ifCond .lt 45, 3) := o155p ac_cX9_append_0 4 0 45 rfl rfl
theorem dX9_append_7 : decode cX9_append 7 = .ok (.aload_n 0, 1) := o42 ac_cX9_append_0 7 rfl
theorem dX9_append_8 : decode cX9_append 8 = .ok (.getfield 25, 3) := o180 ac_cX9_append_0 8 0 25 rfl
theorem dX9_append_11 : decode cX9_append 11 = .ok (.sipush 2000, 3) := o17p ac_cX9_append_0 11 7 208 rfl rfl
theorem dX9_append_14 : decode cX9_append 14 = .ok (.if_icmp .ge 29, 3) := o162p ac_cX9_append_0 14 0 29 rfl rfl
def kb_cX9_append_16 : List Nat := [29, 42, 180, 0, 9, 42, 180, 0, 25, 27, 28, 124, 17, 0, 255, 126, 79, 42, 89, 180]
theorem ac_cX9_append_16 : AL cX9_append 16 kb_cX9_append_16 := AL.of (m := 20) (by decide +kernel)
theorem dX9_append_17 : decode cX9_append 17 = .ok (.aload_n 0, 1) := o42 ac_cX9_append_16 1 rfl
theorem dX9_append_18 : decode cX9_append 18 = .ok (.getfield 9, 3) := o180 ac_cX9_append_16 2 0 9 rfl
theorem dX9_append_21 : decode cX9_append 21 = .ok (.aload_n 0, 1) := o42 ac_cX9_append_16 5 rfl
theorem dX9_append_22 : decode cX9_append 22 = .ok (.getfield 25, 3) := o180 ac_cX9_append_16 6 0 25 rfl
theorem dX9_append_25 : decode cX9_append 25 = .ok (.iload_n 1, 1) := o27 ac_cX9_append_16 9 rfl
theorem dX9_append_26 : decode cX9_append 26 = .ok (.iload_n 2, 1) := o28 ac_cX9_append_16 10 rfl
theorem dX9_append_27 : decode cX9_append 27 = .ok (.iushr, 1) := o124 ac_cX9_append_16 11 rfl
theorem dX9_append_28 : decode cX9_append 28 = .ok (.sipush 255, 3) := o17p ac_cX9_append_16 12 0 255 rfl rfl
theorem dX9_append_31 : decode cX9_append 31 = .ok (.iand, 1) := o126 ac_cX9_append_16 15 rfl
def kb_cX9_append_32 : List Nat := [79, 42, 89, 180, 0, 25, 4, 96, 181, 0, 25, 132, 2, 248, 167, 255, 213, 177]
theorem ac_cX9_append_32 : AL cX9_append 32 kb_cX9_append_32 := AL.of (m := 18) (by decide +kernel)
theorem dX9_append_32 : decode cX9_append 32 = .ok (.iastore, 1) := o79 ac_cX9_append_32 0 rfl
theorem dX9_append_33 : decode cX9_append 33 = .ok (.aload_n 0, 1) := o42 ac_cX9_append_32 1 rfl
theorem dX9_append_34 : decode cX9_append 34 = .ok (.dup, 1) := o89 ac_cX9_append_32 2 rfl
theorem dX9_append_35 : decode cX9_append 35 = .ok (.getfield 25, 3) := o180 ac_cX9_append_32 3 0 25 rfl
theorem dX9_append_38 : decode cX9_append 38 = .ok (.iconst 1, 1) := o4 ac_cX9_append_32 6 rfl
theorem dX9_append_39 : decode cX9_append 39 = .ok (.iadd, 1) := o96 ac_cX9_append_32 7 rfl
theorem dX9_append_40 : decode cX9_append 40 = .ok (.putfield 25, 3) := o181 ac_cX9_append_32 8 0 25 rfl
theorem dX9_append_43 : decode cX9_append 43 = .ok (.iinc 2 (-8), 3) := o132n ac_cX9_append_32 11 2 248 7 rfl rfl rfl
theorem dX9_append_46 : decode cX9_append 46 = .ok (.goto (-43), 3) := o167n ac_cX9_append_32 14 255 213 42 rfl rfl rfl
def kb_cX9_append_48 : List Nat := [213, 177]
theorem ac_cX9_append_48 : AL cX9_append 48 kb_cX9_append_48 := AL.of (m := 2) (by decide +kernel)
theorem dX9_append_49 : decode cX9_append 49 = .ok (.return_, 1) := o177 ac_cX9_append_48 1 rfl
def kb_cX11_feed_0 : List Nat := [42, 180, 0, 10, 180, 0, 89, 180, 0, 93, 16, 20, 96, 17, 7, 208, 164, 0, 5, 2]
theorem ac_cX11_feed_0 : AL cX11_feed 0 kb_cX11_feed_0 := AL.of (m := 20) (by decide +kernel)
theorem dX11_feed_0 : decode cX11_feed 0 = .ok (.aload_n 0, 1) := o42 ac_cX11_feed_0 0 rfl
theorem dX11_feed_1 : decode cX11_feed 1 = .ok (.getfield 10, 3) := o180 ac_cX11_feed_0 1 0 10 rfl
theorem dX11_feed_4 : decode cX11_feed 4 = .ok (.getfield 89, 3) := o180 ac_cX11_feed_0 4 0 89 rfl
theorem dX11_feed_7 : decode cX11_feed 7 = .ok (.getfield 93, 3) := o180 ac_cX11_feed_0 7 0 93 rfl
theorem dX11_feed_10 : decode cX11_feed 10 = .ok (.bipush 20, 2) := o16p ac_cX11_feed_0 10 20 rfl rfl
theorem dX11_feed_12 : decode cX11_feed 12 = .ok (.iadd, 1) := o96 ac_cX11_feed_0 12 rfl
theorem dX11_feed_13 : decode cX11_feed 13 = .ok (.sipush 2000, 3) := o17p ac_cX11_feed_0 13 7 208 rfl rfl
def kb_cX11_feed_16 : List Nat := [164, 0, 5, 2, 172, 42, 180, 0, 10, 180, 0, 89, 27, 182, 0, 99, 42, 180, 0, 10]
theorem ac_cX11_feed_16 : AL cX11_feed 16 kb_cX11_feed_16 := AL.of (m := 20) (by decide +kernel)
theorem dX11_feed_16 : decode cX11_feed 16 = .ok (.if_icmp .le 5, 3) := o164p ac_cX11_feed_16 0 0 5 rfl rfl
theorem dX11_feed_21 : decode cX11_feed 21 = .ok (.aload_n 0, 1) := o42 ac_cX11_feed_16 5 rfl
theorem dX11_feed_22 : decode cX11_feed 22 = .ok (.getfield 10, 3) := o180 ac_cX11_feed_16 6 0 10 rfl
theorem dX11_feed_25 : decode cX11_feed 25 = .ok (.getfield 89, 3) := o180 ac_cX11_feed_16 9 0 89 rfl
theorem dX11_feed_28 : decode cX11_feed 28 = .ok (.iload_n 1, 1) := o27 ac_cX11_feed_16 12 rfl
theorem dX11_feed_29 : decode cX11_feed 29 = .ok (.invokevirtual 99, 3) := o182 ac_cX11_feed_16 13 0 99 rfl
def kb_cX11_feed_32 : List Nat := [42, 180, 0, 10, 180, 0, 89, 28, 182, 0, 99, 42, 180, 0, 10, 180, 0, 89, 29, 182]
theorem ac_cX11_feed_32 : AL cX11_feed 32 kb_cX11_feed_32 := AL.of (m := 20) (by decide +kernel)
theorem dX11_feed_32 : decode cX11_feed 32 = .ok (.aload_n 0, 1) := o42 ac_cX11_feed_32 0 rfl
theorem dX11_feed_33 : decode cX11_feed 33 = .ok (.getfield 10, 3) := o180 ac_cX11_feed_32 1 0 10 rfl
theorem dX11_feed_36 : decode cX11_feed 36 = .ok (.getfield 89, 3) := o180 ac_cX11_feed_32 4 0 89 rfl
theorem dX11_feed_39 : decode cX11_feed 39 = .ok (.iload_n 2, 1) := o28 ac_cX11_feed_32 7 rfl
theorem dX11_feed_40 : decode cX11_feed 40 = .ok (.invokevirtual 99, 3) := o182 ac_cX11_feed_32 8 0 99 rfl
theorem dX11_feed_43 : decode cX11_feed 43 = .ok (.aload_n 0, 1) := o42 ac_cX11_feed_32 11 rfl
theorem dX11_feed_44 : decode cX11_feed 44 = .ok (.getfield 10, 3) := o180 ac_cX11_feed_32 12 0 10 rfl
theorem dX11_feed_47 : decode cX11_feed 47 = .ok (.getfield 89, 3) := o180 ac_cX11_feed_32 15 0 89 rfl
def kb_cX11_feed_48 : List Nat := [0, 89, 29, 182, 0, 99, 42, 180, 0, 10, 180, 0, 89, 21, 4, 182, 0, 99, 42, 180]
theorem ac_cX11_feed_48 : AL cX11_feed 48 kb_cX11_feed_48 := AL.of (m := 20) (by decide +kernel)
theorem dX11_feed_50 : decode cX11_feed 50 = .ok (.iload_n 3, 1) := o29 ac_cX11_feed_48 2 rfl
theorem dX11_feed_51 : decode cX11_feed 51 = .ok (.invokevirtual 99, 3) := o182 ac_cX11_feed_48 3 0 99 rfl
theorem dX11_feed_54 : decode cX11_feed 54 = .ok (.aload_n 0, 1) := o42 ac_cX11_feed_48 6 rfl
theorem dX11_feed_55 : decode cX11_feed 55 = .ok (.getfield 10, 3) := o180 ac_cX11_feed_48 7 0 10 rfl
theorem dX11_feed_58 : decode cX11_feed 58 = .ok (.getfield 89, 3) := o180 ac_cX11_feed_48 10 0 89 rfl
theorem dX11_feed_61 : decode cX11_feed 61 = .ok (.iload 4, 2) := o21 ac_cX11_feed_48 13 4 rfl
theorem dX11_feed_63 : decode cX11_feed 63 = .ok (.invokevirtual 99, 3) := o182 ac_cX11_feed_48 15 0 99 rfl
def kb_cX11_feed_64 : List Nat := [0, 99, 42, 180, 0, 10, 180, 0, 89, 21, 5, 182, 0, 99, 42, 180, 0, 10, 180, 0]
theorem ac_cX11_feed_64 : AL cX11_feed 64 kb_cX11_feed_64 := AL.of (m := 20) (by decide +kernel)
theorem dX11_feed_66 : decode cX11_feed 66 = .ok (.aload_n 0, 1) := o42 ac_cX11_feed_64 2 rfl
theorem dX11_feed_67 : decode cX11_feed 67 = .ok (.getfield 10, 3) := o180 ac_cX11_feed_64 3 0 10 rfl
theorem dX11_feed_70 : decode cX11_feed 70 = .ok (.getfield 89, 3) := o180 ac_cX11_feed_64 6 0 89 rfl
theorem dX11_feed_73 : decode cX11_feed 73 = .ok (.iload 5, 2) := o21 ac_cX11_feed_64 9 5 rfl
theorem dX11_feed_75 : decode cX11_feed 75 = .ok (.invokevirtual 99, 3) := o182 ac_cX11_feed_64 11 0 99 rfl
theorem dX11_feed_78 : decode cX11_feed 78 = .ok (.aload_n 0, 1) := o42 ac_cX11_feed_64 14 rfl
theorem dX11_feed_79 : decode cX11_feed 79 = .ok (.getfield 10, 3) := o180 ac_cX11_feed_64 15 0 10 rfl
def kb_cX11_feed_80 : List Nat := [0, 10, 180, 0, 89, 180, 0, 93, 172]
theorem ac_cX11_feed_80 : AL cX11_feed 80 kb_cX11_feed_80 := AL.of (m := 9) (by decide +kernel)
theorem dX11_feed_82 : decode cX11_feed 82 = .ok (.getfield 89, 3) := o180 ac_cX11_feed_80 2 0 89 rfl
theorem dX11_feed_85 : decode cX11_feed 85 = .ok (.getfield 93, 3) := o180 ac_cX11_feed_80 5 0 93 rfl
theorem dX11_feed_88 : decode cX11_feed 88 = .ok (.ireturn, 1) := o172 ac_cX11_feed_80 8 rfl
def kb_cX11_back_0 : List Nat := [27, 155, 0, 17, 27, 42, 180, 0, 10, 180, 0, 89, 180, 0, 93, 164, 0, 5, 2, 172]
theorem ac_cX11_back_0 : AL cX11_back 0 kb_cX11_back_0 := AL.of (m := 20) (by decide +kernel)
theorem dX11_back_0 : decode cX11_back 0 = .ok (.iload_n 1, 1) := o27 ac_cX11_back_0 0 rfl
theorem dX11_back_1 : decode cX11_back 1 = .ok (.ifCond .lt 17, 3) := o155p ac_cX11_back_0 1 0 17 rfl rfl
theorem dX11_back_4 : decode cX11_back 4 = .ok (.iload_n 1, 1) := o27 ac_cX11_back_0 4 rfl
theorem dX11_back_5 : decode cX11_back 5 = .ok (.aload_n 0, 1) := o42 ac_cX11_back_0 5 rfl
theorem dX11_back_6 : decode cX11_back 6 = .ok (.getfield 10, 3) := o180 ac_cX11_back_0 6 0 10 rfl
theorem dX11_back_9 : decode cX11_back 9 = .ok (.getfield 89, 3) := o180 ac_cX11_back_0 9 0 89 rfl
theorem dX11_back_12 : decode cX11_back 12 = .ok (.getfield 93, 3) := o180 ac_cX11_back_0 12 0 93 rfl
theorem dX11_back_15 : decode cX11_back 15 = .ok (.if_icmp .le 5, 3) := o164p ac_cX11_back_0 15 0 5 rfl rfl
def kb_cX11_back_16 : List Nat := [0, 5, 2, 172, 42, 180, 0, 10, 180, 0, 89, 89, 180, 0, 93, 27, 100, 181, 0, 93]
theorem ac_cX11_back_16 : AL cX11_back 16 kb_cX11_back_16 := AL.of (m := 20) (by decide +kernel)
theorem dX11_back_20 : decode cX11_back 20 = .ok (.aload_n 0, 1) := o42 ac_cX11_back_16 4 rfl
theorem dX11_back_21 : decode cX11_back 21 = .ok (.getfield 10, 3) := o180 ac_cX11_back_16 5 0 10 rfl
theorem dX11_back_24 : decode cX11_back 24 = .ok (.getfield 89, 3) := o180 ac_cX11_back_16 8 0 89 rfl
theorem dX11_back_27 : decode cX11_back 27 = .ok (.dup, 1) := o89 ac_cX11_back_16 11 rfl
theorem dX11_back_28 : decode cX11_back 28 = .ok (.getfield 93, 3) := o180 ac_cX11_back_16 12 0 93 rfl
theorem dX11_back_31 : decode cX11_back 31 = .ok (.iload_n 1, 1) := o27 ac_cX11_back_16 15 rfl
def kb_cX11_back_32 : List Nat := [100, 181, 0, 93, 42, 180, 0, 10, 180, 0, 89, 180, 0, 93, 172]
theorem ac_cX11_back_32 : AL cX11_back 32 kb_cX11_back_32 := AL.of (m := 15) (by decide +kernel)
theorem dX11_back_32 : decode cX11_back 32 = .ok (.isub, 1) := o100 ac_cX11_back_32 0 rfl
theorem dX11_back_33 : decode cX11_back 33 = .ok (.putfield 93, 3) := o181 ac_cX11_back_32 1 0 93 rfl
theorem dX11_back_36 : decode cX11_back 36 = .ok (.aload_n 0, 1) := o42 ac_cX11_back_32 4 rfl
theorem dX11_back_37 : decode cX11_back 37 = .ok (.getfield 10, 3) := o180 ac_cX11_back_32 5 0 10 rfl
theorem dX11_back_40 : decode cX11_back 40 = .ok (.getfield 89, 3) := o180 ac_cX11_back_32 8 0 89 rfl
theorem dX11_back_43 : decode cX11_back 43 = .ok (.getfield 93, 3) := o180 ac_cX11_back_32 11 0 93 rfl
theorem dX11_back_46 : decode cX11_back 46 = .ok (.ireturn, 1) := o172 ac_cX11_back_32 14 rfl
theorem dX11_back_18 : decode cX11_back 18 = .ok (.iconst (-1), 1) := o2 ac_cX11_back_16 2 rfl
theorem dX11_back_19 : decode cX11_back 19 = .ok (.ireturn, 1) := o172 ac_cX11_back_16 3 rfl
def kb_cX2_add_0 : List Nat := [42, 180, 0, 19, 16, 20, 161, 0, 5, 2, 172, 42, 180, 0, 9, 42, 180, 0, 19, 27]
theorem ac_cX2_add_0 : AL cX2_add 0 kb_cX2_add_0 := AL.of (m := 20) (by decide +kernel)
theorem dX2_add_0 : decode cX2_add 0 = .ok (.aload_n 0, 1) := o42 ac_cX2_add_0 0 rfl
theorem dX2_add_1 : decode cX2_add 1 = .ok (.getfield 19, 3) := o180 ac_cX2_add_0 1 0 19 rfl
theorem dX2_add_4 : decode cX2_add 4 = .ok (.bipush 20, 2) := o16p ac_cX2_add_0 4 20 rfl rfl
theorem dX2_add_6 : decode cX2_add 6 = .ok (.if_icmp .lt 5, 3) := o161p ac_cX2_add_0 6 0 5 rfl rfl
theorem dX2_add_11 : decode cX2_add 11 = .ok (.aload_n 0, 1) := o42 ac_cX2_add_0 11 rfl
theorem dX2_add_12 : decode cX2_add 12 = .ok (.getfield 9, 3) := o180 ac_cX2_add_0 12 0 9 rfl
theorem dX2_add_15 : decode cX2_add 15 = .ok (.aload_n 0, 1) := o42 ac_cX2_add_0 15 rfl
def kb_cX2_add_16 : List Nat := [180, 0, 19, 27, 79, 42, 180, 0, 15, 42, 180, 0, 19, 28, 84, 42, 89, 180, 0, 19]
theorem ac_cX2_add_16 : AL cX2_add 16 kb_cX2_add_16 := AL.of (m := 20) (by decide +kernel)
theorem dX2_add_16 : decode cX2_add 16 = .ok (.getfield 19, 3) := o180 ac_cX2_add_16 0 0 19 rfl
theorem dX2_add_19 : decode cX2_add 19 = .ok (.iload_n 1, 1) := o27 ac_cX2_add_16 3 rfl
theorem dX2_add_20 : decode cX2_add 20 = .ok (.iastore, 1) := o79 ac_cX2_add_16 4 rfl
theorem dX2_add_21 : decode cX2_add 21 = .ok (.aload_n 0, 1) := o42 ac_cX2_add_16 5 rfl
theorem dX2_add_22 : decode cX2_add 22 = .ok (.getfield 15, 3) := o180 ac_cX2_add_16 6 0 15 rfl
theorem dX2_add_25 : decode cX2_add 25 = .ok (.aload_n 0, 1) := o42 ac_cX2_add_16 9 rfl
theorem dX2_add_26 : decode cX2_add 26 = .ok (.getfield 19, 3) := o180 ac_cX2_add_16 10 0 19 rfl
theorem dX2_add_29 : decode cX2_add 29 = .ok (.iload_n 2, 1) := o28 ac_cX2_add_16 13 rfl
theorem dX2_add_30 : decode cX2_add 30 = .ok (.bastore, 1) := o84 ac_cX2_add_16 14 rfl
theorem dX2_add_31 : decode cX2_add 31 = .ok (.aload_n 0, 1) := o42 ac_cX2_add_16 15 rfl
def kb_cX2_add_32 : List Nat := [89, 180, 0, 19, 4, 96, 181, 0, 19, 42, 180, 0, 19, 4, 100, 172]
theorem ac_cX2_add_32 : AL cX2_add 32 kb_cX2_add_32 := AL.of (m := 16) (by decide +kernel)
theorem dX2_add_32 : decode cX2_add 32 = .ok (.dup, 1) := o89 ac_cX2_add_32 0 rfl
theorem dX2_add_33 : decode cX2_add 33 = .ok (.getfield 19, 3) := o180 ac_cX2_add_32 1 0 19 rfl
theorem dX2_add_36 : decode cX2_add 36 = .ok (.iconst 1, 1) := o4 ac_cX2_add_32 4 rfl
theorem dX2_add_37 : decode cX2_add 37 = .ok (.iadd, 1) := o96 ac_cX2_add_32 5 rfl
theorem dX2_add_38 : decode cX2_add 38 = .ok (.putfield 19, 3) := o181 ac_cX2_add_32 6 0 19 rfl
theorem dX2_add_41 : decode cX2_add 41 = .ok (.aload_n 0, 1) := o42 ac_cX2_add_32 9 rfl
theorem dX2_add_42 : decode cX2_add 42 = .ok (.getfield 19, 3) := o180 ac_cX2_add_32 10 0 19 rfl
theorem dX2_add_45 : decode cX2_add 45 = .ok (.iconst 1, 1) := o4 ac_cX2_add_32 13 rfl
theorem dX2_add_46 : decode cX2_add 46 = .ok (.isub, 1) := o100 ac_cX2_add_32 14 rfl
theorem dX2_add_47 : decode cX2_add 47 = .ok (.ireturn, 1) := o172 ac_cX2_add_32 15 rfl
def kb_cX11_tell_0 : List Nat := [27, 155, 0, 9, 27, 16, 40, 164, 0, 5, 2, 172, 42, 180, 0, 33, 27, 28, 182, 1]
theorem ac_cX11_tell_0 : AL cX11_tell 0 kb_cX11_tell_0 := AL.of (m := 20) (by decide +kernel)
theorem dX11_tell_0 : decode cX11_tell 0 = .ok (.iload_n 1, 1) := o27 ac_cX11_tell_0 0 rfl
theorem dX11_tell_1 : decode cX11_tell 1 = .ok (.ifCond .lt 9, 3) := o155p ac_cX11_tell_0 1 0 9 rfl rfl
theorem dX11_tell_4 : decode cX11_tell 4 = .ok (.iload_n 1, 1) := o27 ac_cX11_tell_0 4 rfl
theorem dX11_tell_5 : decode cX11_tell 5 = .ok (.bipush 40, 2) := o16p ac_cX11_tell_0 5 40 rfl rfl
theorem dX11_tell_7 : decode cX11_tell 7 = .ok (.if_icmp .le 5, 3) := o164p ac_cX11_tell_0 7 0 5 rfl rfl
theorem dX11_tell_12 : decode cX11_tell 12 = .ok (.aload_n 0, 1) := o42 ac_cX11_tell_0 12 rfl
theorem dX11_tell_13 : decode cX11_tell 13 = .ok (.getfield 33, 3) := o180 ac_cX11_tell_0 13 0 33 rfl
def kb_cX11_tell_16 : List Nat := [27, 28, 182, 1, 66, 172]
theorem ac_cX11_tell_16 : AL cX11_tell 16 kb_cX11_tell_16 := AL.of (m := 6) (by decide +kernel)
theorem dX11_tell_16 : decode cX11_tell 16 = .ok (.iload_n 1, 1) := o27 ac_cX11_tell_16 0 rfl
theorem dX11_tell_17 : decode cX11_tell 17 = .ok (.iload_n 2, 1) := o28 ac_cX11_tell_16 1 rfl
theorem dX11_tell_18 : decode cX11_tell 18 = .ok (.invokevirtual 322, 3) := o182 ac_cX11_tell_16 2 1 66 rfl
theorem dX11_tell_21 : decode cX11_tell 21 = .ok (.ireturn, 1) := o172 ac_cX11_tell_16 5 rfl
theorem dX11_tell_10 : decode cX11_tell 10 = .ok (.iconst (-1), 1) := o2 ac_cX11_tell_0 10 rfl
theorem dX11_tell_11 : decode cX11_tell 11 = .ok (.ireturn, 1) := o172 ac_cX11_tell_0 11 rfl
def kb_cX11_slotsHeld_0 : List Nat := [3, 60, 3, 61, 28, 6, 162, 0, 21, 42, 180, 0, 65, 28, 51, 153, 0, 6, 132, 1]
theorem ac_cX11_slotsHeld_0 : AL cX11_slotsHeld 0 kb_cX11_slotsHeld_0 := AL.of (m := 20) (by decide +kernel)
theorem dX11_slotsHeld_0 : decode cX11_slotsHeld 0 = .ok (.iconst 0, 1) := o3 ac_cX11_slotsHeld_0 0 rfl
theorem dX11_slotsHeld_1 : decode cX11_slotsHeld 1 = .ok (.istore_n 1, 1) := o60 ac_cX11_slotsHeld_0 1 rfl
theorem dX11_slotsHeld_2 : decode cX11_slotsHeld 2 = .ok (.iconst 0, 1) := o3 ac_cX11_slotsHeld_0 2 rfl
theorem dX11_slotsHeld_3 : decode cX11_slotsHeld 3 = .ok (.istore_n 2, 1) := o61 ac_cX11_slotsHeld_0 3 rfl
theorem dX11_slotsHeld_4 : decode cX11_slotsHeld 4 = .ok (.iload_n 2, 1) := o28 ac_cX11_slotsHeld_0 4 rfl
theorem dX11_slotsHeld_5 : decode cX11_slotsHeld 5 = .ok (.iconst 3, 1) := o6 ac_cX11_slotsHeld_0 5 rfl
theorem dX11_slotsHeld_6 : decode cX11_slotsHeld 6 = .ok (.if_icmp .ge 21, 3) := o162p ac_cX11_slotsHeld_0 6 0 21 rfl rfl
theorem dX11_slotsHeld_9 : decode cX11_slotsHeld 9 = .ok (.aload_n 0, 1) := o42 ac_cX11_slotsHeld_0 9 rfl
theorem dX11_slotsHeld_10 : decode cX11_slotsHeld 10 = .ok (.getfield 65, 3) := o180 ac_cX11_slotsHeld_0 10 0 65 rfl
theorem dX11_slotsHeld_13 : decode cX11_slotsHeld 13 = .ok (.iload_n 2, 1) := o28 ac_cX11_slotsHeld_0 13 rfl
theorem dX11_slotsHeld_14 : decode cX11_slotsHeld 14 = .ok (.baload, 1) := o51 ac_cX11_slotsHeld_0 14 rfl
theorem dX11_slotsHeld_15 : decode cX11_slotsHeld 15 = .ok (.ifCond .eq 6, 3) := o153p ac_cX11_slotsHeld_0 15 0 6 rfl rfl
def kb_cX11_slotsHeld_16 : List Nat := [0, 6, 132, 1, 1, 132, 2, 1, 167, 255, 236, 27, 172]
theorem ac_cX11_slotsHeld_16 : AL cX11_slotsHeld 16 kb_cX11_slotsHeld_16 := AL.of (m := 13) (by decide +kernel)
theorem dX11_slotsHeld_21 : decode cX11_slotsHeld 21 = .ok (.iinc 2 1, 3) := o132p ac_cX11_slotsHeld_16 5 2 1 rfl rfl
theorem dX11_slotsHeld_24 : decode cX11_slotsHeld 24 = .ok (.goto (-20), 3) := o167n ac_cX11_slotsHeld_16 8 255 236 19 rfl rfl rfl
theorem dX11_slotsHeld_27 : decode cX11_slotsHeld 27 = .ok (.iload_n 1, 1) := o27 ac_cX11_slotsHeld_16 11 rfl
theorem dX11_slotsHeld_28 : decode cX11_slotsHeld 28 = .ok (.ireturn, 1) := o172 ac_cX11_slotsHeld_16 12 rfl
def kb_cX11_weightsOf_0 : List Nat := [3, 61, 3, 62, 29, 42, 180, 0, 82, 180, 0, 168, 162, 0, 30, 27, 29, 122, 4, 126]
theorem ac_cX11_weightsOf_0 : AL cX11_weightsOf 0 kb_cX11_weightsOf_0 := AL.of (m := 20) (by decide +kernel)
theorem dX11_weightsOf_0 : decode cX11_weightsOf 0 = .ok (.iconst 0, 1) := o3 ac_cX11_weightsOf_0 0 rfl
theorem dX11_weightsOf_1 : decode cX11_weightsOf 1 = .ok (.istore_n 2, 1) := o61 ac_cX11_weightsOf_0 1 rfl
theorem dX11_weightsOf_2 : decode cX11_weightsOf 2 = .ok (.iconst 0, 1) := o3 ac_cX11_weightsOf_0 2 rfl
theorem dX11_weightsOf_3 : decode cX11_weightsOf 3 = .ok (.istore_n 3, 1) := o62 ac_cX11_weightsOf_0 3 rfl
theorem dX11_weightsOf_4 : decode cX11_weightsOf 4 = .ok (.iload_n 3, 1) := o29 ac_cX11_weightsOf_0 4 rfl
theorem dX11_weightsOf_5 : decode cX11_weightsOf 5 = .ok (.aload_n 0, 1) := o42 ac_cX11_weightsOf_0 5 rfl
theorem dX11_weightsOf_6 : decode cX11_weightsOf 6 = .ok (.getfield 82, 3) := o180 ac_cX11_weightsOf_0 6 0 82 rfl
theorem dX11_weightsOf_9 : decode cX11_weightsOf 9 = .ok (.getfield 168, 3) := o180 ac_cX11_weightsOf_0 9 0 168 rfl
theorem dX11_weightsOf_12 : decode cX11_weightsOf 12 = .ok (.if_icmp .ge 30, 3) := o162p ac_cX11_weightsOf_0 12 0 30 rfl rfl
def kb_cX11_weightsOf_32 : List Nat := [29, 46, 96, 61, 132, 3, 1, 167, 255, 221, 28, 172]
theorem ac_cX11_weightsOf_32 : AL cX11_weightsOf 32 kb_cX11_weightsOf_32 := AL.of (m := 12) (by decide +kernel)
theorem dX11_weightsOf_42 : decode cX11_weightsOf 42 = .ok (.iload_n 2, 1) := o28 ac_cX11_weightsOf_32 10 rfl
theorem dX11_weightsOf_43 : decode cX11_weightsOf 43 = .ok (.ireturn, 1) := o172 ac_cX11_weightsOf_32 11 rfl
def kb_cX11_count_0 : List Nat := [27, 170, 0, 0, 0, 0, 1, 8, 0, 0, 0, 0, 0, 0, 0, 17, 0, 0, 0, 87]
theorem ac_cX11_count_0 : AL cX11_count 0 kb_cX11_count_0 := AL.of (m := 20) (by decide +kernel)
theorem dX11_count_0 : decode cX11_count 0 = .ok (.iload_n 1, 1) := o27 ac_cX11_count_0 0 rfl
theorem dX11_count_1 : decode cX11_count 1 = .ok (.tableswitch 264 0 17 #[87, 95, 103, 111, 119, 128, 137, 145, 153, 161, 185, 197, 208, 216, 224, 229, 242, 255], 87) := by decide +kernel
def kb_cX11_count_80 : List Nat := [0, 0, 0, 242, 0, 0, 0, 255, 42, 180, 0, 82, 180, 0, 168, 172, 42, 180, 0, 82]
theorem ac_cX11_count_80 : AL cX11_count 80 kb_cX11_count_80 := AL.of (m := 20) (by decide +kernel)
theorem dX11_count_88 : decode cX11_count 88 = .ok (.aload_n 0, 1) := o42 ac_cX11_count_80 8 rfl
theorem dX11_count_89 : decode cX11_count 89 = .ok (.getfield 82, 3) := o180 ac_cX11_count_80 9 0 82 rfl
theorem dX11_count_92 : decode cX11_count 92 = .ok (.getfield 168, 3) := o180 ac_cX11_count_80 12 0 168 rfl
theorem dX11_count_95 : decode cX11_count 95 = .ok (.ireturn, 1) := o172 ac_cX11_count_80 15 rfl
def kb_cX11_count_96 : List Nat := [42, 180, 0, 82, 180, 0, 171, 172, 42, 180, 0, 54, 180, 0, 174, 172, 42, 180, 0, 54]
theorem ac_cX11_count_96 : AL cX11_count 96 kb_cX11_count_96 := AL.of (m := 20) (by decide +kernel)
theorem dX11_count_96 : decode cX11_count 96 = .ok (.aload_n 0, 1) := o42 ac_cX11_count_96 0 rfl
theorem dX11_count_97 : decode cX11_count 97 = .ok (.getfield 82, 3) := o180 ac_cX11_count_96 1 0 82 rfl
theorem dX11_count_100 : decode cX11_count 100 = .ok (.getfield 171, 3) := o180 ac_cX11_count_96 4 0 171 rfl
theorem dX11_count_103 : decode cX11_count 103 = .ok (.ireturn, 1) := o172 ac_cX11_count_96 7 rfl
theorem dX11_count_104 : decode cX11_count 104 = .ok (.aload_n 0, 1) := o42 ac_cX11_count_96 8 rfl
theorem dX11_count_105 : decode cX11_count 105 = .ok (.getfield 54, 3) := o180 ac_cX11_count_96 9 0 54 rfl
theorem dX11_count_108 : decode cX11_count 108 = .ok (.getfield 174, 3) := o180 ac_cX11_count_96 12 0 174 rfl
theorem dX11_count_111 : decode cX11_count 111 = .ok (.ireturn, 1) := o172 ac_cX11_count_96 15 rfl
def kb_cX11_count_112 : List Nat := [42, 180, 0, 54, 180, 0, 177, 172, 42, 180, 0, 54, 3, 182, 0, 180, 172, 42, 180, 0]
theorem ac_cX11_count_112 : AL cX11_count 112 kb_cX11_count_112 := AL.of (m := 20) (by decide +kernel)
theorem dX11_count_112 : decode cX11_count 112 = .ok (.aload_n 0, 1) := o42 ac_cX11_count_112 0 rfl
theorem dX11_count_113 : decode cX11_count 113 = .ok (.getfield 54, 3) := o180 ac_cX11_count_112 1 0 54 rfl
theorem dX11_count_116 : decode cX11_count 116 = .ok (.getfield 177, 3) := o180 ac_cX11_count_112 4 0 177 rfl
theorem dX11_count_119 : decode cX11_count 119 = .ok (.ireturn, 1) := o172 ac_cX11_count_112 7 rfl
theorem dX11_count_120 : decode cX11_count 120 = .ok (.aload_n 0, 1) := o42 ac_cX11_count_112 8 rfl
theorem dX11_count_121 : decode cX11_count 121 = .ok (.getfield 54, 3) := o180 ac_cX11_count_112 9 0 54 rfl
theorem dX11_count_124 : decode cX11_count 124 = .ok (.iconst 0, 1) := o3 ac_cX11_count_112 12 rfl
theorem dX11_count_125 : decode cX11_count 125 = .ok (.invokevirtual 180, 3) := o182 ac_cX11_count_112 13 0 180 rfl
def kb_cX11_count_128 : List Nat := [172, 42, 180, 0, 54, 5, 182, 0, 180, 172, 42, 180, 0, 54, 180, 0, 184, 172, 42, 180]
theorem ac_cX11_count_128 : AL cX11_count 128 kb_cX11_count_128 := AL.of (m := 20) (by decide +kernel)
theorem dX11_count_128 : decode cX11_count 128 = .ok (.ireturn, 1) := o172 ac_cX11_count_128 0 rfl
theorem dX11_count_129 : decode cX11_count 129 = .ok (.aload_n 0, 1) := o42 ac_cX11_count_128 1 rfl
theorem dX11_count_130 : decode cX11_count 130 = .ok (.getfield 54, 3) := o180 ac_cX11_count_128 2 0 54 rfl
theorem dX11_count_133 : decode cX11_count 133 = .ok (.iconst 2, 1) := o5 ac_cX11_count_128 5 rfl
theorem dX11_count_134 : decode cX11_count 134 = .ok (.invokevirtual 180, 3) := o182 ac_cX11_count_128 6 0 180 rfl
theorem dX11_count_137 : decode cX11_count 137 = .ok (.ireturn, 1) := o172 ac_cX11_count_128 9 rfl
theorem dX11_count_138 : decode cX11_count 138 = .ok (.aload_n 0, 1) := o42 ac_cX11_count_128 10 rfl
theorem dX11_count_139 : decode cX11_count 139 = .ok (.getfield 54, 3) := o180 ac_cX11_count_128 11 0 54 rfl
theorem dX11_count_142 : decode cX11_count 142 = .ok (.getfield 184, 3) := o180 ac_cX11_count_128 14 0 184 rfl
def kb_cX11_count_144 : List Nat := [184, 172, 42, 180, 0, 54, 180, 0, 187, 172, 42, 180, 0, 54, 180, 0, 190, 172, 42, 180]
theorem ac_cX11_count_144 : AL cX11_count 144 kb_cX11_count_144 := AL.of (m := 20) (by decide +kernel)
theorem dX11_count_145 : decode cX11_count 145 = .ok (.ireturn, 1) := o172 ac_cX11_count_144 1 rfl
theorem dX11_count_146 : decode cX11_count 146 = .ok (.aload_n 0, 1) := o42 ac_cX11_count_144 2 rfl
theorem dX11_count_147 : decode cX11_count 147 = .ok (.getfield 54, 3) := o180 ac_cX11_count_144 3 0 54 rfl
theorem dX11_count_150 : decode cX11_count 150 = .ok (.getfield 187, 3) := o180 ac_cX11_count_144 6 0 187 rfl
theorem dX11_count_153 : decode cX11_count 153 = .ok (.ireturn, 1) := o172 ac_cX11_count_144 9 rfl
theorem dX11_count_154 : decode cX11_count 154 = .ok (.aload_n 0, 1) := o42 ac_cX11_count_144 10 rfl
theorem dX11_count_155 : decode cX11_count 155 = .ok (.getfield 54, 3) := o180 ac_cX11_count_144 11 0 54 rfl
theorem dX11_count_158 : decode cX11_count 158 = .ok (.getfield 190, 3) := o180 ac_cX11_count_144 14 0 190 rfl
def kb_cX11_count_160 : List Nat := [190, 172, 42, 180, 0, 54, 180, 0, 193, 2, 160, 0, 8, 16, 254, 167, 0, 10, 42, 180]
theorem ac_cX11_count_160 : AL cX11_count 160 kb_cX11_count_160 := AL.of (m := 20) (by decide +kernel)
theorem dX11_count_161 : decode cX11_count 161 = .ok (.ireturn, 1) := o172 ac_cX11_count_160 1 rfl
theorem dX11_count_162 : decode cX11_count 162 = .ok (.aload_n 0, 1) := o42 ac_cX11_count_160 2 rfl
theorem dX11_count_163 : decode cX11_count 163 = .ok (.getfield 54, 3) := o180 ac_cX11_count_160 3 0 54 rfl
theorem dX11_count_166 : decode cX11_count 166 = .ok (.getfield 193, 3) := o180 ac_cX11_count_160 6 0 193 rfl
theorem dX11_count_169 : decode cX11_count 169 = .ok (.iconst (-1), 1) := o2 ac_cX11_count_160 9 rfl
theorem dX11_count_170 : decode cX11_count 170 = .ok (.if_icmp .ne 8, 3) := o160p ac_cX11_count_160 10 0 8 rfl rfl
theorem dX11_count_173 : decode cX11_count 173 = .ok (.bipush (-2), 2) := o16n ac_cX11_count_160 13 254 1 rfl rfl rfl
theorem dX11_count_175 : decode cX11_count 175 = .ok (.goto 10, 3) := o167p ac_cX11_count_160 15 0 10 rfl rfl
def kb_cX11_count_176 : List Nat := [0, 10, 42, 180, 0, 54, 180, 0, 193, 172, 42, 180, 0, 54, 42, 180, 0, 82, 182, 0]
theorem ac_cX11_count_176 : AL cX11_count 176 kb_cX11_count_176 := AL.of (m := 20) (by decide +kernel)
theorem dX11_count_185 : decode cX11_count 185 = .ok (.ireturn, 1) := o172 ac_cX11_count_176 9 rfl
theorem dX11_count_186 : decode cX11_count 186 = .ok (.aload_n 0, 1) := o42 ac_cX11_count_176 10 rfl
theorem dX11_count_187 : decode cX11_count 187 = .ok (.getfield 54, 3) := o180 ac_cX11_count_176 11 0 54 rfl
theorem dX11_count_190 : decode cX11_count 190 = .ok (.aload_n 0, 1) := o42 ac_cX11_count_176 14 rfl
theorem dX11_count_191 : decode cX11_count 191 = .ok (.getfield 82, 3) := o180 ac_cX11_count_176 15 0 82 rfl
def kb_cX11_count_192 : List Nat := [0, 82, 182, 0, 196, 172, 42, 180, 0, 10, 180, 0, 89, 180, 0, 93, 172, 42, 180, 0]
theorem ac_cX11_count_192 : AL cX11_count 192 kb_cX11_count_192 := AL.of (m := 20) (by decide +kernel)
theorem dX11_count_194 : decode cX11_count 194 = .ok (.invokevirtual 196, 3) := o182 ac_cX11_count_192 2 0 196 rfl
theorem dX11_count_197 : decode cX11_count 197 = .ok (.ireturn, 1) := o172 ac_cX11_count_192 5 rfl
theorem dX11_count_198 : decode cX11_count 198 = .ok (.aload_n 0, 1) := o42 ac_cX11_count_192 6 rfl
theorem dX11_count_199 : decode cX11_count 199 = .ok (.getfield 10, 3) := o180 ac_cX11_count_192 7 0 10 rfl
theorem dX11_count_202 : decode cX11_count 202 = .ok (.getfield 89, 3) := o180 ac_cX11_count_192 10 0 89 rfl
theorem dX11_count_205 : decode cX11_count 205 = .ok (.getfield 93, 3) := o180 ac_cX11_count_192 13 0 93 rfl
def kb_cX11_count_208 : List Nat := [172, 42, 180, 0, 26, 180, 0, 199, 172, 42, 180, 0, 33, 180, 0, 117, 172, 42, 182, 0]
theorem ac_cX11_count_208 : AL cX11_count 208 kb_cX11_count_208 := AL.of (m := 20) (by decide +kernel)
theorem dX11_count_208 : decode cX11_count 208 = .ok (.ireturn, 1) := o172 ac_cX11_count_208 0 rfl
theorem dX11_count_209 : decode cX11_count 209 = .ok (.aload_n 0, 1) := o42 ac_cX11_count_208 1 rfl
theorem dX11_count_210 : decode cX11_count 210 = .ok (.getfield 26, 3) := o180 ac_cX11_count_208 2 0 26 rfl
theorem dX11_count_213 : decode cX11_count 213 = .ok (.getfield 199, 3) := o180 ac_cX11_count_208 5 0 199 rfl
theorem dX11_count_216 : decode cX11_count 216 = .ok (.ireturn, 1) := o172 ac_cX11_count_208 8 rfl
theorem dX11_count_217 : decode cX11_count 217 = .ok (.aload_n 0, 1) := o42 ac_cX11_count_208 9 rfl
theorem dX11_count_218 : decode cX11_count 218 = .ok (.getfield 33, 3) := o180 ac_cX11_count_208 10 0 33 rfl
theorem dX11_count_221 : decode cX11_count 221 = .ok (.getfield 117, 3) := o180 ac_cX11_count_208 13 0 117 rfl
def kb_cX11_count_224 : List Nat := [172, 42, 182, 0, 200, 172, 42, 42, 180, 0, 54, 3, 182, 0, 180, 182, 0, 203, 172, 42]
theorem ac_cX11_count_224 : AL cX11_count 224 kb_cX11_count_224 := AL.of (m := 20) (by decide +kernel)
theorem dX11_count_224 : decode cX11_count 224 = .ok (.ireturn, 1) := o172 ac_cX11_count_224 0 rfl
theorem dX11_count_225 : decode cX11_count 225 = .ok (.aload_n 0, 1) := o42 ac_cX11_count_224 1 rfl
theorem dX11_count_226 : decode cX11_count 226 = .ok (.invokevirtual 200, 3) := o182 ac_cX11_count_224 2 0 200 rfl
theorem dX11_count_229 : decode cX11_count 229 = .ok (.ireturn, 1) := o172 ac_cX11_count_224 5 rfl
theorem dX11_count_230 : decode cX11_count 230 = .ok (.aload_n 0, 1) := o42 ac_cX11_count_224 6 rfl
theorem dX11_count_231 : decode cX11_count 231 = .ok (.aload_n 0, 1) := o42 ac_cX11_count_224 7 rfl
theorem dX11_count_232 : decode cX11_count 232 = .ok (.getfield 54, 3) := o180 ac_cX11_count_224 8 0 54 rfl
theorem dX11_count_235 : decode cX11_count 235 = .ok (.iconst 0, 1) := o3 ac_cX11_count_224 11 rfl
theorem dX11_count_236 : decode cX11_count 236 = .ok (.invokevirtual 180, 3) := o182 ac_cX11_count_224 12 0 180 rfl
theorem dX11_count_239 : decode cX11_count 239 = .ok (.invokevirtual 203, 3) := o182 ac_cX11_count_224 15 0 203 rfl
def kb_cX11_count_240 : List Nat := [0, 203, 172, 42, 42, 180, 0, 54, 5, 182, 0, 180, 182, 0, 203, 172, 42, 180, 0, 54]
theorem ac_cX11_count_240 : AL cX11_count 240 kb_cX11_count_240 := AL.of (m := 20) (by decide +kernel)
theorem dX11_count_242 : decode cX11_count 242 = .ok (.ireturn, 1) := o172 ac_cX11_count_240 2 rfl
theorem dX11_count_243 : decode cX11_count 243 = .ok (.aload_n 0, 1) := o42 ac_cX11_count_240 3 rfl
theorem dX11_count_244 : decode cX11_count 244 = .ok (.aload_n 0, 1) := o42 ac_cX11_count_240 4 rfl
theorem dX11_count_245 : decode cX11_count 245 = .ok (.getfield 54, 3) := o180 ac_cX11_count_240 5 0 54 rfl
theorem dX11_count_248 : decode cX11_count 248 = .ok (.iconst 2, 1) := o5 ac_cX11_count_240 8 rfl
theorem dX11_count_249 : decode cX11_count 249 = .ok (.invokevirtual 180, 3) := o182 ac_cX11_count_240 9 0 180 rfl
theorem dX11_count_252 : decode cX11_count 252 = .ok (.invokevirtual 203, 3) := o182 ac_cX11_count_240 12 0 203 rfl
theorem dX11_count_255 : decode cX11_count 255 = .ok (.ireturn, 1) := o172 ac_cX11_count_240 15 rfl
def kb_cX11_count_256 : List Nat := [42, 180, 0, 54, 4, 182, 0, 180, 172, 2, 172]
theorem ac_cX11_count_256 : AL cX11_count 256 kb_cX11_count_256 := AL.of (m := 11) (by decide +kernel)
theorem dX11_count_256 : decode cX11_count 256 = .ok (.aload_n 0, 1) := o42 ac_cX11_count_256 0 rfl
theorem dX11_count_257 : decode cX11_count 257 = .ok (.getfield 54, 3) := o180 ac_cX11_count_256 1 0 54 rfl
theorem dX11_count_260 : decode cX11_count 260 = .ok (.iconst 1, 1) := o4 ac_cX11_count_256 4 rfl
theorem dX11_count_261 : decode cX11_count 261 = .ok (.invokevirtual 180, 3) := o182 ac_cX11_count_256 5 0 180 rfl
theorem dX11_count_264 : decode cX11_count 264 = .ok (.ireturn, 1) := o172 ac_cX11_count_256 8 rfl
theorem dX11_count_265 : decode cX11_count 265 = .ok (.iconst (-1), 1) := o2 ac_cX11_count_256 9 rfl
theorem dX11_count_266 : decode cX11_count 266 = .ok (.ireturn, 1) := o172 ac_cX11_count_256 10 rfl
def kb_cX11_isHeight_0 : List Nat := [26, 155, 0, 13, 26, 16, 9, 163, 0, 7, 4, 167, 0, 4, 3, 172]
theorem ac_cX11_isHeight_0 : AL cX11_isHeight 0 kb_cX11_isHeight_0 := AL.of (m := 16) (by decide +kernel)
theorem dX11_isHeight_0 : decode cX11_isHeight 0 = .ok (.iload_n 0, 1) := o26 ac_cX11_isHeight_0 0 rfl
theorem dX11_isHeight_1 : decode cX11_isHeight 1 = .ok (.ifCond .lt 13, 3) := o155p ac_cX11_isHeight_0 1 0 13 rfl rfl
theorem dX11_isHeight_4 : decode cX11_isHeight 4 = .ok (.iload_n 0, 1) := o26 ac_cX11_isHeight_0 4 rfl
theorem dX11_isHeight_5 : decode cX11_isHeight 5 = .ok (.bipush 9, 2) := o16p ac_cX11_isHeight_0 5 9 rfl rfl
theorem dX11_isHeight_7 : decode cX11_isHeight 7 = .ok (.if_icmp .gt 7, 3) := o163p ac_cX11_isHeight_0 7 0 7 rfl rfl
theorem dX11_isHeight_10 : decode cX11_isHeight 10 = .ok (.iconst 1, 1) := o4 ac_cX11_isHeight_0 10 rfl
theorem dX11_isHeight_11 : decode cX11_isHeight 11 = .ok (.goto 4, 3) := o167p ac_cX11_isHeight_0 11 0 4 rfl rfl
theorem dX11_isHeight_15 : decode cX11_isHeight 15 = .ok (.ireturn, 1) := o172 ac_cX11_isHeight_0 15 rfl
theorem dX11_isHeight_14 : decode cX11_isHeight 14 = .ok (.iconst 0, 1) := o3 ac_cX11_isHeight_0 14 rfl
def kb_cX11_set_0 : List Nat := [27, 184, 0, 153, 153, 0, 14, 42, 180, 0, 54, 180, 0, 217, 27, 160, 0, 5, 3, 172]
theorem ac_cX11_set_0 : AL cX11_set 0 kb_cX11_set_0 := AL.of (m := 20) (by decide +kernel)
theorem dX11_set_0 : decode cX11_set 0 = .ok (.iload_n 1, 1) := o27 ac_cX11_set_0 0 rfl
theorem dX11_set_1 : decode cX11_set 1 = .ok (.invokestatic 153, 3) := o184 ac_cX11_set_0 1 0 153 rfl
theorem dX11_set_4 : decode cX11_set 4 = .ok (.ifCond .eq 14, 3) := o153p ac_cX11_set_0 4 0 14 rfl rfl
theorem dX11_set_7 : decode cX11_set 7 = .ok (.aload_n 0, 1) := o42 ac_cX11_set_0 7 rfl
theorem dX11_set_8 : decode cX11_set 8 = .ok (.getfield 54, 3) := o180 ac_cX11_set_0 8 0 54 rfl
theorem dX11_set_11 : decode cX11_set 11 = .ok (.getfield 217, 3) := o180 ac_cX11_set_0 11 0 217 rfl
theorem dX11_set_14 : decode cX11_set 14 = .ok (.iload_n 1, 1) := o27 ac_cX11_set_0 14 rfl
theorem dX11_set_15 : decode cX11_set 15 = .ok (.if_icmp .ne 5, 3) := o160p ac_cX11_set_0 15 0 5 rfl rfl
def kb_cX11_set_16 : List Nat := [0, 5, 3, 172, 42, 180, 0, 26, 42, 180, 0, 54, 182, 0, 206, 42, 180, 0, 54, 27]
theorem ac_cX11_set_16 : AL cX11_set 16 kb_cX11_set_16 := AL.of (m := 20) (by decide +kernel)
theorem dX11_set_20 : decode cX11_set 20 = .ok (.aload_n 0, 1) := o42 ac_cX11_set_16 4 rfl
theorem dX11_set_21 : decode cX11_set 21 = .ok (.getfield 26, 3) := o180 ac_cX11_set_16 5 0 26 rfl
theorem dX11_set_24 : decode cX11_set 24 = .ok (.aload_n 0, 1) := o42 ac_cX11_set_16 8 rfl
theorem dX11_set_25 : decode cX11_set 25 = .ok (.getfield 54, 3) := o180 ac_cX11_set_16 9 0 54 rfl
theorem dX11_set_28 : decode cX11_set 28 = .ok (.invokevirtual 206, 3) := o182 ac_cX11_set_16 12 0 206 rfl
theorem dX11_set_31 : decode cX11_set 31 = .ok (.aload_n 0, 1) := o42 ac_cX11_set_16 15 rfl
def kb_cX11_set_32 : List Nat := [180, 0, 54, 27, 181, 0, 217, 4, 172]
theorem ac_cX11_set_32 : AL cX11_set 32 kb_cX11_set_32 := AL.of (m := 9) (by decide +kernel)
theorem dX11_set_32 : decode cX11_set 32 = .ok (.getfield 54, 3) := o180 ac_cX11_set_32 0 0 54 rfl
theorem dX11_set_35 : decode cX11_set 35 = .ok (.iload_n 1, 1) := o27 ac_cX11_set_32 3 rfl
theorem dX11_set_36 : decode cX11_set 36 = .ok (.putfield 217, 3) := o181 ac_cX11_set_32 4 0 217 rfl
theorem dX11_set_39 : decode cX11_set 39 = .ok (.iconst 1, 1) := o4 ac_cX11_set_32 7 rfl
theorem dX11_set_40 : decode cX11_set 40 = .ok (.ireturn, 1) := o172 ac_cX11_set_32 8 rfl
theorem dX11_set_18 : decode cX11_set 18 = .ok (.iconst 0, 1) := o3 ac_cX11_set_16 2 rfl
theorem dX11_set_19 : decode cX11_set 19 = .ok (.ireturn, 1) := o172 ac_cX11_set_16 3 rfl
def kb_cX11_beats_0 : List Nat := [27, 155, 0, 9, 27, 16, 60, 164, 0, 5, 2, 172, 27, 158, 0, 37, 42, 180, 0, 26]
theorem ac_cX11_beats_0 : AL cX11_beats 0 kb_cX11_beats_0 := AL.of (m := 20) (by decide +kernel)
theorem dX11_beats_0 : decode cX11_beats 0 = .ok (.iload_n 1, 1) := o27 ac_cX11_beats_0 0 rfl
theorem dX11_beats_1 : decode cX11_beats 1 = .ok (.ifCond .lt 9, 3) := o155p ac_cX11_beats_0 1 0 9 rfl rfl
theorem dX11_beats_4 : decode cX11_beats 4 = .ok (.iload_n 1, 1) := o27 ac_cX11_beats_0 4 rfl
theorem dX11_beats_5 : decode cX11_beats 5 = .ok (.bipush 60, 2) := o16p ac_cX11_beats_0 5 60 rfl rfl
theorem dX11_beats_7 : decode cX11_beats 7 = .ok (.if_icmp .le 5, 3) := o164p ac_cX11_beats_0 7 0 5 rfl rfl
theorem dX11_beats_12 : decode cX11_beats 12 = .ok (.iload_n 1, 1) := o27 ac_cX11_beats_0 12 rfl
theorem dX11_beats_13 : decode cX11_beats 13 = .ok (.ifCond .le 37, 3) := o158p ac_cX11_beats_0 13 0 37 rfl rfl
def kb_cX11_beats_48 : List Nat := [0, 223, 42, 180, 0, 54, 180, 0, 174, 172]
theorem ac_cX11_beats_48 : AL cX11_beats 48 kb_cX11_beats_48 := AL.of (m := 10) (by decide +kernel)
theorem dX11_beats_50 : decode cX11_beats 50 = .ok (.aload_n 0, 1) := o42 ac_cX11_beats_48 2 rfl
theorem dX11_beats_51 : decode cX11_beats 51 = .ok (.getfield 54, 3) := o180 ac_cX11_beats_48 3 0 54 rfl
theorem dX11_beats_54 : decode cX11_beats 54 = .ok (.getfield 174, 3) := o180 ac_cX11_beats_48 6 0 174 rfl
theorem dX11_beats_57 : decode cX11_beats 57 = .ok (.ireturn, 1) := o172 ac_cX11_beats_48 9 rfl
def kb_cX11_beats_16 : List Nat := [42, 180, 0, 26, 42, 180, 0, 54, 182, 0, 206, 42, 180, 0, 19, 42, 180, 0, 82, 42]
theorem ac_cX11_beats_16 : AL cX11_beats 16 kb_cX11_beats_16 := AL.of (m := 20) (by decide +kernel)
theorem dX11_beats_16 : decode cX11_beats 16 = .ok (.aload_n 0, 1) := o42 ac_cX11_beats_16 0 rfl
theorem dX11_beats_17 : decode cX11_beats 17 = .ok (.getfield 26, 3) := o180 ac_cX11_beats_16 1 0 26 rfl
theorem dX11_beats_20 : decode cX11_beats 20 = .ok (.aload_n 0, 1) := o42 ac_cX11_beats_16 4 rfl
theorem dX11_beats_21 : decode cX11_beats 21 = .ok (.getfield 54, 3) := o180 ac_cX11_beats_16 5 0 54 rfl
theorem dX11_beats_24 : decode cX11_beats 24 = .ok (.invokevirtual 206, 3) := o182 ac_cX11_beats_16 8 0 206 rfl
theorem dX11_beats_27 : decode cX11_beats 27 = .ok (.aload_n 0, 1) := o42 ac_cX11_beats_16 11 rfl
theorem dX11_beats_28 : decode cX11_beats 28 = .ok (.getfield 19, 3) := o180 ac_cX11_beats_16 12 0 19 rfl
theorem dX11_beats_31 : decode cX11_beats 31 = .ok (.aload_n 0, 1) := o42 ac_cX11_beats_16 15 rfl
def kb_cX11_beats_32 : List Nat := [180, 0, 82, 42, 180, 0, 54, 27, 42, 180, 0, 82, 180, 0, 220, 182, 0, 223, 42, 180]
theorem ac_cX11_beats_32 : AL cX11_beats 32 kb_cX11_beats_32 := AL.of (m := 20) (by decide +kernel)
theorem dX11_beats_32 : decode cX11_beats 32 = .ok (.getfield 82, 3) := o180 ac_cX11_beats_32 0 0 82 rfl
theorem dX11_beats_35 : decode cX11_beats 35 = .ok (.aload_n 0, 1) := o42 ac_cX11_beats_32 3 rfl
theorem dX11_beats_36 : decode cX11_beats 36 = .ok (.getfield 54, 3) := o180 ac_cX11_beats_32 4 0 54 rfl
theorem dX11_beats_39 : decode cX11_beats 39 = .ok (.iload_n 1, 1) := o27 ac_cX11_beats_32 7 rfl
theorem dX11_beats_40 : decode cX11_beats 40 = .ok (.aload_n 0, 1) := o42 ac_cX11_beats_32 8 rfl
theorem dX11_beats_41 : decode cX11_beats 41 = .ok (.getfield 82, 3) := o180 ac_cX11_beats_32 9 0 82 rfl
theorem dX11_beats_44 : decode cX11_beats 44 = .ok (.getfield 220, 3) := o180 ac_cX11_beats_32 12 0 220 rfl
theorem dX11_beats_47 : decode cX11_beats 47 = .ok (.invokevirtual 223, 3) := o182 ac_cX11_beats_32 15 0 223 rfl
theorem dX11_beats_10 : decode cX11_beats 10 = .ok (.iconst (-1), 1) := o2 ac_cX11_beats_0 10 rfl
theorem dX11_beats_11 : decode cX11_beats 11 = .ok (.ireturn, 1) := o172 ac_cX11_beats_0 11 rfl
def kb_cX11_hold_0 : List Nat := [27, 155, 0, 8, 27, 6, 161, 0, 5, 3, 172, 42, 180, 0, 61, 27, 50, 42, 180, 0]
theorem ac_cX11_hold_0 : AL cX11_hold 0 kb_cX11_hold_0 := AL.of (m := 20) (by decide +kernel)
theorem dX11_hold_0 : decode cX11_hold 0 = .ok (.iload_n 1, 1) := o27 ac_cX11_hold_0 0 rfl
theorem dX11_hold_1 : decode cX11_hold 1 = .ok (.ifCond .lt 8, 3) := o155p ac_cX11_hold_0 1 0 8 rfl rfl
theorem dX11_hold_4 : decode cX11_hold 4 = .ok (.iload_n 1, 1) := o27 ac_cX11_hold_0 4 rfl
theorem dX11_hold_5 : decode cX11_hold 5 = .ok (.iconst 3, 1) := o6 ac_cX11_hold_0 5 rfl
theorem dX11_hold_6 : decode cX11_hold 6 = .ok (.if_icmp .lt 5, 3) := o161p ac_cX11_hold_0 6 0 5 rfl rfl
theorem dX11_hold_11 : decode cX11_hold 11 = .ok (.aload_n 0, 1) := o42 ac_cX11_hold_0 11 rfl
theorem dX11_hold_12 : decode cX11_hold 12 = .ok (.getfield 61, 3) := o180 ac_cX11_hold_0 12 0 61 rfl
theorem dX11_hold_15 : decode cX11_hold 15 = .ok (.iload_n 1, 1) := o27 ac_cX11_hold_0 15 rfl
def kb_cX11_hold_16 : List Nat := [50, 42, 180, 0, 54, 182, 0, 230, 42, 180, 0, 65, 27, 4, 84, 4, 172]
theorem ac_cX11_hold_16 : AL cX11_hold 16 kb_cX11_hold_16 := AL.of (m := 17) (by decide +kernel)
theorem dX11_hold_16 : decode cX11_hold 16 = .ok (.aaload, 1) := o50 ac_cX11_hold_16 0 rfl
theorem dX11_hold_17 : decode cX11_hold 17 = .ok (.aload_n 0, 1) := o42 ac_cX11_hold_16 1 rfl
theorem dX11_hold_18 : decode cX11_hold 18 = .ok (.getfield 54, 3) := o180 ac_cX11_hold_16 2 0 54 rfl
theorem dX11_hold_21 : decode cX11_hold 21 = .ok (.invokevirtual 230, 3) := o182 ac_cX11_hold_16 5 0 230 rfl
theorem dX11_hold_24 : decode cX11_hold 24 = .ok (.aload_n 0, 1) := o42 ac_cX11_hold_16 8 rfl
theorem dX11_hold_25 : decode cX11_hold 25 = .ok (.getfield 65, 3) := o180 ac_cX11_hold_16 9 0 65 rfl
theorem dX11_hold_28 : decode cX11_hold 28 = .ok (.iload_n 1, 1) := o27 ac_cX11_hold_16 12 rfl
theorem dX11_hold_29 : decode cX11_hold 29 = .ok (.iconst 1, 1) := o4 ac_cX11_hold_16 13 rfl
theorem dX11_hold_30 : decode cX11_hold 30 = .ok (.bastore, 1) := o84 ac_cX11_hold_16 14 rfl
theorem dX11_hold_31 : decode cX11_hold 31 = .ok (.iconst 1, 1) := o4 ac_cX11_hold_16 15 rfl
def kb_cX11_hold_32 : List Nat := [172]
theorem ac_cX11_hold_32 : AL cX11_hold 32 kb_cX11_hold_32 := AL.of (m := 1) (by decide +kernel)
theorem dX11_hold_32 : decode cX11_hold 32 = .ok (.ireturn, 1) := o172 ac_cX11_hold_32 0 rfl
def kb_cX11_restore_0 : List Nat := [27, 155, 0, 17, 27, 6, 162, 0, 12, 42, 180, 0, 65, 27, 51, 154, 0, 5, 3, 172]
theorem ac_cX11_restore_0 : AL cX11_restore 0 kb_cX11_restore_0 := AL.of (m := 20) (by decide +kernel)
theorem dX11_restore_0 : decode cX11_restore 0 = .ok (.iload_n 1, 1) := o27 ac_cX11_restore_0 0 rfl
theorem dX11_restore_1 : decode cX11_restore 1 = .ok (.ifCond .lt 17, 3) := o155p ac_cX11_restore_0 1 0 17 rfl rfl
theorem dX11_restore_4 : decode cX11_restore 4 = .ok (.iload_n 1, 1) := o27 ac_cX11_restore_0 4 rfl
theorem dX11_restore_5 : decode cX11_restore 5 = .ok (.iconst 3, 1) := o6 ac_cX11_restore_0 5 rfl
theorem dX11_restore_6 : decode cX11_restore 6 = .ok (.if_icmp .ge 12, 3) := o162p ac_cX11_restore_0 6 0 12 rfl rfl
theorem dX11_restore_9 : decode cX11_restore 9 = .ok (.aload_n 0, 1) := o42 ac_cX11_restore_0 9 rfl
theorem dX11_restore_10 : decode cX11_restore 10 = .ok (.getfield 65, 3) := o180 ac_cX11_restore_0 10 0 65 rfl
theorem dX11_restore_13 : decode cX11_restore 13 = .ok (.iload_n 1, 1) := o27 ac_cX11_restore_0 13 rfl
theorem dX11_restore_14 : decode cX11_restore 14 = .ok (.baload, 1) := o51 ac_cX11_restore_0 14 rfl
theorem dX11_restore_15 : decode cX11_restore 15 = .ok (.ifCond .ne 5, 3) := o154p ac_cX11_restore_0 15 0 5 rfl rfl
def kb_cX11_restore_16 : List Nat := [0, 5, 3, 172, 42, 180, 0, 54, 42, 180, 0, 61, 27, 50, 182, 0, 230, 42, 180, 0]
theorem ac_cX11_restore_16 : AL cX11_restore 16 kb_cX11_restore_16 := AL.of (m := 20) (by decide +kernel)
theorem dX11_restore_18 : decode cX11_restore 18 = .ok (.iconst 0, 1) := o3 ac_cX11_restore_16 2 rfl
theorem dX11_restore_19 : decode cX11_restore 19 = .ok (.ireturn, 1) := o172 ac_cX11_restore_16 3 rfl
theorem dX11_hold_9 : decode cX11_hold 9 = .ok (.iconst 0, 1) := o3 ac_cX11_hold_0 9 rfl
theorem dX11_hold_10 : decode cX11_hold 10 = .ok (.ireturn, 1) := o172 ac_cX11_hold_0 10 rfl
def kb_cX11_findHands_0 : List Nat := [42, 180, 0, 58, 42, 180, 0, 54, 182, 0, 230, 3, 61, 28, 27, 162, 0, 46, 28, 42]
theorem ac_cX11_findHands_0 : AL cX11_findHands 0 kb_cX11_findHands_0 := AL.of (m := 20) (by decide +kernel)
theorem dX11_findHands_0 : decode cX11_findHands 0 = .ok (.aload_n 0, 1) := o42 ac_cX11_findHands_0 0 rfl
theorem dX11_findHands_1 : decode cX11_findHands 1 = .ok (.getfield 58, 3) := o180 ac_cX11_findHands_0 1 0 58 rfl
theorem dX11_findHands_4 : decode cX11_findHands 4 = .ok (.aload_n 0, 1) := o42 ac_cX11_findHands_0 4 rfl
theorem dX11_findHands_5 : decode cX11_findHands 5 = .ok (.getfield 54, 3) := o180 ac_cX11_findHands_0 5 0 54 rfl
theorem dX11_findHands_8 : decode cX11_findHands 8 = .ok (.invokevirtual 230, 3) := o182 ac_cX11_findHands_0 8 0 230 rfl
theorem dX11_findHands_11 : decode cX11_findHands 11 = .ok (.iconst 0, 1) := o3 ac_cX11_findHands_0 11 rfl
theorem dX11_findHands_12 : decode cX11_findHands 12 = .ok (.istore_n 2, 1) := o61 ac_cX11_findHands_0 12 rfl
theorem dX11_findHands_13 : decode cX11_findHands 13 = .ok (.iload_n 2, 1) := o28 ac_cX11_findHands_0 13 rfl
theorem dX11_findHands_14 : decode cX11_findHands 14 = .ok (.iload_n 1, 1) := o27 ac_cX11_findHands_0 14 rfl
theorem dX11_findHands_15 : decode cX11_findHands 15 = .ok (.if_icmp .ge 46, 3) := o162p ac_cX11_findHands_0 15 0 46 rfl rfl
def kb_cX11_findHands_16 : List Nat := [0, 46, 28, 42, 180, 0, 69, 190, 162, 0, 37, 42, 180, 0, 69, 28, 42, 180, 0, 58]
theorem ac_cX11_findHands_16 : AL cX11_findHands 16 kb_cX11_findHands_16 := AL.of (m := 20) (by decide +kernel)
theorem dX11_findHands_18 : decode cX11_findHands 18 = .ok (.iload_n 2, 1) := o28 ac_cX11_findHands_16 2 rfl
theorem dX11_findHands_19 : decode cX11_findHands 19 = .ok (.aload_n 0, 1) := o42 ac_cX11_findHands_16 3 rfl
theorem dX11_findHands_20 : decode cX11_findHands 20 = .ok (.getfield 69, 3) := o180 ac_cX11_findHands_16 4 0 69 rfl
theorem dX11_findHands_23 : decode cX11_findHands 23 = .ok (.arraylength, 1) := o190 ac_cX11_findHands_16 7 rfl
theorem dX11_findHands_24 : decode cX11_findHands 24 = .ok (.if_icmp .ge 37, 3) := o162p ac_cX11_findHands_16 8 0 37 rfl rfl
theorem dX11_findHands_27 : decode cX11_findHands 27 = .ok (.aload_n 0, 1) := o42 ac_cX11_findHands_16 11 rfl
theorem dX11_findHands_28 : decode cX11_findHands 28 = .ok (.getfield 69, 3) := o180 ac_cX11_findHands_16 12 0 69 rfl
theorem dX11_findHands_31 : decode cX11_findHands 31 = .ok (.iload_n 2, 1) := o28 ac_cX11_findHands_16 15 rfl
def kb_cX11_findHands_32 : List Nat := [42, 180, 0, 58, 182, 1, 26, 79, 42, 180, 0, 19, 42, 180, 0, 82, 42, 180, 0, 58]
theorem ac_cX11_findHands_32 : AL cX11_findHands 32 kb_cX11_findHands_32 := AL.of (m := 20) (by decide +kernel)
theorem dX11_findHands_32 : decode cX11_findHands 32 = .ok (.aload_n 0, 1) := o42 ac_cX11_findHands_32 0 rfl
theorem dX11_findHands_33 : decode cX11_findHands 33 = .ok (.getfield 58, 3) := o180 ac_cX11_findHands_32 1 0 58 rfl
theorem dX11_findHands_36 : decode cX11_findHands 36 = .ok (.invokevirtual 282, 3) := o182 ac_cX11_findHands_32 4 1 26 rfl
theorem dX11_findHands_39 : decode cX11_findHands 39 = .ok (.iastore, 1) := o79 ac_cX11_findHands_32 7 rfl
theorem dX11_findHands_40 : decode cX11_findHands 40 = .ok (.aload_n 0, 1) := o42 ac_cX11_findHands_32 8 rfl
theorem dX11_findHands_41 : decode cX11_findHands 41 = .ok (.getfield 19, 3) := o180 ac_cX11_findHands_32 9 0 19 rfl
theorem dX11_findHands_44 : decode cX11_findHands 44 = .ok (.aload_n 0, 1) := o42 ac_cX11_findHands_32 12 rfl
theorem dX11_findHands_45 : decode cX11_findHands 45 = .ok (.getfield 82, 3) := o180 ac_cX11_findHands_32 13 0 82 rfl
def kb_cX11_findHands_48 : List Nat := [42, 180, 0, 58, 182, 1, 29, 132, 2, 1, 167, 255, 211, 177]
theorem ac_cX11_findHands_48 : AL cX11_findHands 48 kb_cX11_findHands_48 := AL.of (m := 14) (by decide +kernel)
theorem dX11_findHands_48 : decode cX11_findHands 48 = .ok (.aload_n 0, 1) := o42 ac_cX11_findHands_48 0 rfl
theorem dX11_findHands_49 : decode cX11_findHands 49 = .ok (.getfield 58, 3) := o180 ac_cX11_findHands_48 1 0 58 rfl
theorem dX11_findHands_52 : decode cX11_findHands 52 = .ok (.invokevirtual 285, 3) := o182 ac_cX11_findHands_48 4 1 29 rfl
theorem dX11_findHands_55 : decode cX11_findHands 55 = .ok (.iinc 2 1, 3) := o132p ac_cX11_findHands_48 7 2 1 rfl rfl
theorem dX11_findHands_58 : decode cX11_findHands 58 = .ok (.goto (-45), 3) := o167n ac_cX11_findHands_48 10 255 211 44 rfl rfl rfl
theorem dX11_findHands_61 : decode cX11_findHands 61 = .ok (.return_, 1) := o177 ac_cX11_findHands_48 13 rfl
def kb_cX11_inHand_0 : List Nat := [27, 155, 0, 9, 27, 16, 60, 164, 0, 5, 2, 172, 42, 27, 4, 96, 182, 1, 23, 42]
theorem ac_cX11_inHand_0 : AL cX11_inHand 0 kb_cX11_inHand_0 := AL.of (m := 20) (by decide +kernel)
theorem dX11_inHand_0 : decode cX11_inHand 0 = .ok (.iload_n 1, 1) := o27 ac_cX11_inHand_0 0 rfl
theorem dX11_inHand_1 : decode cX11_inHand 1 = .ok (.ifCond .lt 9, 3) := o155p ac_cX11_inHand_0 1 0 9 rfl rfl
theorem dX11_inHand_4 : decode cX11_inHand 4 = .ok (.iload_n 1, 1) := o27 ac_cX11_inHand_0 4 rfl
theorem dX11_inHand_5 : decode cX11_inHand 5 = .ok (.bipush 60, 2) := o16p ac_cX11_inHand_0 5 60 rfl rfl
theorem dX11_inHand_7 : decode cX11_inHand 7 = .ok (.if_icmp .le 5, 3) := o164p ac_cX11_inHand_0 7 0 5 rfl rfl
theorem dX11_inHand_12 : decode cX11_inHand 12 = .ok (.aload_n 0, 1) := o42 ac_cX11_inHand_0 12 rfl
theorem dX11_inHand_13 : decode cX11_inHand 13 = .ok (.iload_n 1, 1) := o27 ac_cX11_inHand_0 13 rfl
theorem dX11_inHand_14 : decode cX11_inHand 14 = .ok (.iconst 1, 1) := o4 ac_cX11_inHand_0 14 rfl
theorem dX11_inHand_15 : decode cX11_inHand 15 = .ok (.iadd, 1) := o96 ac_cX11_inHand_0 15 rfl
def kb_cX11_inHand_16 : List Nat := [182, 1, 23, 42, 180, 0, 69, 27, 46, 2, 160, 0, 8, 16, 254, 167, 0, 9, 42, 180]
theorem ac_cX11_inHand_16 : AL cX11_inHand 16 kb_cX11_inHand_16 := AL.of (m := 20) (by decide +kernel)
theorem dX11_inHand_16 : decode cX11_inHand 16 = .ok (.invokevirtual 279, 3) := o182 ac_cX11_inHand_16 0 1 23 rfl
theorem dX11_inHand_19 : decode cX11_inHand 19 = .ok (.aload_n 0, 1) := o42 ac_cX11_inHand_16 3 rfl
theorem dX11_inHand_20 : decode cX11_inHand 20 = .ok (.getfield 69, 3) := o180 ac_cX11_inHand_16 4 0 69 rfl
theorem dX11_inHand_23 : decode cX11_inHand 23 = .ok (.iload_n 1, 1) := o27 ac_cX11_inHand_16 7 rfl
theorem dX11_inHand_24 : decode cX11_inHand 24 = .ok (.iaload, 1) := o46 ac_cX11_inHand_16 8 rfl
theorem dX11_inHand_25 : decode cX11_inHand 25 = .ok (.iconst (-1), 1) := o2 ac_cX11_inHand_16 9 rfl
theorem dX11_inHand_26 : decode cX11_inHand 26 = .ok (.if_icmp .ne 8, 3) := o160p ac_cX11_inHand_16 10 0 8 rfl rfl
theorem dX11_inHand_29 : decode cX11_inHand 29 = .ok (.bipush (-2), 2) := o16n ac_cX11_inHand_16 13 254 1 rfl rfl rfl
theorem dX11_inHand_31 : decode cX11_inHand 31 = .ok (.goto 9, 3) := o167p ac_cX11_inHand_16 15 0 9 rfl rfl
def kb_cX11_inHand_32 : List Nat := [0, 9, 42, 180, 0, 69, 27, 46, 172]
theorem ac_cX11_inHand_32 : AL cX11_inHand 32 kb_cX11_inHand_32 := AL.of (m := 9) (by decide +kernel)
theorem dX11_inHand_40 : decode cX11_inHand 40 = .ok (.ireturn, 1) := o172 ac_cX11_inHand_32 8 rfl
theorem dX11_inHand_10 : decode cX11_inHand 10 = .ok (.iconst (-1), 1) := o2 ac_cX11_inHand_0 10 rfl
theorem dX11_inHand_11 : decode cX11_inHand 11 = .ok (.ireturn, 1) := o172 ac_cX11_inHand_0 11 rfl
def kb_cX11_firstClash_0 : List Nat := [3, 61, 28, 27, 163, 0, 37, 42, 180, 0, 58, 182, 1, 36, 4, 164, 0, 5, 28, 172]
theorem ac_cX11_firstClash_0 : AL cX11_firstClash 0 kb_cX11_firstClash_0 := AL.of (m := 20) (by decide +kernel)
theorem dX11_firstClash_0 : decode cX11_firstClash 0 = .ok (.iconst 0, 1) := o3 ac_cX11_firstClash_0 0 rfl
theorem dX11_firstClash_1 : decode cX11_firstClash 1 = .ok (.istore_n 2, 1) := o61 ac_cX11_firstClash_0 1 rfl
theorem dX11_firstClash_2 : decode cX11_firstClash 2 = .ok (.iload_n 2, 1) := o28 ac_cX11_firstClash_0 2 rfl
theorem dX11_firstClash_3 : decode cX11_firstClash 3 = .ok (.iload_n 1, 1) := o27 ac_cX11_firstClash_0 3 rfl
theorem dX11_firstClash_4 : decode cX11_firstClash 4 = .ok (.if_icmp .gt 37, 3) := o163p ac_cX11_firstClash_0 4 0 37 rfl rfl
theorem dX11_firstClash_7 : decode cX11_firstClash 7 = .ok (.aload_n 0, 1) := o42 ac_cX11_firstClash_0 7 rfl
theorem dX11_firstClash_8 : decode cX11_firstClash 8 = .ok (.getfield 58, 3) := o180 ac_cX11_firstClash_0 8 0 58 rfl
theorem dX11_firstClash_11 : decode cX11_firstClash 11 = .ok (.invokevirtual 292, 3) := o182 ac_cX11_firstClash_0 11 1 36 rfl
theorem dX11_firstClash_14 : decode cX11_firstClash 14 = .ok (.iconst 1, 1) := o4 ac_cX11_firstClash_0 14 rfl
theorem dX11_firstClash_15 : decode cX11_firstClash 15 = .ok (.if_icmp .le 5, 3) := o164p ac_cX11_firstClash_0 15 0 5 rfl rfl
def kb_cX11_firstClash_16 : List Nat := [0, 5, 28, 172, 42, 180, 0, 19, 42, 180, 0, 82, 42, 180, 0, 58, 182, 1, 29, 132]
theorem ac_cX11_firstClash_16 : AL cX11_firstClash 16 kb_cX11_firstClash_16 := AL.of (m := 20) (by decide +kernel)
theorem dX11_firstClash_20 : decode cX11_firstClash 20 = .ok (.aload_n 0, 1) := o42 ac_cX11_firstClash_16 4 rfl
theorem dX11_firstClash_21 : decode cX11_firstClash 21 = .ok (.getfield 19, 3) := o180 ac_cX11_firstClash_16 5 0 19 rfl
theorem dX11_firstClash_24 : decode cX11_firstClash 24 = .ok (.aload_n 0, 1) := o42 ac_cX11_firstClash_16 8 rfl
theorem dX11_firstClash_25 : decode cX11_firstClash 25 = .ok (.getfield 82, 3) := o180 ac_cX11_firstClash_16 9 0 82 rfl
theorem dX11_firstClash_28 : decode cX11_firstClash 28 = .ok (.aload_n 0, 1) := o42 ac_cX11_firstClash_16 12 rfl
theorem dX11_firstClash_29 : decode cX11_firstClash 29 = .ok (.getfield 58, 3) := o180 ac_cX11_firstClash_16 13 0 58 rfl
def kb_cX11_firstClash_32 : List Nat := [182, 1, 29, 132, 2, 1, 167, 255, 220, 16, 254, 172]
theorem ac_cX11_firstClash_32 : AL cX11_firstClash 32 kb_cX11_firstClash_32 := AL.of (m := 12) (by decide +kernel)
theorem dX11_firstClash_32 : decode cX11_firstClash 32 = .ok (.invokevirtual 285, 3) := o182 ac_cX11_firstClash_32 0 1 29 rfl
theorem dX11_firstClash_35 : decode cX11_firstClash 35 = .ok (.iinc 2 1, 3) := o132p ac_cX11_firstClash_32 3 2 1 rfl rfl
theorem dX11_firstClash_38 : decode cX11_firstClash 38 = .ok (.goto (-36), 3) := o167n ac_cX11_firstClash_32 6 255 220 35 rfl rfl rfl
theorem dX11_firstClash_41 : decode cX11_firstClash 41 = .ok (.bipush (-2), 2) := o16n ac_cX11_firstClash_32 9 254 1 rfl rfl rfl
theorem dX11_firstClash_43 : decode cX11_firstClash 43 = .ok (.ireturn, 1) := o172 ac_cX11_firstClash_32 11 rfl
def kb_cX11_clash_0 : List Nat := [42, 180, 0, 58, 42, 180, 0, 54, 182, 0, 230, 42, 16, 60, 182, 1, 33, 172]
theorem ac_cX11_clash_0 : AL cX11_clash 0 kb_cX11_clash_0 := AL.of (m := 18) (by decide +kernel)
theorem dX11_clash_0 : decode cX11_clash 0 = .ok (.aload_n 0, 1) := o42 ac_cX11_clash_0 0 rfl
theorem dX11_clash_1 : decode cX11_clash 1 = .ok (.getfield 58, 3) := o180 ac_cX11_clash_0 1 0 58 rfl
theorem dX11_clash_4 : decode cX11_clash 4 = .ok (.aload_n 0, 1) := o42 ac_cX11_clash_0 4 rfl
theorem dX11_clash_5 : decode cX11_clash 5 = .ok (.getfield 54, 3) := o180 ac_cX11_clash_0 5 0 54 rfl
theorem dX11_clash_8 : decode cX11_clash 8 = .ok (.invokevirtual 230, 3) := o182 ac_cX11_clash_0 8 0 230 rfl
theorem dX11_clash_11 : decode cX11_clash 11 = .ok (.aload_n 0, 1) := o42 ac_cX11_clash_0 11 rfl
theorem dX11_clash_12 : decode cX11_clash 12 = .ok (.bipush 60, 2) := o16p ac_cX11_clash_0 12 60 rfl rfl
theorem dX11_clash_14 : decode cX11_clash 14 = .ok (.invokevirtual 289, 3) := o182 ac_cX11_clash_0 14 1 33 rfl
def kb_cX11_clash_16 : List Nat := [33, 172]
theorem ac_cX11_clash_16 : AL cX11_clash 16 kb_cX11_clash_16 := AL.of (m := 2) (by decide +kernel)
theorem dX11_clash_17 : decode cX11_clash 17 = .ok (.ireturn, 1) := o172 ac_cX11_clash_16 1 rfl
def kb_cX11_limit_0 : List Nat := [27, 155, 0, 10, 27, 17, 3, 231, 164, 0, 5, 2, 172, 42, 180, 0, 58, 42, 180, 0]
theorem ac_cX11_limit_0 : AL cX11_limit 0 kb_cX11_limit_0 := AL.of (m := 20) (by decide +kernel)
theorem dX11_limit_0 : decode cX11_limit 0 = .ok (.iload_n 1, 1) := o27 ac_cX11_limit_0 0 rfl
theorem dX11_limit_1 : decode cX11_limit 1 = .ok (.ifCond .lt 10, 3) := o155p ac_cX11_limit_0 1 0 10 rfl rfl
theorem dX11_limit_4 : decode cX11_limit 4 = .ok (.iload_n 1, 1) := o27 ac_cX11_limit_0 4 rfl
theorem dX11_limit_5 : decode cX11_limit 5 = .ok (.sipush 999, 3) := o17p ac_cX11_limit_0 5 3 231 rfl rfl
theorem dX11_limit_8 : decode cX11_limit 8 = .ok (.if_icmp .le 5, 3) := o164p ac_cX11_limit_0 8 0 5 rfl rfl
theorem dX11_limit_13 : decode cX11_limit 13 = .ok (.aload_n 0, 1) := o42 ac_cX11_limit_0 13 rfl
theorem dX11_limit_14 : decode cX11_limit 14 = .ok (.getfield 58, 3) := o180 ac_cX11_limit_0 14 0 58 rfl
def kb_cX11_limit_16 : List Nat := [58, 42, 180, 0, 54, 182, 0, 230, 3, 61, 28, 17, 0, 200, 163, 0, 45, 42, 180, 0]
theorem ac_cX11_limit_16 : AL cX11_limit 16 kb_cX11_limit_16 := AL.of (m := 20) (by decide +kernel)
theorem dX11_limit_17 : decode cX11_limit 17 = .ok (.aload_n 0, 1) := o42 ac_cX11_limit_16 1 rfl
theorem dX11_limit_18 : decode cX11_limit 18 = .ok (.getfield 54, 3) := o180 ac_cX11_limit_16 2 0 54 rfl
theorem dX11_limit_21 : decode cX11_limit 21 = .ok (.invokevirtual 230, 3) := o182 ac_cX11_limit_16 5 0 230 rfl
theorem dX11_limit_24 : decode cX11_limit 24 = .ok (.iconst 0, 1) := o3 ac_cX11_limit_16 8 rfl
theorem dX11_limit_25 : decode cX11_limit 25 = .ok (.istore_n 2, 1) := o61 ac_cX11_limit_16 9 rfl
theorem dX11_limit_26 : decode cX11_limit 26 = .ok (.iload_n 2, 1) := o28 ac_cX11_limit_16 10 rfl
theorem dX11_limit_27 : decode cX11_limit 27 = .ok (.sipush 200, 3) := o17p ac_cX11_limit_16 11 0 200 rfl rfl
theorem dX11_limit_30 : decode cX11_limit 30 = .ok (.if_icmp .gt 45, 3) := o163p ac_cX11_limit_16 14 0 45 rfl rfl
def kb_cX11_limit_32 : List Nat := [45, 42, 180, 0, 58, 180, 0, 177, 27, 161, 0, 5, 28, 172, 42, 180, 0, 19, 42, 180]
theorem ac_cX11_limit_32 : AL cX11_limit 32 kb_cX11_limit_32 := AL.of (m := 20) (by decide +kernel)
theorem dX11_limit_33 : decode cX11_limit 33 = .ok (.aload_n 0, 1) := o42 ac_cX11_limit_32 1 rfl
theorem dX11_limit_34 : decode cX11_limit 34 = .ok (.getfield 58, 3) := o180 ac_cX11_limit_32 2 0 58 rfl
theorem dX11_limit_37 : decode cX11_limit 37 = .ok (.getfield 177, 3) := o180 ac_cX11_limit_32 5 0 177 rfl
theorem dX11_limit_40 : decode cX11_limit 40 = .ok (.iload_n 1, 1) := o27 ac_cX11_limit_32 8 rfl
theorem dX11_limit_41 : decode cX11_limit 41 = .ok (.if_icmp .lt 5, 3) := o161p ac_cX11_limit_32 9 0 5 rfl rfl
theorem dX11_limit_44 : decode cX11_limit 44 = .ok (.iload_n 2, 1) := o28 ac_cX11_limit_32 12 rfl
theorem dX11_limit_45 : decode cX11_limit 45 = .ok (.ireturn, 1) := o172 ac_cX11_limit_32 13 rfl
theorem dX11_limit_46 : decode cX11_limit 46 = .ok (.aload_n 0, 1) := o42 ac_cX11_limit_32 14 rfl
theorem dX11_limit_47 : decode cX11_limit 47 = .ok (.getfield 19, 3) := o180 ac_cX11_limit_32 15 0 19 rfl
def kb_cX11_limit_48 : List Nat := [0, 19, 42, 180, 0, 82, 42, 180, 0, 58, 4, 42, 180, 0, 82, 180, 0, 220, 182, 0]
theorem ac_cX11_limit_48 : AL cX11_limit 48 kb_cX11_limit_48 := AL.of (m := 20) (by decide +kernel)
theorem dX11_limit_50 : decode cX11_limit 50 = .ok (.aload_n 0, 1) := o42 ac_cX11_limit_48 2 rfl
theorem dX11_limit_51 : decode cX11_limit 51 = .ok (.getfield 82, 3) := o180 ac_cX11_limit_48 3 0 82 rfl
theorem dX11_limit_54 : decode cX11_limit 54 = .ok (.aload_n 0, 1) := o42 ac_cX11_limit_48 6 rfl
theorem dX11_limit_55 : decode cX11_limit 55 = .ok (.getfield 58, 3) := o180 ac_cX11_limit_48 7 0 58 rfl
theorem dX11_limit_58 : decode cX11_limit 58 = .ok (.iconst 1, 1) := o4 ac_cX11_limit_48 10 rfl
theorem dX11_limit_59 : decode cX11_limit 59 = .ok (.aload_n 0, 1) := o42 ac_cX11_limit_48 11 rfl
theorem dX11_limit_60 : decode cX11_limit 60 = .ok (.getfield 82, 3) := o180 ac_cX11_limit_48 12 0 82 rfl
theorem dX11_limit_63 : decode cX11_limit 63 = .ok (.getfield 220, 3) := o180 ac_cX11_limit_48 15 0 220 rfl
def kb_cX11_limit_64 : List Nat := [0, 220, 182, 0, 223, 132, 2, 1, 167, 255, 210, 16, 254, 172]
theorem ac_cX11_limit_64 : AL cX11_limit 64 kb_cX11_limit_64 := AL.of (m := 14) (by decide +kernel)
theorem dX11_limit_66 : decode cX11_limit 66 = .ok (.invokevirtual 223, 3) := o182 ac_cX11_limit_64 2 0 223 rfl
theorem dX11_limit_69 : decode cX11_limit 69 = .ok (.iinc 2 1, 3) := o132p ac_cX11_limit_64 5 2 1 rfl rfl
theorem dX11_limit_72 : decode cX11_limit 72 = .ok (.goto (-46), 3) := o167n ac_cX11_limit_64 8 255 210 45 rfl rfl rfl
theorem dX11_limit_75 : decode cX11_limit 75 = .ok (.bipush (-2), 2) := o16n ac_cX11_limit_64 11 254 1 rfl rfl rfl
theorem dX11_limit_77 : decode cX11_limit 77 = .ok (.ireturn, 1) := o172 ac_cX11_limit_64 13 rfl
theorem dX11_limit_11 : decode cX11_limit 11 = .ok (.iconst (-1), 1) := o2 ac_cX11_limit_0 11 rfl
theorem dX11_limit_12 : decode cX11_limit 12 = .ok (.ireturn, 1) := o172 ac_cX11_limit_0 12 rfl
def kb_cX11_isSpan_0 : List Nat := [26, 4, 161, 0, 13, 26, 16, 60, 163, 0, 7, 4, 167, 0, 4, 3, 172]
theorem ac_cX11_isSpan_0 : AL cX11_isSpan 0 kb_cX11_isSpan_0 := AL.of (m := 17) (by decide +kernel)
theorem dX11_isSpan_0 : decode cX11_isSpan 0 = .ok (.iload_n 0, 1) := o26 ac_cX11_isSpan_0 0 rfl
theorem dX11_isSpan_1 : decode cX11_isSpan 1 = .ok (.iconst 1, 1) := o4 ac_cX11_isSpan_0 1 rfl
theorem dX11_isSpan_2 : decode cX11_isSpan 2 = .ok (.if_icmp .lt 13, 3) := o161p ac_cX11_isSpan_0 2 0 13 rfl rfl
theorem dX11_isSpan_5 : decode cX11_isSpan 5 = .ok (.iload_n 0, 1) := o26 ac_cX11_isSpan_0 5 rfl
theorem dX11_isSpan_6 : decode cX11_isSpan 6 = .ok (.bipush 60, 2) := o16p ac_cX11_isSpan_0 6 60 rfl rfl
theorem dX11_isSpan_8 : decode cX11_isSpan 8 = .ok (.if_icmp .gt 7, 3) := o163p ac_cX11_isSpan_0 8 0 7 rfl rfl
theorem dX11_isSpan_11 : decode cX11_isSpan 11 = .ok (.iconst 1, 1) := o4 ac_cX11_isSpan_0 11 rfl
theorem dX11_isSpan_12 : decode cX11_isSpan 12 = .ok (.goto 4, 3) := o167p ac_cX11_isSpan_0 12 0 4 rfl rfl
def kb_cX11_isSpan_16 : List Nat := [172]
theorem ac_cX11_isSpan_16 : AL cX11_isSpan 16 kb_cX11_isSpan_16 := AL.of (m := 1) (by decide +kernel)
theorem dX11_isSpan_16 : decode cX11_isSpan 16 = .ok (.ireturn, 1) := o172 ac_cX11_isSpan_16 0 rfl
theorem dX11_isSpan_15 : decode cX11_isSpan 15 = .ok (.iconst 0, 1) := o3 ac_cX11_isSpan_0 15 rfl
def kb_cJ7_fill_53178_0 : List Nat := [3, 61, 42, 190, 62, 28, 29, 162, 0, 13, 42, 28, 27, 79, 132, 2, 1, 167, 255, 244]
theorem ac_cJ7_fill_53178_0 : AL cJ7_fill_53178 0 kb_cJ7_fill_53178_0 := AL.of (m := 20) (by decide +kernel)
theorem dJ7_fill_53178_0 : decode cJ7_fill_53178 0 = .ok (.iconst 0, 1) := o3 ac_cJ7_fill_53178_0 0 rfl
theorem dJ7_fill_53178_1 : decode cJ7_fill_53178 1 = .ok (.istore_n 2, 1) := o61 ac_cJ7_fill_53178_0 1 rfl
theorem dJ7_fill_53178_2 : decode cJ7_fill_53178 2 = .ok (.aload_n 0, 1) := o42 ac_cJ7_fill_53178_0 2 rfl
theorem dJ7_fill_53178_3 : decode cJ7_fill_53178 3 = .ok (.arraylength, 1) := o190 ac_cJ7_fill_53178_0 3 rfl
theorem dJ7_fill_53178_4 : decode cJ7_fill_53178 4 = .ok (.istore_n 3, 1) := o62 ac_cJ7_fill_53178_0 4 rfl
theorem dJ7_fill_53178_5 : decode cJ7_fill_53178 5 = .ok (.iload_n 2, 1) := o28 ac_cJ7_fill_53178_0 5 rfl
theorem dJ7_fill_53178_6 : decode cJ7_fill_53178 6 = .ok (.iload_n 3, 1) := o29 ac_cJ7_fill_53178_0 6 rfl
theorem dJ7_fill_53178_7 : decode cJ7_fill_53178 7 = .ok (.if_icmp .ge 13, 3) := o162p ac_cJ7_fill_53178_0 7 0 13 rfl rfl
theorem dJ7_fill_53178_10 : decode cJ7_fill_53178 10 = .ok (.aload_n 0, 1) := o42 ac_cJ7_fill_53178_0 10 rfl
theorem dJ7_fill_53178_11 : decode cJ7_fill_53178 11 = .ok (.iload_n 2, 1) := o28 ac_cJ7_fill_53178_0 11 rfl
theorem dJ7_fill_53178_12 : decode cJ7_fill_53178 12 = .ok (.iload_n 1, 1) := o27 ac_cJ7_fill_53178_0 12 rfl
theorem dJ7_fill_53178_13 : decode cJ7_fill_53178 13 = .ok (.iastore, 1) := o79 ac_cJ7_fill_53178_0 13 rfl
theorem dJ7_fill_53178_14 : decode cJ7_fill_53178 14 = .ok (.iinc 2 1, 3) := o132p ac_cJ7_fill_53178_0 14 2 1 rfl rfl
def kb_cJ7_fill_53178_16 : List Nat := [1, 167, 255, 244, 177]
theorem ac_cJ7_fill_53178_16 : AL cJ7_fill_53178 16 kb_cJ7_fill_53178_16 := AL.of (m := 5) (by decide +kernel)
theorem dJ7_fill_53178_17 : decode cJ7_fill_53178 17 = .ok (.goto (-12), 3) := o167n ac_cJ7_fill_53178_16 1 255 244 11 rfl rfl rfl
theorem dJ7_fill_53178_20 : decode cJ7_fill_53178 20 = .ok (.return_, 1) := o177 ac_cJ7_fill_53178_16 4 rfl
def kb_cX11_busiest_0 : List Nat := [27, 184, 1, 51, 153, 0, 12, 28, 155, 0, 8, 28, 4, 164, 0, 5, 2, 172, 42, 27]
theorem ac_cX11_busiest_0 : AL cX11_busiest 0 kb_cX11_busiest_0 := AL.of (m := 20) (by decide +kernel)
theorem dX11_busiest_0 : decode cX11_busiest 0 = .ok (.iload_n 1, 1) := o27 ac_cX11_busiest_0 0 rfl
theorem dX11_busiest_1 : decode cX11_busiest 1 = .ok (.invokestatic 307, 3) := o184 ac_cX11_busiest_0 1 1 51 rfl
theorem dX11_busiest_4 : decode cX11_busiest 4 = .ok (.ifCond .eq 12, 3) := o153p ac_cX11_busiest_0 4 0 12 rfl rfl
theorem dX11_busiest_7 : decode cX11_busiest 7 = .ok (.iload_n 2, 1) := o28 ac_cX11_busiest_0 7 rfl
theorem dX11_busiest_8 : decode cX11_busiest 8 = .ok (.ifCond .lt 8, 3) := o155p ac_cX11_busiest_0 8 0 8 rfl rfl
theorem dX11_busiest_11 : decode cX11_busiest 11 = .ok (.iload_n 2, 1) := o28 ac_cX11_busiest_0 11 rfl
theorem dX11_busiest_12 : decode cX11_busiest 12 = .ok (.iconst 1, 1) := o4 ac_cX11_busiest_0 12 rfl
theorem dX11_busiest_13 : decode cX11_busiest 13 = .ok (.if_icmp .le 5, 3) := o164p ac_cX11_busiest_0 13 0 5 rfl rfl
def kb_cX11_busiest_16 : List Nat := [2, 172, 42, 27, 182, 1, 23, 42, 180, 0, 73, 3, 184, 1, 54, 3, 62, 29, 27, 162]
theorem ac_cX11_busiest_16 : AL cX11_busiest 16 kb_cX11_busiest_16 := AL.of (m := 20) (by decide +kernel)
theorem dX11_busiest_18 : decode cX11_busiest 18 = .ok (.aload_n 0, 1) := o42 ac_cX11_busiest_16 2 rfl
theorem dX11_busiest_19 : decode cX11_busiest 19 = .ok (.iload_n 1, 1) := o27 ac_cX11_busiest_16 3 rfl
theorem dX11_busiest_20 : decode cX11_busiest 20 = .ok (.invokevirtual 279, 3) := o182 ac_cX11_busiest_16 4 1 23 rfl
theorem dX11_busiest_23 : decode cX11_busiest 23 = .ok (.aload_n 0, 1) := o42 ac_cX11_busiest_16 7 rfl
theorem dX11_busiest_24 : decode cX11_busiest 24 = .ok (.getfield 73, 3) := o180 ac_cX11_busiest_16 8 0 73 rfl
theorem dX11_busiest_27 : decode cX11_busiest 27 = .ok (.iconst 0, 1) := o3 ac_cX11_busiest_16 11 rfl
theorem dX11_busiest_28 : decode cX11_busiest 28 = .ok (.invokestatic 310, 3) := o184 ac_cX11_busiest_16 12 1 54 rfl
theorem dX11_busiest_31 : decode cX11_busiest 31 = .ok (.iconst 0, 1) := o3 ac_cX11_busiest_16 15 rfl
def kb_cX11_busiest_32 : List Nat := [62, 29, 27, 162, 0, 40, 42, 180, 0, 82, 42, 180, 0, 69, 29, 46, 182, 0, 121, 153]
theorem ac_cX11_busiest_32 : AL cX11_busiest 32 kb_cX11_busiest_32 := AL.of (m := 20) (by decide +kernel)
theorem dX11_busiest_32 : decode cX11_busiest 32 = .ok (.istore_n 3, 1) := o62 ac_cX11_busiest_32 0 rfl
theorem dX11_busiest_33 : decode cX11_busiest 33 = .ok (.iload_n 3, 1) := o29 ac_cX11_busiest_32 1 rfl
theorem dX11_busiest_34 : decode cX11_busiest 34 = .ok (.iload_n 1, 1) := o27 ac_cX11_busiest_32 2 rfl
theorem dX11_busiest_35 : decode cX11_busiest 35 = .ok (.if_icmp .ge 40, 3) := o162p ac_cX11_busiest_32 3 0 40 rfl rfl
theorem dX11_busiest_38 : decode cX11_busiest 38 = .ok (.aload_n 0, 1) := o42 ac_cX11_busiest_32 6 rfl
theorem dX11_busiest_39 : decode cX11_busiest 39 = .ok (.getfield 82, 3) := o180 ac_cX11_busiest_32 7 0 82 rfl
theorem dX11_busiest_42 : decode cX11_busiest 42 = .ok (.aload_n 0, 1) := o42 ac_cX11_busiest_32 10 rfl
theorem dX11_busiest_43 : decode cX11_busiest 43 = .ok (.getfield 69, 3) := o180 ac_cX11_busiest_32 11 0 69 rfl
theorem dX11_busiest_46 : decode cX11_busiest 46 = .ok (.iload_n 3, 1) := o29 ac_cX11_busiest_32 14 rfl
theorem dX11_busiest_47 : decode cX11_busiest 47 = .ok (.iaload, 1) := o46 ac_cX11_busiest_32 15 rfl
def kb_cX11_busiest_48 : List Nat := [182, 0, 121, 153, 0, 18, 42, 180, 0, 73, 42, 180, 0, 69, 29, 46, 92, 46, 4, 96]
theorem ac_cX11_busiest_48 : AL cX11_busiest 48 kb_cX11_busiest_48 := AL.of (m := 20) (by decide +kernel)
theorem dX11_busiest_48 : decode cX11_busiest 48 = .ok (.invokevirtual 121, 3) := o182 ac_cX11_busiest_48 0 0 121 rfl
theorem dX11_busiest_51 : decode cX11_busiest 51 = .ok (.ifCond .eq 18, 3) := o153p ac_cX11_busiest_48 3 0 18 rfl rfl
def kb_cX11_busiest_64 : List Nat := [92, 46, 4, 96, 79, 132, 3, 1, 167, 255, 217, 3, 62, 4, 54, 4, 21, 4, 16, 7]
theorem ac_cX11_busiest_64 : AL cX11_busiest 64 kb_cX11_busiest_64 := AL.of (m := 20) (by decide +kernel)
theorem dX11_busiest_69 : decode cX11_busiest 69 = .ok (.iinc 3 1, 3) := o132p ac_cX11_busiest_64 5 3 1 rfl rfl
theorem dX11_busiest_72 : decode cX11_busiest 72 = .ok (.goto (-39), 3) := o167n ac_cX11_busiest_64 8 255 217 38 rfl rfl rfl
theorem dX11_busiest_75 : decode cX11_busiest 75 = .ok (.iconst 0, 1) := o3 ac_cX11_busiest_64 11 rfl
theorem dX11_busiest_76 : decode cX11_busiest 76 = .ok (.istore_n 3, 1) := o62 ac_cX11_busiest_64 12 rfl
theorem dX11_busiest_77 : decode cX11_busiest 77 = .ok (.iconst 1, 1) := o4 ac_cX11_busiest_64 13 rfl
theorem dX11_busiest_78 : decode cX11_busiest 78 = .ok (.istore 4, 2) := o54 ac_cX11_busiest_64 14 4 rfl
def kb_cX11_busiest_80 : List Nat := [21, 4, 16, 7, 162, 0, 28, 42, 180, 0, 73, 21, 4, 46, 42, 180, 0, 73, 29, 46]
theorem ac_cX11_busiest_80 : AL cX11_busiest 80 kb_cX11_busiest_80 := AL.of (m := 20) (by decide +kernel)
theorem dX11_busiest_80 : decode cX11_busiest 80 = .ok (.iload 4, 2) := o21 ac_cX11_busiest_80 0 4 rfl
theorem dX11_busiest_82 : decode cX11_busiest 82 = .ok (.bipush 7, 2) := o16p ac_cX11_busiest_80 2 7 rfl rfl
theorem dX11_busiest_84 : decode cX11_busiest 84 = .ok (.if_icmp .ge 28, 3) := o162p ac_cX11_busiest_80 4 0 28 rfl rfl
theorem dX11_busiest_87 : decode cX11_busiest 87 = .ok (.aload_n 0, 1) := o42 ac_cX11_busiest_80 7 rfl
theorem dX11_busiest_88 : decode cX11_busiest 88 = .ok (.getfield 73, 3) := o180 ac_cX11_busiest_80 8 0 73 rfl
theorem dX11_busiest_91 : decode cX11_busiest 91 = .ok (.iload 4, 2) := o21 ac_cX11_busiest_80 11 4 rfl
theorem dX11_busiest_93 : decode cX11_busiest 93 = .ok (.iaload, 1) := o46 ac_cX11_busiest_80 13 rfl
theorem dX11_busiest_94 : decode cX11_busiest 94 = .ok (.aload_n 0, 1) := o42 ac_cX11_busiest_80 14 rfl
theorem dX11_busiest_95 : decode cX11_busiest 95 = .ok (.getfield 73, 3) := o180 ac_cX11_busiest_80 15 0 73 rfl
def kb_cX11_busiest_96 : List Nat := [0, 73, 29, 46, 164, 0, 6, 21, 4, 62, 132, 4, 1, 167, 255, 227, 42, 180, 0, 73]
theorem ac_cX11_busiest_96 : AL cX11_busiest 96 kb_cX11_busiest_96 := AL.of (m := 20) (by decide +kernel)
theorem dX11_busiest_98 : decode cX11_busiest 98 = .ok (.iload_n 3, 1) := o29 ac_cX11_busiest_96 2 rfl
theorem dX11_busiest_99 : decode cX11_busiest 99 = .ok (.iaload, 1) := o46 ac_cX11_busiest_96 3 rfl
theorem dX11_busiest_100 : decode cX11_busiest 100 = .ok (.if_icmp .le 6, 3) := o164p ac_cX11_busiest_96 4 0 6 rfl rfl
theorem dX11_busiest_106 : decode cX11_busiest 106 = .ok (.iinc 4 1, 3) := o132p ac_cX11_busiest_96 10 4 1 rfl rfl
theorem dX11_busiest_109 : decode cX11_busiest 109 = .ok (.goto (-29), 3) := o167n ac_cX11_busiest_96 13 255 227 28 rfl rfl rfl
def kb_cX11_busiest_112 : List Nat := [42, 180, 0, 73, 29, 46, 154, 0, 6, 16, 254, 172, 28, 154, 0, 7, 29, 167, 0, 9]
theorem ac_cX11_busiest_112 : AL cX11_busiest 112 kb_cX11_busiest_112 := AL.of (m := 20) (by decide +kernel)
theorem dX11_busiest_112 : decode cX11_busiest 112 = .ok (.aload_n 0, 1) := o42 ac_cX11_busiest_112 0 rfl
theorem dX11_busiest_113 : decode cX11_busiest 113 = .ok (.getfield 73, 3) := o180 ac_cX11_busiest_112 1 0 73 rfl
theorem dX11_busiest_116 : decode cX11_busiest 116 = .ok (.iload_n 3, 1) := o29 ac_cX11_busiest_112 4 rfl
theorem dX11_busiest_117 : decode cX11_busiest 117 = .ok (.iaload, 1) := o46 ac_cX11_busiest_112 5 rfl
theorem dX11_busiest_118 : decode cX11_busiest 118 = .ok (.ifCond .ne 6, 3) := o154p ac_cX11_busiest_112 6 0 6 rfl rfl
theorem dX11_busiest_121 : decode cX11_busiest 121 = .ok (.bipush (-2), 2) := o16n ac_cX11_busiest_112 9 254 1 rfl rfl rfl
theorem dX11_busiest_123 : decode cX11_busiest 123 = .ok (.ireturn, 1) := o172 ac_cX11_busiest_112 11 rfl
theorem dX11_busiest_16 : decode cX11_busiest 16 = .ok (.iconst (-1), 1) := o2 ac_cX11_busiest_16 0 rfl
theorem dX11_busiest_17 : decode cX11_busiest 17 = .ok (.ireturn, 1) := o172 ac_cX11_busiest_16 1 rfl
def kb_cX11_load_0 : List Nat := [27, 184, 1, 51, 154, 0, 5, 2, 172, 42, 27, 182, 1, 23, 3, 61, 3, 62, 29, 27]
theorem ac_cX11_load_0 : AL cX11_load 0 kb_cX11_load_0 := AL.of (m := 20) (by decide +kernel)
theorem dX11_load_0 : decode cX11_load 0 = .ok (.iload_n 1, 1) := o27 ac_cX11_load_0 0 rfl
theorem dX11_load_1 : decode cX11_load 1 = .ok (.invokestatic 307, 3) := o184 ac_cX11_load_0 1 1 51 rfl
theorem dX11_load_4 : decode cX11_load 4 = .ok (.ifCond .ne 5, 3) := o154p ac_cX11_load_0 4 0 5 rfl rfl
theorem dX11_load_9 : decode cX11_load 9 = .ok (.aload_n 0, 1) := o42 ac_cX11_load_0 9 rfl
theorem dX11_load_10 : decode cX11_load 10 = .ok (.iload_n 1, 1) := o27 ac_cX11_load_0 10 rfl
theorem dX11_load_11 : decode cX11_load 11 = .ok (.invokevirtual 279, 3) := o182 ac_cX11_load_0 11 1 23 rfl
theorem dX11_load_14 : decode cX11_load 14 = .ok (.iconst 0, 1) := o3 ac_cX11_load_0 14 rfl
theorem dX11_load_15 : decode cX11_load 15 = .ok (.istore_n 2, 1) := o61 ac_cX11_load_0 15 rfl
def kb_cX11_load_16 : List Nat := [3, 62, 29, 27, 162, 0, 42, 42, 180, 0, 82, 42, 180, 0, 69, 29, 46, 182, 0, 121]
theorem ac_cX11_load_16 : AL cX11_load 16 kb_cX11_load_16 := AL.of (m := 20) (by decide +kernel)
theorem dX11_load_16 : decode cX11_load 16 = .ok (.iconst 0, 1) := o3 ac_cX11_load_16 0 rfl
theorem dX11_load_17 : decode cX11_load 17 = .ok (.istore_n 3, 1) := o62 ac_cX11_load_16 1 rfl
theorem dX11_load_18 : decode cX11_load 18 = .ok (.iload_n 3, 1) := o29 ac_cX11_load_16 2 rfl
theorem dX11_load_19 : decode cX11_load 19 = .ok (.iload_n 1, 1) := o27 ac_cX11_load_16 3 rfl
theorem dX11_load_20 : decode cX11_load 20 = .ok (.if_icmp .ge 42, 3) := o162p ac_cX11_load_16 4 0 42 rfl rfl
theorem dX11_load_23 : decode cX11_load 23 = .ok (.aload_n 0, 1) := o42 ac_cX11_load_16 7 rfl
theorem dX11_load_24 : decode cX11_load 24 = .ok (.getfield 82, 3) := o180 ac_cX11_load_16 8 0 82 rfl
theorem dX11_load_27 : decode cX11_load 27 = .ok (.aload_n 0, 1) := o42 ac_cX11_load_16 11 rfl
theorem dX11_load_28 : decode cX11_load 28 = .ok (.getfield 69, 3) := o180 ac_cX11_load_16 12 0 69 rfl
theorem dX11_load_31 : decode cX11_load 31 = .ok (.iload_n 3, 1) := o29 ac_cX11_load_16 15 rfl
def kb_cX11_load_32 : List Nat := [46, 182, 0, 121, 153, 0, 20, 28, 42, 180, 0, 82, 180, 0, 125, 42, 180, 0, 69, 29]
theorem ac_cX11_load_32 : AL cX11_load 32 kb_cX11_load_32 := AL.of (m := 20) (by decide +kernel)
theorem dX11_load_32 : decode cX11_load 32 = .ok (.iaload, 1) := o46 ac_cX11_load_32 0 rfl
theorem dX11_load_33 : decode cX11_load 33 = .ok (.invokevirtual 121, 3) := o182 ac_cX11_load_32 1 0 121 rfl
theorem dX11_load_36 : decode cX11_load 36 = .ok (.ifCond .eq 20, 3) := o153p ac_cX11_load_32 4 0 20 rfl rfl
def kb_cX11_load_48 : List Nat := [180, 0, 69, 29, 46, 46, 96, 61, 132, 3, 1, 167, 255, 215, 28, 172]
theorem ac_cX11_load_48 : AL cX11_load 48 kb_cX11_load_48 := AL.of (m := 16) (by decide +kernel)
theorem dX11_load_56 : decode cX11_load 56 = .ok (.iinc 3 1, 3) := o132p ac_cX11_load_48 8 3 1 rfl rfl
theorem dX11_load_59 : decode cX11_load 59 = .ok (.goto (-41), 3) := o167n ac_cX11_load_48 11 255 215 40 rfl rfl rfl
theorem dX11_load_62 : decode cX11_load 62 = .ok (.iload_n 2, 1) := o28 ac_cX11_load_48 14 rfl
theorem dX11_load_63 : decode cX11_load 63 = .ok (.ireturn, 1) := o172 ac_cX11_load_48 15 rfl
def kb_cX11_rule_0 : List Nat := [27, 184, 1, 51, 154, 0, 7, 19, 1, 60, 172, 42, 180, 0, 58, 42, 180, 0, 54, 182]
theorem ac_cX11_rule_0 : AL cX11_rule 0 kb_cX11_rule_0 := AL.of (m := 20) (by decide +kernel)
theorem dX11_rule_0 : decode cX11_rule 0 = .ok (.iload_n 1, 1) := o27 ac_cX11_rule_0 0 rfl
theorem dX11_rule_1 : decode cX11_rule 1 = .ok (.invokestatic 307, 3) := o184 ac_cX11_rule_0 1 1 51 rfl
theorem dX11_rule_4 : decode cX11_rule 4 = .ok (.ifCond .ne 7, 3) := o154p ac_cX11_rule_0 4 0 7 rfl rfl
theorem dX11_rule_11 : decode cX11_rule 11 = .ok (.aload_n 0, 1) := o42 ac_cX11_rule_0 11 rfl
theorem dX11_rule_12 : decode cX11_rule 12 = .ok (.getfield 58, 3) := o180 ac_cX11_rule_0 12 0 58 rfl
theorem dX11_rule_15 : decode cX11_rule 15 = .ok (.aload_n 0, 1) := o42 ac_cX11_rule_0 15 rfl
def kb_cX11_rule_16 : List Nat := [180, 0, 54, 182, 0, 230, 3, 61, 3, 62, 29, 27, 162, 0, 42, 28, 42, 180, 0, 19]
theorem ac_cX11_rule_16 : AL cX11_rule 16 kb_cX11_rule_16 := AL.of (m := 20) (by decide +kernel)
theorem dX11_rule_16 : decode cX11_rule 16 = .ok (.getfield 54, 3) := o180 ac_cX11_rule_16 0 0 54 rfl
theorem dX11_rule_19 : decode cX11_rule 19 = .ok (.invokevirtual 230, 3) := o182 ac_cX11_rule_16 3 0 230 rfl
theorem dX11_rule_22 : decode cX11_rule 22 = .ok (.iconst 0, 1) := o3 ac_cX11_rule_16 6 rfl
theorem dX11_rule_23 : decode cX11_rule 23 = .ok (.istore_n 2, 1) := o61 ac_cX11_rule_16 7 rfl
theorem dX11_rule_24 : decode cX11_rule 24 = .ok (.iconst 0, 1) := o3 ac_cX11_rule_16 8 rfl
theorem dX11_rule_25 : decode cX11_rule 25 = .ok (.istore_n 3, 1) := o62 ac_cX11_rule_16 9 rfl
theorem dX11_rule_26 : decode cX11_rule 26 = .ok (.iload_n 3, 1) := o29 ac_cX11_rule_16 10 rfl
theorem dX11_rule_27 : decode cX11_rule 27 = .ok (.iload_n 1, 1) := o27 ac_cX11_rule_16 11 rfl
theorem dX11_rule_28 : decode cX11_rule 28 = .ok (.if_icmp .ge 42, 3) := o162p ac_cX11_rule_16 12 0 42 rfl rfl
theorem dX11_rule_31 : decode cX11_rule 31 = .ok (.iload_n 2, 1) := o28 ac_cX11_rule_16 15 rfl
def kb_cX11_rule_32 : List Nat := [42, 180, 0, 19, 42, 180, 0, 82, 42, 180, 0, 58, 182, 1, 61, 96, 61, 42, 180, 0]
theorem ac_cX11_rule_32 : AL cX11_rule 32 kb_cX11_rule_32 := AL.of (m := 20) (by decide +kernel)
theorem dX11_rule_32 : decode cX11_rule 32 = .ok (.aload_n 0, 1) := o42 ac_cX11_rule_32 0 rfl
theorem dX11_rule_33 : decode cX11_rule 33 = .ok (.getfield 19, 3) := o180 ac_cX11_rule_32 1 0 19 rfl
theorem dX11_rule_36 : decode cX11_rule 36 = .ok (.aload_n 0, 1) := o42 ac_cX11_rule_32 4 rfl
theorem dX11_rule_37 : decode cX11_rule 37 = .ok (.getfield 82, 3) := o180 ac_cX11_rule_32 5 0 82 rfl
theorem dX11_rule_40 : decode cX11_rule 40 = .ok (.aload_n 0, 1) := o42 ac_cX11_rule_32 8 rfl
theorem dX11_rule_41 : decode cX11_rule 41 = .ok (.getfield 58, 3) := o180 ac_cX11_rule_32 9 0 58 rfl
theorem dX11_rule_44 : decode cX11_rule 44 = .ok (.invokevirtual 317, 3) := o182 ac_cX11_rule_32 12 1 61 rfl
theorem dX11_rule_47 : decode cX11_rule 47 = .ok (.iadd, 1) := o96 ac_cX11_rule_32 15 rfl
def kb_cX11_rule_48 : List Nat := [61, 42, 180, 0, 19, 42, 180, 0, 82, 42, 180, 0, 58, 182, 1, 29, 132, 3, 1, 167]
theorem ac_cX11_rule_48 : AL cX11_rule 48 kb_cX11_rule_48 := AL.of (m := 20) (by decide +kernel)
theorem dX11_rule_48 : decode cX11_rule 48 = .ok (.istore_n 2, 1) := o61 ac_cX11_rule_48 0 rfl
theorem dX11_rule_49 : decode cX11_rule 49 = .ok (.aload_n 0, 1) := o42 ac_cX11_rule_48 1 rfl
theorem dX11_rule_50 : decode cX11_rule 50 = .ok (.getfield 19, 3) := o180 ac_cX11_rule_48 2 0 19 rfl
theorem dX11_rule_53 : decode cX11_rule 53 = .ok (.aload_n 0, 1) := o42 ac_cX11_rule_48 5 rfl
theorem dX11_rule_54 : decode cX11_rule 54 = .ok (.getfield 82, 3) := o180 ac_cX11_rule_48 6 0 82 rfl
theorem dX11_rule_57 : decode cX11_rule 57 = .ok (.aload_n 0, 1) := o42 ac_cX11_rule_48 9 rfl
theorem dX11_rule_58 : decode cX11_rule 58 = .ok (.getfield 58, 3) := o180 ac_cX11_rule_48 10 0 58 rfl
theorem dX11_rule_61 : decode cX11_rule 61 = .ok (.invokevirtual 285, 3) := o182 ac_cX11_rule_48 13 1 29 rfl
def kb_cX11_rule_64 : List Nat := [132, 3, 1, 167, 255, 215, 28, 172]
theorem ac_cX11_rule_64 : AL cX11_rule 64 kb_cX11_rule_64 := AL.of (m := 8) (by decide +kernel)
theorem dX11_rule_64 : decode cX11_rule 64 = .ok (.iinc 3 1, 3) := o132p ac_cX11_rule_64 0 3 1 rfl rfl
theorem dX11_rule_67 : decode cX11_rule 67 = .ok (.goto (-41), 3) := o167n ac_cX11_rule_64 3 255 215 40 rfl rfl rfl
theorem dX11_rule_70 : decode cX11_rule 70 = .ok (.iload_n 2, 1) := o28 ac_cX11_rule_64 6 rfl
theorem dX11_rule_71 : decode cX11_rule 71 = .ok (.ireturn, 1) := o172 ac_cX11_rule_64 7 rfl
def kb_cX11_light_0 : List Nat := [27, 184, 1, 51, 153, 0, 12, 28, 155, 0, 8, 28, 4, 164, 0, 5, 2, 172, 16, 254]
theorem ac_cX11_light_0 : AL cX11_light 0 kb_cX11_light_0 := AL.of (m := 20) (by decide +kernel)
theorem dX11_light_0 : decode cX11_light 0 = .ok (.iload_n 1, 1) := o27 ac_cX11_light_0 0 rfl
theorem dX11_light_1 : decode cX11_light 1 = .ok (.invokestatic 307, 3) := o184 ac_cX11_light_0 1 1 51 rfl
theorem dX11_light_4 : decode cX11_light 4 = .ok (.ifCond .eq 12, 3) := o153p ac_cX11_light_0 4 0 12 rfl rfl
theorem dX11_light_7 : decode cX11_light 7 = .ok (.iload_n 2, 1) := o28 ac_cX11_light_0 7 rfl
theorem dX11_light_8 : decode cX11_light 8 = .ok (.ifCond .lt 8, 3) := o155p ac_cX11_light_0 8 0 8 rfl rfl
theorem dX11_light_11 : decode cX11_light 11 = .ok (.iload_n 2, 1) := o28 ac_cX11_light_0 11 rfl
theorem dX11_light_12 : decode cX11_light 12 = .ok (.iconst 1, 1) := o4 ac_cX11_light_0 12 rfl
theorem dX11_light_13 : decode cX11_light 13 = .ok (.if_icmp .le 5, 3) := o164p ac_cX11_light_0 13 0 5 rfl rfl
def kb_cX11_light_16 : List Nat := [2, 172, 16, 254, 62, 16, 254, 54, 4, 3, 54, 5, 21, 5, 42, 180, 0, 82, 180, 0]
theorem ac_cX11_light_16 : AL cX11_light 16 kb_cX11_light_16 := AL.of (m := 20) (by decide +kernel)
theorem dX11_light_18 : decode cX11_light 18 = .ok (.bipush (-2), 2) := o16n ac_cX11_light_16 2 254 1 rfl rfl rfl
theorem dX11_light_20 : decode cX11_light 20 = .ok (.istore_n 3, 1) := o62 ac_cX11_light_16 4 rfl
theorem dX11_light_21 : decode cX11_light 21 = .ok (.bipush (-2), 2) := o16n ac_cX11_light_16 5 254 1 rfl rfl rfl
theorem dX11_light_23 : decode cX11_light 23 = .ok (.istore 4, 2) := o54 ac_cX11_light_16 7 4 rfl
theorem dX11_light_25 : decode cX11_light 25 = .ok (.iconst 0, 1) := o3 ac_cX11_light_16 9 rfl
theorem dX11_light_26 : decode cX11_light 26 = .ok (.istore 5, 2) := o54 ac_cX11_light_16 10 5 rfl
theorem dX11_light_28 : decode cX11_light 28 = .ok (.iload 5, 2) := o21 ac_cX11_light_16 12 5 rfl
theorem dX11_light_30 : decode cX11_light 30 = .ok (.aload_n 0, 1) := o42 ac_cX11_light_16 14 rfl
theorem dX11_light_31 : decode cX11_light 31 = .ok (.getfield 82, 3) := o180 ac_cX11_light_16 15 0 82 rfl
def kb_cX11_light_32 : List Nat := [0, 82, 180, 0, 171, 162, 0, 116, 42, 180, 0, 82, 180, 0, 149, 21, 5, 50, 42, 180]
theorem ac_cX11_light_32 : AL cX11_light 32 kb_cX11_light_32 := AL.of (m := 20) (by decide +kernel)
theorem dX11_light_34 : decode cX11_light 34 = .ok (.getfield 171, 3) := o180 ac_cX11_light_32 2 0 171 rfl
theorem dX11_light_37 : decode cX11_light 37 = .ok (.if_icmp .ge 116, 3) := o162p ac_cX11_light_32 5 0 116 rfl rfl
def kb_cX11_light_144 : List Nat := [177, 54, 4, 132, 5, 1, 167, 255, 134, 28, 154, 0, 7, 29, 167, 0, 5, 21, 4, 172]
theorem ac_cX11_light_144 : AL cX11_light 144 kb_cX11_light_144 := AL.of (m := 20) (by decide +kernel)
theorem dX11_light_153 : decode cX11_light 153 = .ok (.iload_n 2, 1) := o28 ac_cX11_light_144 9 rfl
theorem dX11_light_154 : decode cX11_light 154 = .ok (.ifCond .ne 7, 3) := o154p ac_cX11_light_144 10 0 7 rfl rfl
theorem dX11_light_157 : decode cX11_light 157 = .ok (.iload_n 3, 1) := o29 ac_cX11_light_144 13 rfl
theorem dX11_light_158 : decode cX11_light 158 = .ok (.goto 5, 3) := o167p ac_cX11_light_144 14 0 5 rfl rfl
def kb_cX11_light_160 : List Nat := [5, 21, 4, 172]
theorem ac_cX11_light_160 : AL cX11_light 160 kb_cX11_light_160 := AL.of (m := 4) (by decide +kernel)
theorem dX11_light_161 : decode cX11_light 161 = .ok (.iload 4, 2) := o21 ac_cX11_light_160 1 4 rfl
theorem dX11_light_163 : decode cX11_light 163 = .ok (.ireturn, 1) := o172 ac_cX11_light_160 3 rfl
theorem dX11_light_16 : decode cX11_light 16 = .ok (.iconst (-1), 1) := o2 ac_cX11_light_16 0 rfl
theorem dX11_light_17 : decode cX11_light 17 = .ok (.ireturn, 1) := o172 ac_cX11_light_16 1 rfl
theorem dX11_load_7 : decode cX11_load 7 = .ok (.iconst (-1), 1) := o2 ac_cX11_load_0 7 rfl
theorem dX11_load_8 : decode cX11_load 8 = .ok (.ireturn, 1) := o172 ac_cX11_load_0 8 rfl
theorem dX11_rule_7 : decode cX11_rule 7 = .ok (.ldc_w 316, 3) := o19 ac_cX11_rule_0 7 1 60 rfl
theorem dX11_rule_10 : decode cX11_rule 10 = .ok (.ireturn, 1) := o172 ac_cX11_rule_0 10 rfl
def kb_cX11_order_0 : List Nat := [27, 155, 0, 9, 27, 16, 7, 161, 0, 5, 2, 172, 3, 61, 3, 62, 29, 16, 9, 163]
theorem ac_cX11_order_0 : AL cX11_order 0 kb_cX11_order_0 := AL.of (m := 20) (by decide +kernel)
theorem dX11_order_0 : decode cX11_order 0 = .ok (.iload_n 1, 1) := o27 ac_cX11_order_0 0 rfl
theorem dX11_order_1 : decode cX11_order 1 = .ok (.ifCond .lt 9, 3) := o155p ac_cX11_order_0 1 0 9 rfl rfl
theorem dX11_order_4 : decode cX11_order 4 = .ok (.iload_n 1, 1) := o27 ac_cX11_order_0 4 rfl
theorem dX11_order_5 : decode cX11_order 5 = .ok (.bipush 7, 2) := o16p ac_cX11_order_0 5 7 rfl rfl
theorem dX11_order_7 : decode cX11_order 7 = .ok (.if_icmp .lt 5, 3) := o161p ac_cX11_order_0 7 0 5 rfl rfl
theorem dX11_order_10 : decode cX11_order 10 = .ok (.iconst (-1), 1) := o2 ac_cX11_order_0 10 rfl
theorem dX11_order_11 : decode cX11_order 11 = .ok (.ireturn, 1) := o172 ac_cX11_order_0 11 rfl
theorem dX11_order_12 : decode cX11_order 12 = .ok (.iconst 0, 1) := o3 ac_cX11_order_0 12 rfl
theorem dX11_order_13 : decode cX11_order 13 = .ok (.istore_n 2, 1) := o61 ac_cX11_order_0 13 rfl
theorem dX11_order_14 : decode cX11_order 14 = .ok (.iconst 0, 1) := o3 ac_cX11_order_0 14 rfl
theorem dX11_order_15 : decode cX11_order 15 = .ok (.istore_n 3, 1) := o62 ac_cX11_order_0 15 rfl
def kb_cX11_order_16 : List Nat := [29, 16, 9, 163, 0, 67, 3, 54, 4, 21, 4, 42, 180, 0, 54, 180, 1, 65, 162, 0]
theorem ac_cX11_order_16 : AL cX11_order 16 kb_cX11_order_16 := AL.of (m := 20) (by decide +kernel)
theorem dX11_order_16 : decode cX11_order 16 = .ok (.iload_n 3, 1) := o29 ac_cX11_order_16 0 rfl
theorem dX11_order_17 : decode cX11_order 17 = .ok (.bipush 9, 2) := o16p ac_cX11_order_16 1 9 rfl rfl
theorem dX11_order_19 : decode cX11_order 19 = .ok (.if_icmp .gt 67, 3) := o163p ac_cX11_order_16 3 0 67 rfl rfl
theorem dX11_order_22 : decode cX11_order 22 = .ok (.iconst 0, 1) := o3 ac_cX11_order_16 6 rfl
theorem dX11_order_23 : decode cX11_order 23 = .ok (.istore 4, 2) := o54 ac_cX11_order_16 7 4 rfl
theorem dX11_order_25 : decode cX11_order 25 = .ok (.iload 4, 2) := o21 ac_cX11_order_16 9 4 rfl
theorem dX11_order_27 : decode cX11_order 27 = .ok (.aload_n 0, 1) := o42 ac_cX11_order_16 11 rfl
theorem dX11_order_28 : decode cX11_order 28 = .ok (.getfield 54, 3) := o180 ac_cX11_order_16 12 0 54 rfl
theorem dX11_order_31 : decode cX11_order 31 = .ok (.getfield 321, 3) := o180 ac_cX11_order_16 15 1 65 rfl
def kb_cX11_order_32 : List Nat := [1, 65, 162, 0, 46, 42, 180, 0, 54, 21, 4, 182, 0, 134, 153, 0, 28, 42, 180, 0]
theorem ac_cX11_order_32 : AL cX11_order 32 kb_cX11_order_32 := AL.of (m := 20) (by decide +kernel)
theorem dX11_order_34 : decode cX11_order 34 = .ok (.if_icmp .ge 46, 3) := o162p ac_cX11_order_32 2 0 46 rfl rfl
def kb_cX11_order_80 : List Nat := [132, 3, 1, 167, 255, 189, 2, 172]
theorem ac_cX11_order_80 : AL cX11_order 80 kb_cX11_order_80 := AL.of (m := 8) (by decide +kernel)
theorem dX11_order_80 : decode cX11_order 80 = .ok (.iinc 3 1, 3) := o132p ac_cX11_order_80 0 3 1 rfl rfl
theorem dX11_order_83 : decode cX11_order 83 = .ok (.goto (-67), 3) := o167n ac_cX11_order_80 3 255 189 66 rfl rfl rfl
theorem dX11_order_86 : decode cX11_order 86 = .ok (.iconst (-1), 1) := o2 ac_cX11_order_80 6 rfl
theorem dX11_order_87 : decode cX11_order 87 = .ok (.ireturn, 1) := o172 ac_cX11_order_80 7 rfl
def kb_cX2_agreeing_0 : List Nat := [27, 54, 4, 3, 54, 5, 21, 5, 28, 162, 0, 85, 21, 5, 42, 180, 0, 19, 162, 0]
theorem ac_cX2_agreeing_0 : AL cX2_agreeing 0 kb_cX2_agreeing_0 := AL.of (m := 20) (by decide +kernel)
theorem dX2_agreeing_0 : decode cX2_agreeing 0 = .ok (.iload_n 1, 1) := o27 ac_cX2_agreeing_0 0 rfl
theorem dX2_agreeing_1 : decode cX2_agreeing 1 = .ok (.istore 4, 2) := o54 ac_cX2_agreeing_0 1 4 rfl
theorem dX2_agreeing_3 : decode cX2_agreeing 3 = .ok (.iconst 0, 1) := o3 ac_cX2_agreeing_0 3 rfl
theorem dX2_agreeing_4 : decode cX2_agreeing 4 = .ok (.istore 5, 2) := o54 ac_cX2_agreeing_0 4 5 rfl
theorem dX2_agreeing_6 : decode cX2_agreeing 6 = .ok (.iload 5, 2) := o21 ac_cX2_agreeing_0 6 5 rfl
theorem dX2_agreeing_8 : decode cX2_agreeing 8 = .ok (.iload_n 2, 1) := o28 ac_cX2_agreeing_0 8 rfl
theorem dX2_agreeing_9 : decode cX2_agreeing 9 = .ok (.if_icmp .ge 85, 3) := o162p ac_cX2_agreeing_0 9 0 85 rfl rfl
def kb_cX2_agreeing_80 : List Nat := [7, 21, 7, 2, 130, 126, 54, 4, 132, 5, 1, 167, 255, 171, 21, 4, 172]
theorem ac_cX2_agreeing_80 : AL cX2_agreeing 80 kb_cX2_agreeing_80 := AL.of (m := 17) (by decide +kernel)
theorem dX2_agreeing_94 : decode cX2_agreeing 94 = .ok (.iload 4, 2) := o21 ac_cX2_agreeing_80 14 4 rfl
def kb_cX2_agreeing_96 : List Nat := [172]
theorem ac_cX2_agreeing_96 : AL cX2_agreeing 96 kb_cX2_agreeing_96 := AL.of (m := 1) (by decide +kernel)
theorem dX2_agreeing_96 : decode cX2_agreeing 96 = .ok (.ireturn, 1) := o172 ac_cX2_agreeing_96 0 rfl
def kb_cX11_watch_0 : List Nat := [27, 155, 0, 14, 27, 42, 180, 0, 33, 180, 0, 117, 164, 0, 5, 2, 172, 42, 16, 41]
theorem ac_cX11_watch_0 : AL cX11_watch 0 kb_cX11_watch_0 := AL.of (m := 20) (by decide +kernel)
theorem dX11_watch_0 : decode cX11_watch 0 = .ok (.iload_n 1, 1) := o27 ac_cX11_watch_0 0 rfl
theorem dX11_watch_1 : decode cX11_watch 1 = .ok (.ifCond .lt 14, 3) := o155p ac_cX11_watch_0 1 0 14 rfl rfl
theorem dX11_watch_4 : decode cX11_watch 4 = .ok (.iload_n 1, 1) := o27 ac_cX11_watch_0 4 rfl
theorem dX11_watch_5 : decode cX11_watch 5 = .ok (.aload_n 0, 1) := o42 ac_cX11_watch_0 5 rfl
theorem dX11_watch_6 : decode cX11_watch 6 = .ok (.getfield 33, 3) := o180 ac_cX11_watch_0 6 0 33 rfl
theorem dX11_watch_9 : decode cX11_watch 9 = .ok (.getfield 117, 3) := o180 ac_cX11_watch_0 9 0 117 rfl
theorem dX11_watch_12 : decode cX11_watch 12 = .ok (.if_icmp .le 5, 3) := o164p ac_cX11_watch_0 12 0 5 rfl rfl
def kb_cX11_watch_16 : List Nat := [172, 42, 16, 41, 182, 1, 23, 42, 180, 0, 33, 42, 180, 0, 54, 3, 182, 0, 180, 27]
theorem ac_cX11_watch_16 : AL cX11_watch 16 kb_cX11_watch_16 := AL.of (m := 20) (by decide +kernel)
theorem dX11_watch_17 : decode cX11_watch 17 = .ok (.aload_n 0, 1) := o42 ac_cX11_watch_16 1 rfl
theorem dX11_watch_18 : decode cX11_watch 18 = .ok (.bipush 41, 2) := o16p ac_cX11_watch_16 2 41 rfl rfl
theorem dX11_watch_20 : decode cX11_watch 20 = .ok (.invokevirtual 279, 3) := o182 ac_cX11_watch_16 4 1 23 rfl
theorem dX11_watch_23 : decode cX11_watch 23 = .ok (.aload_n 0, 1) := o42 ac_cX11_watch_16 7 rfl
theorem dX11_watch_24 : decode cX11_watch 24 = .ok (.getfield 33, 3) := o180 ac_cX11_watch_16 8 0 33 rfl
theorem dX11_watch_27 : decode cX11_watch 27 = .ok (.aload_n 0, 1) := o42 ac_cX11_watch_16 11 rfl
theorem dX11_watch_28 : decode cX11_watch 28 = .ok (.getfield 54, 3) := o180 ac_cX11_watch_16 12 0 54 rfl
theorem dX11_watch_31 : decode cX11_watch 31 = .ok (.iconst 0, 1) := o3 ac_cX11_watch_16 15 rfl
def kb_cX11_watch_32 : List Nat := [182, 0, 180, 27, 42, 180, 0, 69, 182, 1, 70, 61, 28, 154, 0, 6, 16, 254, 172, 3]
theorem ac_cX11_watch_32 : AL cX11_watch 32 kb_cX11_watch_32 := AL.of (m := 20) (by decide +kernel)
theorem dX11_watch_32 : decode cX11_watch 32 = .ok (.invokevirtual 180, 3) := o182 ac_cX11_watch_32 0 0 180 rfl
theorem dX11_watch_35 : decode cX11_watch 35 = .ok (.iload_n 1, 1) := o27 ac_cX11_watch_32 3 rfl
theorem dX11_watch_36 : decode cX11_watch 36 = .ok (.aload_n 0, 1) := o42 ac_cX11_watch_32 4 rfl
theorem dX11_watch_37 : decode cX11_watch 37 = .ok (.getfield 69, 3) := o180 ac_cX11_watch_32 5 0 69 rfl
theorem dX11_watch_40 : decode cX11_watch 40 = .ok (.invokevirtual 326, 3) := o182 ac_cX11_watch_32 8 1 70 rfl
theorem dX11_watch_43 : decode cX11_watch 43 = .ok (.istore_n 2, 1) := o61 ac_cX11_watch_32 11 rfl
theorem dX11_watch_44 : decode cX11_watch 44 = .ok (.iload_n 2, 1) := o28 ac_cX11_watch_32 12 rfl
theorem dX11_watch_45 : decode cX11_watch 45 = .ok (.ifCond .ne 6, 3) := o154p ac_cX11_watch_32 13 0 6 rfl rfl
def kb_cX11_watch_48 : List Nat := [16, 254, 172, 3, 62, 16, 8, 54, 4, 3, 54, 5, 21, 5, 16, 40, 163, 0, 70, 42]
theorem ac_cX11_watch_48 : AL cX11_watch 48 kb_cX11_watch_48 := AL.of (m := 20) (by decide +kernel)
theorem dX11_watch_48 : decode cX11_watch 48 = .ok (.bipush (-2), 2) := o16n ac_cX11_watch_48 0 254 1 rfl rfl rfl
theorem dX11_watch_50 : decode cX11_watch 50 = .ok (.ireturn, 1) := o172 ac_cX11_watch_48 2 rfl
theorem dX11_watch_15 : decode cX11_watch 15 = .ok (.iconst (-1), 1) := o2 ac_cX11_watch_0 15 rfl
theorem dX11_watch_16 : decode cX11_watch 16 = .ok (.ireturn, 1) := o172 ac_cX11_watch_16 0 rfl
def kb_cX11_glitters_0 : List Nat := [27, 155, 0, 23, 27, 42, 180, 0, 33, 180, 0, 117, 163, 0, 12, 28, 155, 0, 8, 28]
theorem ac_cX11_glitters_0 : AL cX11_glitters 0 kb_cX11_glitters_0 := AL.of (m := 20) (by decide +kernel)
theorem dX11_glitters_0 : decode cX11_glitters 0 = .ok (.iload_n 1, 1) := o27 ac_cX11_glitters_0 0 rfl
theorem dX11_glitters_1 : decode cX11_glitters 1 = .ok (.ifCond .lt 23, 3) := o155p ac_cX11_glitters_0 1 0 23 rfl rfl
theorem dX11_glitters_4 : decode cX11_glitters 4 = .ok (.iload_n 1, 1) := o27 ac_cX11_glitters_0 4 rfl
theorem dX11_glitters_5 : decode cX11_glitters 5 = .ok (.aload_n 0, 1) := o42 ac_cX11_glitters_0 5 rfl
theorem dX11_glitters_6 : decode cX11_glitters 6 = .ok (.getfield 33, 3) := o180 ac_cX11_glitters_0 6 0 33 rfl
theorem dX11_glitters_9 : decode cX11_glitters 9 = .ok (.getfield 117, 3) := o180 ac_cX11_glitters_0 9 0 117 rfl
theorem dX11_glitters_12 : decode cX11_glitters 12 = .ok (.if_icmp .gt 12, 3) := o163p ac_cX11_glitters_0 12 0 12 rfl rfl
theorem dX11_glitters_15 : decode cX11_glitters 15 = .ok (.iload_n 2, 1) := o28 ac_cX11_glitters_0 15 rfl
def kb_cX11_glitters_16 : List Nat := [155, 0, 8, 28, 4, 164, 0, 5, 2, 172, 42, 16, 41, 182, 1, 23, 42, 180, 0, 33]
theorem ac_cX11_glitters_16 : AL cX11_glitters 16 kb_cX11_glitters_16 := AL.of (m := 20) (by decide +kernel)
theorem dX11_glitters_16 : decode cX11_glitters 16 = .ok (.ifCond .lt 8, 3) := o155p ac_cX11_glitters_16 0 0 8 rfl rfl
theorem dX11_glitters_19 : decode cX11_glitters 19 = .ok (.iload_n 2, 1) := o28 ac_cX11_glitters_16 3 rfl
theorem dX11_glitters_20 : decode cX11_glitters 20 = .ok (.iconst 1, 1) := o4 ac_cX11_glitters_16 4 rfl
theorem dX11_glitters_21 : decode cX11_glitters 21 = .ok (.if_icmp .le 5, 3) := o164p ac_cX11_glitters_16 5 0 5 rfl rfl
theorem dX11_glitters_26 : decode cX11_glitters 26 = .ok (.aload_n 0, 1) := o42 ac_cX11_glitters_16 10 rfl
theorem dX11_glitters_27 : decode cX11_glitters 27 = .ok (.bipush 41, 2) := o16p ac_cX11_glitters_16 11 41 rfl rfl
theorem dX11_glitters_29 : decode cX11_glitters 29 = .ok (.invokevirtual 279, 3) := o182 ac_cX11_glitters_16 13 1 23 rfl
def kb_cX11_glitters_32 : List Nat := [42, 180, 0, 33, 42, 180, 0, 54, 3, 182, 0, 180, 27, 42, 180, 0, 69, 182, 1, 70]
theorem ac_cX11_glitters_32 : AL cX11_glitters 32 kb_cX11_glitters_32 := AL.of (m := 20) (by decide +kernel)
theorem dX11_glitters_32 : decode cX11_glitters 32 = .ok (.aload_n 0, 1) := o42 ac_cX11_glitters_32 0 rfl
theorem dX11_glitters_33 : decode cX11_glitters 33 = .ok (.getfield 33, 3) := o180 ac_cX11_glitters_32 1 0 33 rfl
theorem dX11_glitters_36 : decode cX11_glitters 36 = .ok (.aload_n 0, 1) := o42 ac_cX11_glitters_32 4 rfl
theorem dX11_glitters_37 : decode cX11_glitters 37 = .ok (.getfield 54, 3) := o180 ac_cX11_glitters_32 5 0 54 rfl
theorem dX11_glitters_40 : decode cX11_glitters 40 = .ok (.iconst 0, 1) := o3 ac_cX11_glitters_32 8 rfl
theorem dX11_glitters_41 : decode cX11_glitters 41 = .ok (.invokevirtual 180, 3) := o182 ac_cX11_glitters_32 9 0 180 rfl
theorem dX11_glitters_44 : decode cX11_glitters 44 = .ok (.iload_n 1, 1) := o27 ac_cX11_glitters_32 12 rfl
theorem dX11_glitters_45 : decode cX11_glitters 45 = .ok (.aload_n 0, 1) := o42 ac_cX11_glitters_32 13 rfl
theorem dX11_glitters_46 : decode cX11_glitters 46 = .ok (.getfield 69, 3) := o180 ac_cX11_glitters_32 14 0 69 rfl
def kb_cX11_glitters_48 : List Nat := [69, 182, 1, 70, 62, 28, 154, 0, 10, 29, 184, 1, 74, 167, 0, 4, 29, 172]
theorem ac_cX11_glitters_48 : AL cX11_glitters 48 kb_cX11_glitters_48 := AL.of (m := 18) (by decide +kernel)
theorem dX11_glitters_49 : decode cX11_glitters 49 = .ok (.invokevirtual 326, 3) := o182 ac_cX11_glitters_48 1 1 70 rfl
theorem dX11_glitters_52 : decode cX11_glitters 52 = .ok (.istore_n 3, 1) := o62 ac_cX11_glitters_48 4 rfl
theorem dX11_glitters_53 : decode cX11_glitters 53 = .ok (.iload_n 2, 1) := o28 ac_cX11_glitters_48 5 rfl
theorem dX11_glitters_54 : decode cX11_glitters 54 = .ok (.ifCond .ne 10, 3) := o154p ac_cX11_glitters_48 6 0 10 rfl rfl
theorem dX11_glitters_57 : decode cX11_glitters 57 = .ok (.iload_n 3, 1) := o29 ac_cX11_glitters_48 9 rfl
theorem dX11_glitters_58 : decode cX11_glitters 58 = .ok (.invokestatic 330, 3) := o184 ac_cX11_glitters_48 10 1 74 rfl
theorem dX11_glitters_61 : decode cX11_glitters 61 = .ok (.goto 4, 3) := o167p ac_cX11_glitters_48 13 0 4 rfl rfl
def kb_cX11_glitters_64 : List Nat := [29, 172]
theorem ac_cX11_glitters_64 : AL cX11_glitters 64 kb_cX11_glitters_64 := AL.of (m := 2) (by decide +kernel)
theorem dX11_glitters_64 : decode cX11_glitters 64 = .ok (.iload_n 3, 1) := o29 ac_cX11_glitters_64 0 rfl
theorem dX11_glitters_65 : decode cX11_glitters 65 = .ok (.ireturn, 1) := o172 ac_cX11_glitters_64 1 rfl
theorem dX11_glitters_24 : decode cX11_glitters 24 = .ok (.iconst (-1), 1) := o2 ac_cX11_glitters_16 8 rfl
theorem dX11_glitters_25 : decode cX11_glitters 25 = .ok (.ireturn, 1) := o172 ac_cX11_glitters_16 9 rfl
def kb_cX11_then_0 : List Nat := [27, 155, 0, 18, 27, 16, 60, 163, 0, 12, 28, 155, 0, 8, 28, 6, 164, 0, 5, 2]
theorem ac_cX11_then_0 : AL cX11_then 0 kb_cX11_then_0 := AL.of (m := 20) (by decide +kernel)
theorem dX11_then_0 : decode cX11_then 0 = .ok (.iload_n 1, 1) := o27 ac_cX11_then_0 0 rfl
theorem dX11_then_1 : decode cX11_then 1 = .ok (.ifCond .lt 18, 3) := o155p ac_cX11_then_0 1 0 18 rfl rfl
theorem dX11_then_4 : decode cX11_then 4 = .ok (.iload_n 1, 1) := o27 ac_cX11_then_0 4 rfl
theorem dX11_then_5 : decode cX11_then 5 = .ok (.bipush 60, 2) := o16p ac_cX11_then_0 5 60 rfl rfl
theorem dX11_then_7 : decode cX11_then 7 = .ok (.if_icmp .gt 12, 3) := o163p ac_cX11_then_0 7 0 12 rfl rfl
theorem dX11_then_10 : decode cX11_then 10 = .ok (.iload_n 2, 1) := o28 ac_cX11_then_0 10 rfl
theorem dX11_then_11 : decode cX11_then 11 = .ok (.ifCond .lt 8, 3) := o155p ac_cX11_then_0 11 0 8 rfl rfl
theorem dX11_then_14 : decode cX11_then 14 = .ok (.iload_n 2, 1) := o28 ac_cX11_then_0 14 rfl
theorem dX11_then_15 : decode cX11_then 15 = .ok (.iconst 3, 1) := o6 ac_cX11_then_0 15 rfl
def kb_cX11_then_16 : List Nat := [164, 0, 5, 2, 172, 42, 180, 0, 58, 42, 180, 0, 54, 182, 0, 230, 42, 180, 0, 19]
theorem ac_cX11_then_16 : AL cX11_then 16 kb_cX11_then_16 := AL.of (m := 20) (by decide +kernel)
theorem dX11_then_16 : decode cX11_then 16 = .ok (.if_icmp .le 5, 3) := o164p ac_cX11_then_16 0 0 5 rfl rfl
theorem dX11_then_21 : decode cX11_then 21 = .ok (.aload_n 0, 1) := o42 ac_cX11_then_16 5 rfl
theorem dX11_then_22 : decode cX11_then 22 = .ok (.getfield 58, 3) := o180 ac_cX11_then_16 6 0 58 rfl
theorem dX11_then_25 : decode cX11_then 25 = .ok (.aload_n 0, 1) := o42 ac_cX11_then_16 9 rfl
theorem dX11_then_26 : decode cX11_then 26 = .ok (.getfield 54, 3) := o180 ac_cX11_then_16 10 0 54 rfl
theorem dX11_then_29 : decode cX11_then 29 = .ok (.invokevirtual 230, 3) := o182 ac_cX11_then_16 13 0 230 rfl
def kb_cX11_then_32 : List Nat := [42, 180, 0, 19, 42, 180, 0, 82, 42, 180, 0, 58, 27, 42, 180, 0, 82, 180, 0, 220]
theorem ac_cX11_then_32 : AL cX11_then 32 kb_cX11_then_32 := AL.of (m := 20) (by decide +kernel)
theorem dX11_then_32 : decode cX11_then 32 = .ok (.aload_n 0, 1) := o42 ac_cX11_then_32 0 rfl
theorem dX11_then_33 : decode cX11_then 33 = .ok (.getfield 19, 3) := o180 ac_cX11_then_32 1 0 19 rfl
theorem dX11_then_36 : decode cX11_then 36 = .ok (.aload_n 0, 1) := o42 ac_cX11_then_32 4 rfl
theorem dX11_then_37 : decode cX11_then 37 = .ok (.getfield 82, 3) := o180 ac_cX11_then_32 5 0 82 rfl
theorem dX11_then_40 : decode cX11_then 40 = .ok (.aload_n 0, 1) := o42 ac_cX11_then_32 8 rfl
theorem dX11_then_41 : decode cX11_then 41 = .ok (.getfield 58, 3) := o180 ac_cX11_then_32 9 0 58 rfl
theorem dX11_then_44 : decode cX11_then 44 = .ok (.iload_n 1, 1) := o27 ac_cX11_then_32 12 rfl
theorem dX11_then_45 : decode cX11_then 45 = .ok (.aload_n 0, 1) := o42 ac_cX11_then_32 13 rfl
theorem dX11_then_46 : decode cX11_then 46 = .ok (.getfield 82, 3) := o180 ac_cX11_then_32 14 0 82 rfl
def kb_cX11_then_48 : List Nat := [82, 180, 0, 220, 182, 0, 223, 28, 170, 0, 0, 0, 0, 0, 0, 60, 0, 0, 0, 0]
theorem ac_cX11_then_48 : AL cX11_then 48 kb_cX11_then_48 := AL.of (m := 20) (by decide +kernel)
theorem dX11_then_49 : decode cX11_then 49 = .ok (.getfield 220, 3) := o180 ac_cX11_then_48 1 0 220 rfl
theorem dX11_then_52 : decode cX11_then 52 = .ok (.invokevirtual 223, 3) := o182 ac_cX11_then_48 4 0 223 rfl
theorem dX11_then_55 : decode cX11_then 55 = .ok (.iload_n 2, 1) := o28 ac_cX11_then_48 7 rfl
theorem dX11_then_56 : decode cX11_then 56 = .ok (.tableswitch 60 0 2 #[28, 36, 44], 28) := by decide +kernel
def kb_cX11_then_80 : List Nat := [0, 0, 0, 44, 42, 180, 0, 58, 180, 0, 177, 172, 42, 180, 0, 58, 182, 0, 156, 172]
theorem ac_cX11_then_80 : AL cX11_then 80 kb_cX11_then_80 := AL.of (m := 20) (by decide +kernel)
theorem dX11_then_84 : decode cX11_then 84 = .ok (.aload_n 0, 1) := o42 ac_cX11_then_80 4 rfl
theorem dX11_then_85 : decode cX11_then 85 = .ok (.getfield 58, 3) := o180 ac_cX11_then_80 5 0 58 rfl
theorem dX11_then_88 : decode cX11_then 88 = .ok (.getfield 177, 3) := o180 ac_cX11_then_80 8 0 177 rfl
theorem dX11_then_91 : decode cX11_then 91 = .ok (.ireturn, 1) := o172 ac_cX11_then_80 11 rfl
theorem dX11_then_92 : decode cX11_then 92 = .ok (.aload_n 0, 1) := o42 ac_cX11_then_80 12 rfl
theorem dX11_then_93 : decode cX11_then 93 = .ok (.getfield 58, 3) := o180 ac_cX11_then_80 13 0 58 rfl
def kb_cX11_then_96 : List Nat := [182, 0, 156, 172, 42, 180, 0, 58, 180, 0, 184, 42, 180, 0, 54, 180, 0, 184, 100, 172]
theorem ac_cX11_then_96 : AL cX11_then 96 kb_cX11_then_96 := AL.of (m := 20) (by decide +kernel)
theorem dX11_then_96 : decode cX11_then 96 = .ok (.invokevirtual 156, 3) := o182 ac_cX11_then_96 0 0 156 rfl
theorem dX11_then_99 : decode cX11_then 99 = .ok (.ireturn, 1) := o172 ac_cX11_then_96 3 rfl
theorem dX11_then_100 : decode cX11_then 100 = .ok (.aload_n 0, 1) := o42 ac_cX11_then_96 4 rfl
theorem dX11_then_101 : decode cX11_then 101 = .ok (.getfield 58, 3) := o180 ac_cX11_then_96 5 0 58 rfl
theorem dX11_then_104 : decode cX11_then 104 = .ok (.getfield 184, 3) := o180 ac_cX11_then_96 8 0 184 rfl
theorem dX11_then_107 : decode cX11_then 107 = .ok (.aload_n 0, 1) := o42 ac_cX11_then_96 11 rfl
theorem dX11_then_108 : decode cX11_then 108 = .ok (.getfield 54, 3) := o180 ac_cX11_then_96 12 0 54 rfl
theorem dX11_then_111 : decode cX11_then 111 = .ok (.getfield 184, 3) := o180 ac_cX11_then_96 15 0 184 rfl
def kb_cX11_then_112 : List Nat := [0, 184, 100, 172, 42, 180, 0, 58, 180, 0, 190, 42, 180, 0, 54, 180, 0, 190, 100, 172]
theorem ac_cX11_then_112 : AL cX11_then 112 kb_cX11_then_112 := AL.of (m := 20) (by decide +kernel)
theorem dX11_then_114 : decode cX11_then 114 = .ok (.isub, 1) := o100 ac_cX11_then_112 2 rfl
theorem dX11_then_115 : decode cX11_then 115 = .ok (.ireturn, 1) := o172 ac_cX11_then_112 3 rfl
theorem dX11_then_116 : decode cX11_then 116 = .ok (.aload_n 0, 1) := o42 ac_cX11_then_112 4 rfl
theorem dX11_then_117 : decode cX11_then 117 = .ok (.getfield 58, 3) := o180 ac_cX11_then_112 5 0 58 rfl
theorem dX11_then_120 : decode cX11_then 120 = .ok (.getfield 190, 3) := o180 ac_cX11_then_112 8 0 190 rfl
theorem dX11_then_123 : decode cX11_then 123 = .ok (.aload_n 0, 1) := o42 ac_cX11_then_112 11 rfl
theorem dX11_then_124 : decode cX11_then 124 = .ok (.getfield 54, 3) := o180 ac_cX11_then_112 12 0 54 rfl
theorem dX11_then_127 : decode cX11_then 127 = .ok (.getfield 190, 3) := o180 ac_cX11_then_112 15 0 190 rfl
def kb_cX11_then_128 : List Nat := [0, 190, 100, 172]
theorem ac_cX11_then_128 : AL cX11_then 128 kb_cX11_then_128 := AL.of (m := 4) (by decide +kernel)
theorem dX11_then_130 : decode cX11_then 130 = .ok (.isub, 1) := o100 ac_cX11_then_128 2 rfl
theorem dX11_then_131 : decode cX11_then 131 = .ok (.ireturn, 1) := o172 ac_cX11_then_128 3 rfl
theorem dX11_then_19 : decode cX11_then 19 = .ok (.iconst (-1), 1) := o2 ac_cX11_then_16 3 rfl
theorem dX11_then_20 : decode cX11_then 20 = .ok (.ireturn, 1) := o172 ac_cX11_then_16 4 rfl
def kb_cX11_year_0 : List Nat := [27, 155, 0, 20, 27, 16, 60, 163, 0, 14, 28, 4, 161, 0, 9, 28, 16, 20, 164, 0]
theorem ac_cX11_year_0 : AL cX11_year 0 kb_cX11_year_0 := AL.of (m := 20) (by decide +kernel)
theorem dX11_year_0 : decode cX11_year 0 = .ok (.iload_n 1, 1) := o27 ac_cX11_year_0 0 rfl
theorem dX11_year_1 : decode cX11_year 1 = .ok (.ifCond .lt 20, 3) := o155p ac_cX11_year_0 1 0 20 rfl rfl
theorem dX11_year_4 : decode cX11_year 4 = .ok (.iload_n 1, 1) := o27 ac_cX11_year_0 4 rfl
theorem dX11_year_5 : decode cX11_year 5 = .ok (.bipush 60, 2) := o16p ac_cX11_year_0 5 60 rfl rfl
theorem dX11_year_7 : decode cX11_year 7 = .ok (.if_icmp .gt 14, 3) := o163p ac_cX11_year_0 7 0 14 rfl rfl
theorem dX11_year_10 : decode cX11_year 10 = .ok (.iload_n 2, 1) := o28 ac_cX11_year_0 10 rfl
theorem dX11_year_11 : decode cX11_year 11 = .ok (.iconst 1, 1) := o4 ac_cX11_year_0 11 rfl
theorem dX11_year_12 : decode cX11_year 12 = .ok (.if_icmp .lt 9, 3) := o161p ac_cX11_year_0 12 0 9 rfl rfl
theorem dX11_year_15 : decode cX11_year 15 = .ok (.iload_n 2, 1) := o28 ac_cX11_year_0 15 rfl
def kb_cX11_year_16 : List Nat := [16, 20, 164, 0, 5, 2, 172, 3, 62, 3, 54, 4, 21, 4, 28, 162, 0, 66, 42, 180]
theorem ac_cX11_year_16 : AL cX11_year 16 kb_cX11_year_16 := AL.of (m := 20) (by decide +kernel)
theorem dX11_year_16 : decode cX11_year 16 = .ok (.bipush 20, 2) := o16p ac_cX11_year_16 0 20 rfl rfl
theorem dX11_year_18 : decode cX11_year 18 = .ok (.if_icmp .le 5, 3) := o164p ac_cX11_year_16 2 0 5 rfl rfl
theorem dX11_year_23 : decode cX11_year 23 = .ok (.iconst 0, 1) := o3 ac_cX11_year_16 7 rfl
theorem dX11_year_24 : decode cX11_year 24 = .ok (.istore_n 3, 1) := o62 ac_cX11_year_16 8 rfl
theorem dX11_year_25 : decode cX11_year 25 = .ok (.iconst 0, 1) := o3 ac_cX11_year_16 9 rfl
theorem dX11_year_26 : decode cX11_year 26 = .ok (.istore 4, 2) := o54 ac_cX11_year_16 10 4 rfl
theorem dX11_year_28 : decode cX11_year 28 = .ok (.iload 4, 2) := o21 ac_cX11_year_16 12 4 rfl
theorem dX11_year_30 : decode cX11_year 30 = .ok (.iload_n 2, 1) := o28 ac_cX11_year_16 14 rfl
theorem dX11_year_31 : decode cX11_year 31 = .ok (.if_icmp .ge 66, 3) := o162p ac_cX11_year_16 15 0 66 rfl rfl
def kb_cX11_year_32 : List Nat := [0, 66, 42, 180, 0, 58, 42, 180, 0, 54, 182, 0, 230, 42, 180, 0, 19, 42, 180, 0]
theorem ac_cX11_year_32 : AL cX11_year 32 kb_cX11_year_32 := AL.of (m := 20) (by decide +kernel)
theorem dX11_year_34 : decode cX11_year 34 = .ok (.aload_n 0, 1) := o42 ac_cX11_year_32 2 rfl
theorem dX11_year_35 : decode cX11_year 35 = .ok (.getfield 58, 3) := o180 ac_cX11_year_32 3 0 58 rfl
theorem dX11_year_38 : decode cX11_year 38 = .ok (.aload_n 0, 1) := o42 ac_cX11_year_32 6 rfl
theorem dX11_year_39 : decode cX11_year 39 = .ok (.getfield 54, 3) := o180 ac_cX11_year_32 7 0 54 rfl
theorem dX11_year_42 : decode cX11_year 42 = .ok (.invokevirtual 230, 3) := o182 ac_cX11_year_32 10 0 230 rfl
theorem dX11_year_45 : decode cX11_year 45 = .ok (.aload_n 0, 1) := o42 ac_cX11_year_32 13 rfl
theorem dX11_year_46 : decode cX11_year 46 = .ok (.getfield 19, 3) := o180 ac_cX11_year_32 14 0 19 rfl
def kb_cX11_year_48 : List Nat := [19, 42, 180, 0, 82, 42, 180, 0, 58, 27, 42, 180, 0, 82, 180, 0, 220, 21, 4, 96]
theorem ac_cX11_year_48 : AL cX11_year 48 kb_cX11_year_48 := AL.of (m := 20) (by decide +kernel)
theorem dX11_year_49 : decode cX11_year 49 = .ok (.aload_n 0, 1) := o42 ac_cX11_year_48 1 rfl
theorem dX11_year_50 : decode cX11_year 50 = .ok (.getfield 82, 3) := o180 ac_cX11_year_48 2 0 82 rfl
theorem dX11_year_53 : decode cX11_year 53 = .ok (.aload_n 0, 1) := o42 ac_cX11_year_48 5 rfl
theorem dX11_year_54 : decode cX11_year 54 = .ok (.getfield 58, 3) := o180 ac_cX11_year_48 6 0 58 rfl
theorem dX11_year_57 : decode cX11_year 57 = .ok (.iload_n 1, 1) := o27 ac_cX11_year_48 9 rfl
theorem dX11_year_58 : decode cX11_year 58 = .ok (.aload_n 0, 1) := o42 ac_cX11_year_48 10 rfl
theorem dX11_year_59 : decode cX11_year 59 = .ok (.getfield 82, 3) := o180 ac_cX11_year_48 11 0 82 rfl
theorem dX11_year_62 : decode cX11_year 62 = .ok (.getfield 220, 3) := o180 ac_cX11_year_48 14 0 220 rfl
def kb_cX11_year_64 : List Nat := [220, 21, 4, 96, 182, 0, 223, 42, 180, 0, 58, 180, 0, 184, 42, 180, 0, 54, 180, 0]
theorem ac_cX11_year_64 : AL cX11_year 64 kb_cX11_year_64 := AL.of (m := 20) (by decide +kernel)
theorem dX11_year_65 : decode cX11_year 65 = .ok (.iload 4, 2) := o21 ac_cX11_year_64 1 4 rfl
theorem dX11_year_67 : decode cX11_year 67 = .ok (.iadd, 1) := o96 ac_cX11_year_64 3 rfl
theorem dX11_year_68 : decode cX11_year 68 = .ok (.invokevirtual 223, 3) := o182 ac_cX11_year_64 4 0 223 rfl
theorem dX11_year_71 : decode cX11_year 71 = .ok (.aload_n 0, 1) := o42 ac_cX11_year_64 7 rfl
theorem dX11_year_72 : decode cX11_year 72 = .ok (.getfield 58, 3) := o180 ac_cX11_year_64 8 0 58 rfl
theorem dX11_year_75 : decode cX11_year 75 = .ok (.getfield 184, 3) := o180 ac_cX11_year_64 11 0 184 rfl
theorem dX11_year_78 : decode cX11_year 78 = .ok (.aload_n 0, 1) := o42 ac_cX11_year_64 14 rfl
theorem dX11_year_79 : decode cX11_year 79 = .ok (.getfield 54, 3) := o180 ac_cX11_year_64 15 0 54 rfl
def kb_cX11_year_80 : List Nat := [0, 54, 180, 0, 184, 160, 0, 6, 132, 3, 1, 132, 4, 1, 167, 255, 190, 29, 172]
theorem ac_cX11_year_80 : AL cX11_year 80 kb_cX11_year_80 := AL.of (m := 19) (by decide +kernel)
theorem dX11_year_82 : decode cX11_year 82 = .ok (.getfield 184, 3) := o180 ac_cX11_year_80 2 0 184 rfl
theorem dX11_year_85 : decode cX11_year 85 = .ok (.if_icmp .ne 6, 3) := o160p ac_cX11_year_80 5 0 6 rfl rfl
theorem dX11_year_88 : decode cX11_year 88 = .ok (.iinc 3 1, 3) := o132p ac_cX11_year_80 8 3 1 rfl rfl
theorem dX11_year_91 : decode cX11_year 91 = .ok (.iinc 4 1, 3) := o132p ac_cX11_year_80 11 4 1 rfl rfl
theorem dX11_year_94 : decode cX11_year 94 = .ok (.goto (-66), 3) := o167n ac_cX11_year_80 14 255 190 65 rfl rfl rfl
def kb_cX11_year_96 : List Nat := [190, 29, 172]
theorem ac_cX11_year_96 : AL cX11_year 96 kb_cX11_year_96 := AL.of (m := 3) (by decide +kernel)
theorem dX11_year_97 : decode cX11_year 97 = .ok (.iload_n 3, 1) := o29 ac_cX11_year_96 1 rfl
theorem dX11_year_98 : decode cX11_year 98 = .ok (.ireturn, 1) := o172 ac_cX11_year_96 2 rfl
theorem dX11_year_21 : decode cX11_year 21 = .ok (.iconst (-1), 1) := o2 ac_cX11_year_16 5 rfl
theorem dX11_year_22 : decode cX11_year 22 = .ok (.ireturn, 1) := o172 ac_cX11_year_16 6 rfl
def kb_cX10_emit_0 : List Nat := [42, 180, 0, 51, 42, 180, 0, 29, 190, 162, 0, 23, 42, 180, 0, 29, 42, 180, 0, 51]
theorem ac_cX10_emit_0 : AL cX10_emit 0 kb_cX10_emit_0 := AL.of (m := 20) (by decide +kernel)
theorem dX10_emit_0 : decode cX10_emit 0 = .ok (.aload_n 0, 1) := o42 ac_cX10_emit_0 0 rfl
theorem dX10_emit_1 : decode cX10_emit 1 = .ok (.getfield 51, 3) := o180 ac_cX10_emit_0 1 0 51 rfl
theorem dX10_emit_4 : decode cX10_emit 4 = .ok (.aload_n 0, 1) := o42 ac_cX10_emit_0 4 rfl
theorem dX10_emit_5 : decode cX10_emit 5 = .ok (.getfield 29, 3) := o180 ac_cX10_emit_0 5 0 29 rfl
theorem dX10_emit_8 : decode cX10_emit 8 = .ok (.arraylength, 1) := o190 ac_cX10_emit_0 8 rfl
theorem dX10_emit_9 : decode cX10_emit 9 = .ok (.if_icmp .ge 23, 3) := o162p ac_cX10_emit_0 9 0 23 rfl rfl
theorem dX10_emit_12 : decode cX10_emit 12 = .ok (.aload_n 0, 1) := o42 ac_cX10_emit_0 12 rfl
theorem dX10_emit_13 : decode cX10_emit 13 = .ok (.getfield 29, 3) := o180 ac_cX10_emit_0 13 0 29 rfl
def kb_cX10_emit_16 : List Nat := [42, 180, 0, 51, 27, 79, 42, 89, 180, 0, 51, 4, 96, 181, 0, 51, 177]
theorem ac_cX10_emit_16 : AL cX10_emit 16 kb_cX10_emit_16 := AL.of (m := 17) (by decide +kernel)
theorem dX10_emit_16 : decode cX10_emit 16 = .ok (.aload_n 0, 1) := o42 ac_cX10_emit_16 0 rfl
theorem dX10_emit_17 : decode cX10_emit 17 = .ok (.getfield 51, 3) := o180 ac_cX10_emit_16 1 0 51 rfl
theorem dX10_emit_20 : decode cX10_emit 20 = .ok (.iload_n 1, 1) := o27 ac_cX10_emit_16 4 rfl
theorem dX10_emit_21 : decode cX10_emit 21 = .ok (.iastore, 1) := o79 ac_cX10_emit_16 5 rfl
theorem dX10_emit_22 : decode cX10_emit 22 = .ok (.aload_n 0, 1) := o42 ac_cX10_emit_16 6 rfl
theorem dX10_emit_23 : decode cX10_emit 23 = .ok (.dup, 1) := o89 ac_cX10_emit_16 7 rfl
theorem dX10_emit_24 : decode cX10_emit 24 = .ok (.getfield 51, 3) := o180 ac_cX10_emit_16 8 0 51 rfl
theorem dX10_emit_27 : decode cX10_emit 27 = .ok (.iconst 1, 1) := o4 ac_cX10_emit_16 11 rfl
theorem dX10_emit_28 : decode cX10_emit 28 = .ok (.iadd, 1) := o96 ac_cX10_emit_16 12 rfl
theorem dX10_emit_29 : decode cX10_emit 29 = .ok (.putfield 51, 3) := o181 ac_cX10_emit_16 13 0 51 rfl
def kb_cX10_emit_32 : List Nat := [177]
theorem ac_cX10_emit_32 : AL cX10_emit 32 kb_cX10_emit_32 := AL.of (m := 1) (by decide +kernel)
theorem dX10_emit_32 : decode cX10_emit 32 = .ok (.return_, 1) := o177 ac_cX10_emit_32 0 rfl
def kb_cX10_clear_0 : List Nat := [42, 3, 181, 0, 38, 42, 3, 181, 0, 42, 42, 4, 181, 0, 45, 42, 3, 181, 0, 48]
theorem ac_cX10_clear_0 : AL cX10_clear 0 kb_cX10_clear_0 := AL.of (m := 20) (by decide +kernel)
theorem dX10_clear_0 : decode cX10_clear 0 = .ok (.aload_n 0, 1) := o42 ac_cX10_clear_0 0 rfl
theorem dX10_clear_1 : decode cX10_clear 1 = .ok (.iconst 0, 1) := o3 ac_cX10_clear_0 1 rfl
theorem dX10_clear_2 : decode cX10_clear 2 = .ok (.putfield 38, 3) := o181 ac_cX10_clear_0 2 0 38 rfl
theorem dX10_clear_5 : decode cX10_clear 5 = .ok (.aload_n 0, 1) := o42 ac_cX10_clear_0 5 rfl
theorem dX10_clear_6 : decode cX10_clear 6 = .ok (.iconst 0, 1) := o3 ac_cX10_clear_0 6 rfl
theorem dX10_clear_7 : decode cX10_clear 7 = .ok (.putfield 42, 3) := o181 ac_cX10_clear_0 7 0 42 rfl
theorem dX10_clear_10 : decode cX10_clear 10 = .ok (.aload_n 0, 1) := o42 ac_cX10_clear_0 10 rfl
theorem dX10_clear_11 : decode cX10_clear 11 = .ok (.iconst 1, 1) := o4 ac_cX10_clear_0 11 rfl
theorem dX10_clear_12 : decode cX10_clear 12 = .ok (.putfield 45, 3) := o181 ac_cX10_clear_0 12 0 45 rfl
theorem dX10_clear_15 : decode cX10_clear 15 = .ok (.aload_n 0, 1) := o42 ac_cX10_clear_0 15 rfl
def kb_cX10_clear_16 : List Nat := [3, 181, 0, 48, 42, 3, 181, 0, 51, 3, 60, 27, 7, 162, 0, 40, 42, 180, 0, 32]
theorem ac_cX10_clear_16 : AL cX10_clear 16 kb_cX10_clear_16 := AL.of (m := 20) (by decide +kernel)
theorem dX10_clear_16 : decode cX10_clear 16 = .ok (.iconst 0, 1) := o3 ac_cX10_clear_16 0 rfl
theorem dX10_clear_17 : decode cX10_clear 17 = .ok (.putfield 48, 3) := o181 ac_cX10_clear_16 1 0 48 rfl
theorem dX10_clear_20 : decode cX10_clear 20 = .ok (.aload_n 0, 1) := o42 ac_cX10_clear_16 4 rfl
theorem dX10_clear_21 : decode cX10_clear 21 = .ok (.iconst 0, 1) := o3 ac_cX10_clear_16 5 rfl
theorem dX10_clear_22 : decode cX10_clear 22 = .ok (.putfield 51, 3) := o181 ac_cX10_clear_16 6 0 51 rfl
theorem dX10_clear_25 : decode cX10_clear 25 = .ok (.iconst 0, 1) := o3 ac_cX10_clear_16 9 rfl
theorem dX10_clear_26 : decode cX10_clear 26 = .ok (.istore_n 1, 1) := o60 ac_cX10_clear_16 10 rfl
theorem dX10_clear_27 : decode cX10_clear 27 = .ok (.iload_n 1, 1) := o27 ac_cX10_clear_16 11 rfl
theorem dX10_clear_28 : decode cX10_clear 28 = .ok (.iconst 4, 1) := o7 ac_cX10_clear_16 12 rfl
theorem dX10_clear_29 : decode cX10_clear 29 = .ok (.if_icmp .ge 40, 3) := o162p ac_cX10_clear_16 13 0 40 rfl rfl
def kb_cX10_clear_32 : List Nat := [42, 180, 0, 32, 27, 42, 180, 0, 51, 79, 42, 27, 5, 160, 0, 8, 16, 245, 167, 0]
theorem ac_cX10_clear_32 : AL cX10_clear 32 kb_cX10_clear_32 := AL.of (m := 20) (by decide +kernel)
theorem dX10_clear_32 : decode cX10_clear 32 = .ok (.aload_n 0, 1) := o42 ac_cX10_clear_32 0 rfl
theorem dX10_clear_33 : decode cX10_clear 33 = .ok (.getfield 32, 3) := o180 ac_cX10_clear_32 1 0 32 rfl
theorem dX10_clear_36 : decode cX10_clear 36 = .ok (.iload_n 1, 1) := o27 ac_cX10_clear_32 4 rfl
theorem dX10_clear_37 : decode cX10_clear 37 = .ok (.aload_n 0, 1) := o42 ac_cX10_clear_32 5 rfl
theorem dX10_clear_38 : decode cX10_clear 38 = .ok (.getfield 51, 3) := o180 ac_cX10_clear_32 6 0 51 rfl
theorem dX10_clear_41 : decode cX10_clear 41 = .ok (.iastore, 1) := o79 ac_cX10_clear_32 9 rfl
theorem dX10_clear_42 : decode cX10_clear 42 = .ok (.aload_n 0, 1) := o42 ac_cX10_clear_32 10 rfl
theorem dX10_clear_43 : decode cX10_clear 43 = .ok (.iload_n 1, 1) := o27 ac_cX10_clear_32 11 rfl
theorem dX10_clear_44 : decode cX10_clear 44 = .ok (.iconst 2, 1) := o5 ac_cX10_clear_32 12 rfl
theorem dX10_clear_45 : decode cX10_clear 45 = .ok (.if_icmp .ne 8, 3) := o160p ac_cX10_clear_32 13 0 8 rfl rfl
def kb_cX10_clear_48 : List Nat := [16, 245, 167, 0, 4, 3, 182, 0, 54, 42, 16, 250, 182, 0, 54, 132, 1, 1, 167, 255]
theorem ac_cX10_clear_48 : AL cX10_clear 48 kb_cX10_clear_48 := AL.of (m := 20) (by decide +kernel)
theorem dX10_clear_48 : decode cX10_clear 48 = .ok (.bipush (-11), 2) := o16n ac_cX10_clear_48 0 245 10 rfl rfl rfl
theorem dX10_clear_50 : decode cX10_clear 50 = .ok (.goto 4, 3) := o167p ac_cX10_clear_48 2 0 4 rfl rfl
theorem dX10_clear_53 : decode cX10_clear 53 = .ok (.iconst 0, 1) := o3 ac_cX10_clear_48 5 rfl
theorem dX10_clear_54 : decode cX10_clear 54 = .ok (.invokevirtual 54, 3) := o182 ac_cX10_clear_48 6 0 54 rfl
theorem dX10_clear_57 : decode cX10_clear 57 = .ok (.aload_n 0, 1) := o42 ac_cX10_clear_48 9 rfl
theorem dX10_clear_58 : decode cX10_clear 58 = .ok (.bipush (-6), 2) := o16n ac_cX10_clear_48 10 250 5 rfl rfl rfl
theorem dX10_clear_60 : decode cX10_clear 60 = .ok (.invokevirtual 54, 3) := o182 ac_cX10_clear_48 12 0 54 rfl
theorem dX10_clear_63 : decode cX10_clear 63 = .ok (.iinc 1 1, 3) := o132p ac_cX10_clear_48 15 1 1 rfl rfl
def kb_cX10_clear_64 : List Nat := [1, 1, 167, 255, 217, 177]
theorem ac_cX10_clear_64 : AL cX10_clear 64 kb_cX10_clear_64 := AL.of (m := 6) (by decide +kernel)
theorem dX10_clear_66 : decode cX10_clear 66 = .ok (.goto (-39), 3) := o167n ac_cX10_clear_64 2 255 217 38 rfl rfl rfl
theorem dX10_clear_69 : decode cX10_clear 69 = .ok (.return_, 1) := o177 ac_cX10_clear_64 5 rfl
def kb_cX9_cutOne_0 : List Nat := [42, 180, 0, 29, 42, 180, 0, 25, 161, 0, 6, 16, 22, 172, 42, 180, 0, 9, 42, 180]
theorem ac_cX9_cutOne_0 : AL cX9_cutOne 0 kb_cX9_cutOne_0 := AL.of (m := 20) (by decide +kernel)
theorem dX9_cutOne_0 : decode cX9_cutOne 0 = .ok (.aload_n 0, 1) := o42 ac_cX9_cutOne_0 0 rfl
theorem dX9_cutOne_1 : decode cX9_cutOne 1 = .ok (.getfield 29, 3) := o180 ac_cX9_cutOne_0 1 0 29 rfl
theorem dX9_cutOne_4 : decode cX9_cutOne 4 = .ok (.aload_n 0, 1) := o42 ac_cX9_cutOne_0 4 rfl
theorem dX9_cutOne_5 : decode cX9_cutOne 5 = .ok (.getfield 25, 3) := o180 ac_cX9_cutOne_0 5 0 25 rfl
theorem dX9_cutOne_8 : decode cX9_cutOne 8 = .ok (.if_icmp .lt 6, 3) := o161p ac_cX9_cutOne_0 8 0 6 rfl rfl
theorem dX9_cutOne_11 : decode cX9_cutOne 11 = .ok (.bipush 22, 2) := o16p ac_cX9_cutOne_0 11 22 rfl rfl
theorem dX9_cutOne_13 : decode cX9_cutOne 13 = .ok (.ireturn, 1) := o172 ac_cX9_cutOne_0 13 rfl
def kb_cX9_cut_0 : List Nat := [42, 3, 181, 0, 29, 2, 60, 3, 61, 28, 17, 1, 144, 163, 0, 83, 27, 16, 22, 159]
theorem ac_cX9_cut_0 : AL cX9_cut 0 kb_cX9_cut_0 := AL.of (m := 20) (by decide +kernel)
theorem dX9_cut_0 : decode cX9_cut 0 = .ok (.aload_n 0, 1) := o42 ac_cX9_cut_0 0 rfl
theorem dX9_cut_1 : decode cX9_cut 1 = .ok (.iconst 0, 1) := o3 ac_cX9_cut_0 1 rfl
theorem dX9_cut_2 : decode cX9_cut 2 = .ok (.putfield 29, 3) := o181 ac_cX9_cut_0 2 0 29 rfl
theorem dX9_cut_5 : decode cX9_cut 5 = .ok (.iconst (-1), 1) := o2 ac_cX9_cut_0 5 rfl
theorem dX9_cut_6 : decode cX9_cut 6 = .ok (.istore_n 1, 1) := o60 ac_cX9_cut_0 6 rfl
theorem dX9_cut_7 : decode cX9_cut 7 = .ok (.iconst 0, 1) := o3 ac_cX9_cut_0 7 rfl
theorem dX9_cut_8 : decode cX9_cut 8 = .ok (.istore_n 2, 1) := o61 ac_cX9_cut_0 8 rfl
theorem dX9_cut_9 : decode cX9_cut 9 = .ok (.iload_n 2, 1) := o28 ac_cX9_cut_0 9 rfl
theorem dX9_cut_10 : decode cX9_cut 10 = .ok (.sipush 400, 3) := o17p ac_cX9_cut_0 10 1 144 rfl rfl
theorem dX9_cut_13 : decode cX9_cut 13 = .ok (.if_icmp .gt 83, 3) := o163p ac_cX9_cut_0 13 0 83 rfl rfl
def kb_cX9_cut_16 : List Nat := [27, 16, 22, 159, 0, 77, 27, 16, 23, 159, 0, 71, 42, 180, 0, 29, 42, 180, 0, 25]
theorem ac_cX9_cut_16 : AL cX9_cut 16 kb_cX9_cut_16 := AL.of (m := 20) (by decide +kernel)
theorem dX9_cut_16 : decode cX9_cut 16 = .ok (.iload_n 1, 1) := o27 ac_cX9_cut_16 0 rfl
theorem dX9_cut_17 : decode cX9_cut 17 = .ok (.bipush 22, 2) := o16p ac_cX9_cut_16 1 22 rfl rfl
theorem dX9_cut_19 : decode cX9_cut 19 = .ok (.if_icmp .eq 77, 3) := o159p ac_cX9_cut_16 3 0 77 rfl rfl
theorem dX9_cut_22 : decode cX9_cut 22 = .ok (.iload_n 1, 1) := o27 ac_cX9_cut_16 6 rfl
theorem dX9_cut_23 : decode cX9_cut 23 = .ok (.bipush 23, 2) := o16p ac_cX9_cut_16 7 23 rfl rfl
theorem dX9_cut_25 : decode cX9_cut 25 = .ok (.if_icmp .eq 71, 3) := o159p ac_cX9_cut_16 9 0 71 rfl rfl
theorem dX9_cut_28 : decode cX9_cut 28 = .ok (.aload_n 0, 1) := o42 ac_cX9_cut_16 12 rfl
theorem dX9_cut_29 : decode cX9_cut 29 = .ok (.getfield 29, 3) := o180 ac_cX9_cut_16 13 0 29 rfl
def kb_cX9_cut_32 : List Nat := [42, 180, 0, 25, 162, 0, 31, 42, 180, 0, 9, 42, 180, 0, 29, 46, 184, 0, 32, 153]
theorem ac_cX9_cut_32 : AL cX9_cut 32 kb_cX9_cut_32 := AL.of (m := 20) (by decide +kernel)
theorem dX9_cut_32 : decode cX9_cut 32 = .ok (.aload_n 0, 1) := o42 ac_cX9_cut_32 0 rfl
theorem dX9_cut_33 : decode cX9_cut 33 = .ok (.getfield 25, 3) := o180 ac_cX9_cut_32 1 0 25 rfl
theorem dX9_cut_36 : decode cX9_cut 36 = .ok (.if_icmp .ge 31, 3) := o162p ac_cX9_cut_32 4 0 31 rfl rfl
def kb_cX9_cut_64 : List Nat := [167, 255, 220, 42, 180, 0, 18, 28, 42, 180, 0, 29, 79, 42, 28, 182, 0, 36, 60, 42]
theorem ac_cX9_cut_64 : AL cX9_cut 64 kb_cX9_cut_64 := AL.of (m := 20) (by decide +kernel)
theorem dX9_cut_67 : decode cX9_cut 67 = .ok (.aload_n 0, 1) := o42 ac_cX9_cut_64 3 rfl
theorem dX9_cut_68 : decode cX9_cut 68 = .ok (.getfield 18, 3) := o180 ac_cX9_cut_64 4 0 18 rfl
theorem dX9_cut_71 : decode cX9_cut 71 = .ok (.iload_n 2, 1) := o28 ac_cX9_cut_64 7 rfl
theorem dX9_cut_72 : decode cX9_cut 72 = .ok (.aload_n 0, 1) := o42 ac_cX9_cut_64 8 rfl
theorem dX9_cut_73 : decode cX9_cut 73 = .ok (.getfield 29, 3) := o180 ac_cX9_cut_64 9 0 29 rfl
theorem dX9_cut_76 : decode cX9_cut 76 = .ok (.iastore, 1) := o79 ac_cX9_cut_64 12 rfl
theorem dX9_cut_77 : decode cX9_cut 77 = .ok (.aload_n 0, 1) := o42 ac_cX9_cut_64 13 rfl
theorem dX9_cut_78 : decode cX9_cut 78 = .ok (.iload_n 2, 1) := o28 ac_cX9_cut_64 14 rfl
theorem dX9_cut_79 : decode cX9_cut 79 = .ok (.invokevirtual 36, 3) := o182 ac_cX9_cut_64 15 0 36 rfl
def kb_cX9_cut_80 : List Nat := [0, 36, 60, 42, 180, 0, 15, 28, 27, 79, 132, 2, 1, 167, 255, 172, 177]
theorem ac_cX9_cut_80 : AL cX9_cut 80 kb_cX9_cut_80 := AL.of (m := 17) (by decide +kernel)
theorem dX9_cut_82 : decode cX9_cut 82 = .ok (.istore_n 1, 1) := o60 ac_cX9_cut_80 2 rfl
theorem dX9_cut_83 : decode cX9_cut 83 = .ok (.aload_n 0, 1) := o42 ac_cX9_cut_80 3 rfl
theorem dX9_cut_84 : decode cX9_cut 84 = .ok (.getfield 15, 3) := o180 ac_cX9_cut_80 4 0 15 rfl
theorem dX9_cut_87 : decode cX9_cut 87 = .ok (.iload_n 2, 1) := o28 ac_cX9_cut_80 7 rfl
theorem dX9_cut_88 : decode cX9_cut 88 = .ok (.iload_n 1, 1) := o27 ac_cX9_cut_80 8 rfl
theorem dX9_cut_89 : decode cX9_cut 89 = .ok (.iastore, 1) := o79 ac_cX9_cut_80 9 rfl
theorem dX9_cut_90 : decode cX9_cut 90 = .ok (.iinc 2 1, 3) := o132p ac_cX9_cut_80 10 2 1 rfl rfl
theorem dX9_cut_93 : decode cX9_cut 93 = .ok (.goto (-84), 3) := o167n ac_cX9_cut_80 13 255 172 83 rfl rfl rfl
def kb_cX9_cut_96 : List Nat := [177]
theorem ac_cX9_cut_96 : AL cX9_cut 96 kb_cX9_cut_96 := AL.of (m := 1) (by decide +kernel)
theorem dX9_cut_96 : decode cX9_cut 96 = .ok (.return_, 1) := o177 ac_cX9_cut_96 0 rfl
def kb_cX6_readInto_0 : List Nat := [43, 182, 0, 26, 42, 3, 181, 0, 31, 42, 3, 181, 0, 34, 42, 2, 181, 0, 18, 42]
theorem ac_cX6_readInto_0 : AL cX6_readInto 0 kb_cX6_readInto_0 := AL.of (m := 20) (by decide +kernel)
theorem dX6_readInto_0 : decode cX6_readInto 0 = .ok (.aload_n 1, 1) := o43 ac_cX6_readInto_0 0 rfl
theorem dX6_readInto_1 : decode cX6_readInto 1 = .ok (.invokevirtual 26, 3) := o182 ac_cX6_readInto_0 1 0 26 rfl
theorem dX6_readInto_4 : decode cX6_readInto 4 = .ok (.aload_n 0, 1) := o42 ac_cX6_readInto_0 4 rfl
theorem dX6_readInto_5 : decode cX6_readInto 5 = .ok (.iconst 0, 1) := o3 ac_cX6_readInto_0 5 rfl
theorem dX6_readInto_6 : decode cX6_readInto 6 = .ok (.putfield 31, 3) := o181 ac_cX6_readInto_0 6 0 31 rfl
theorem dX6_readInto_9 : decode cX6_readInto 9 = .ok (.aload_n 0, 1) := o42 ac_cX6_readInto_0 9 rfl
theorem dX6_readInto_10 : decode cX6_readInto 10 = .ok (.iconst 0, 1) := o3 ac_cX6_readInto_0 10 rfl
theorem dX6_readInto_11 : decode cX6_readInto 11 = .ok (.putfield 34, 3) := o181 ac_cX6_readInto_0 11 0 34 rfl
theorem dX6_readInto_14 : decode cX6_readInto 14 = .ok (.aload_n 0, 1) := o42 ac_cX6_readInto_0 14 rfl
theorem dX6_readInto_15 : decode cX6_readInto 15 = .ok (.iconst (-1), 1) := o2 ac_cX6_readInto_0 15 rfl
def kb_cX6_readInto_16 : List Nat := [181, 0, 18, 42, 3, 181, 0, 37, 42, 2, 181, 0, 40, 42, 180, 0, 12, 182, 0, 43]
theorem ac_cX6_readInto_16 : AL cX6_readInto 16 kb_cX6_readInto_16 := AL.of (m := 20) (by decide +kernel)
theorem dX6_readInto_16 : decode cX6_readInto 16 = .ok (.putfield 18, 3) := o181 ac_cX6_readInto_16 0 0 18 rfl
theorem dX6_readInto_19 : decode cX6_readInto 19 = .ok (.aload_n 0, 1) := o42 ac_cX6_readInto_16 3 rfl
theorem dX6_readInto_20 : decode cX6_readInto 20 = .ok (.iconst 0, 1) := o3 ac_cX6_readInto_16 4 rfl
theorem dX6_readInto_21 : decode cX6_readInto 21 = .ok (.putfield 37, 3) := o181 ac_cX6_readInto_16 5 0 37 rfl
theorem dX6_readInto_24 : decode cX6_readInto 24 = .ok (.aload_n 0, 1) := o42 ac_cX6_readInto_16 8 rfl
theorem dX6_readInto_25 : decode cX6_readInto 25 = .ok (.iconst (-1), 1) := o2 ac_cX6_readInto_16 9 rfl
theorem dX6_readInto_26 : decode cX6_readInto 26 = .ok (.putfield 40, 3) := o181 ac_cX6_readInto_16 10 0 40 rfl
theorem dX6_readInto_29 : decode cX6_readInto 29 = .ok (.aload_n 0, 1) := o42 ac_cX6_readInto_16 13 rfl
theorem dX6_readInto_30 : decode cX6_readInto 30 = .ok (.getfield 12, 3) := o180 ac_cX6_readInto_16 14 0 12 rfl
def kb_cX6_readInto_32 : List Nat := [12, 182, 0, 43, 42, 3, 181, 0, 46, 42, 42, 180, 0, 12, 180, 0, 49, 3, 46, 181]
theorem ac_cX6_readInto_32 : AL cX6_readInto 32 kb_cX6_readInto_32 := AL.of (m := 20) (by decide +kernel)
theorem dX6_readInto_33 : decode cX6_readInto 33 = .ok (.invokevirtual 43, 3) := o182 ac_cX6_readInto_32 1 0 43 rfl
theorem dX6_readInto_36 : decode cX6_readInto 36 = .ok (.aload_n 0, 1) := o42 ac_cX6_readInto_32 4 rfl
theorem dX6_readInto_37 : decode cX6_readInto 37 = .ok (.iconst 0, 1) := o3 ac_cX6_readInto_32 5 rfl
theorem dX6_readInto_38 : decode cX6_readInto 38 = .ok (.putfield 46, 3) := o181 ac_cX6_readInto_32 6 0 46 rfl
theorem dX6_readInto_41 : decode cX6_readInto 41 = .ok (.aload_n 0, 1) := o42 ac_cX6_readInto_32 9 rfl
theorem dX6_readInto_42 : decode cX6_readInto 42 = .ok (.aload_n 0, 1) := o42 ac_cX6_readInto_32 10 rfl
theorem dX6_readInto_43 : decode cX6_readInto 43 = .ok (.getfield 12, 3) := o180 ac_cX6_readInto_32 11 0 12 rfl
theorem dX6_readInto_46 : decode cX6_readInto 46 = .ok (.getfield 49, 3) := o180 ac_cX6_readInto_32 14 0 49 rfl
def kb_cX6_readInto_48 : List Nat := [49, 3, 46, 181, 0, 53, 4, 61, 3, 62, 28, 153, 0, 31, 42, 180, 0, 53, 16, 22]
theorem ac_cX6_readInto_48 : AL cX6_readInto 48 kb_cX6_readInto_48 := AL.of (m := 20) (by decide +kernel)
theorem dX6_readInto_49 : decode cX6_readInto 49 = .ok (.iconst 0, 1) := o3 ac_cX6_readInto_48 1 rfl
theorem dX6_readInto_50 : decode cX6_readInto 50 = .ok (.iaload, 1) := o46 ac_cX6_readInto_48 2 rfl
theorem dX6_readInto_51 : decode cX6_readInto 51 = .ok (.putfield 53, 3) := o181 ac_cX6_readInto_48 3 0 53 rfl
theorem dX6_readInto_54 : decode cX6_readInto 54 = .ok (.iconst 1, 1) := o4 ac_cX6_readInto_48 6 rfl
theorem dX6_readInto_55 : decode cX6_readInto 55 = .ok (.istore_n 2, 1) := o61 ac_cX6_readInto_48 7 rfl
theorem dX6_readInto_56 : decode cX6_readInto 56 = .ok (.iconst 0, 1) := o3 ac_cX6_readInto_48 8 rfl
theorem dX6_readInto_57 : decode cX6_readInto 57 = .ok (.istore_n 3, 1) := o62 ac_cX6_readInto_48 9 rfl
theorem dX6_readInto_58 : decode cX6_readInto 58 = .ok (.iload_n 2, 1) := o28 ac_cX6_readInto_48 10 rfl
theorem dX6_readInto_59 : decode cX6_readInto 59 = .ok (.ifCond .eq 31, 3) := o153p ac_cX6_readInto_48 11 0 31 rfl rfl
theorem dX6_readInto_62 : decode cX6_readInto 62 = .ok (.aload_n 0, 1) := o42 ac_cX6_readInto_48 14 rfl
theorem dX6_readInto_63 : decode cX6_readInto 63 = .ok (.getfield 53, 3) := o180 ac_cX6_readInto_48 15 0 53 rfl
def kb_cX6_readInto_64 : List Nat := [0, 53, 16, 22, 159, 0, 22, 29, 17, 1, 144, 163, 0, 15, 42, 43, 182, 0, 56, 61]
theorem ac_cX6_readInto_64 : AL cX6_readInto 64 kb_cX6_readInto_64 := AL.of (m := 20) (by decide +kernel)
theorem dX6_readInto_66 : decode cX6_readInto 66 = .ok (.bipush 22, 2) := o16p ac_cX6_readInto_64 2 22 rfl rfl
theorem dX6_readInto_68 : decode cX6_readInto 68 = .ok (.if_icmp .eq 22, 3) := o159p ac_cX6_readInto_64 4 0 22 rfl rfl
def kb_cX6_readInto_80 : List Nat := [182, 0, 56, 61, 132, 3, 1, 167, 255, 227, 42, 180, 0, 34, 154, 0, 26, 42, 180, 0]
theorem ac_cX6_readInto_80 : AL cX6_readInto 80 kb_cX6_readInto_80 := AL.of (m := 20) (by decide +kernel)
theorem dX6_readInto_90 : decode cX6_readInto 90 = .ok (.aload_n 0, 1) := o42 ac_cX6_readInto_80 10 rfl
theorem dX6_readInto_91 : decode cX6_readInto 91 = .ok (.getfield 34, 3) := o180 ac_cX6_readInto_80 11 0 34 rfl
theorem dX6_readInto_94 : decode cX6_readInto 94 = .ok (.ifCond .ne 26, 3) := o154p ac_cX6_readInto_80 14 0 26 rfl rfl
def kb_cX6_readInto_96 : List Nat := [26, 42, 180, 0, 37, 153, 0, 19, 42, 42, 180, 0, 37, 181, 0, 34, 42, 42, 180, 0]
theorem ac_cX6_readInto_96 : AL cX6_readInto 96 kb_cX6_readInto_96 := AL.of (m := 20) (by decide +kernel)
theorem dX6_readInto_97 : decode cX6_readInto 97 = .ok (.aload_n 0, 1) := o42 ac_cX6_readInto_96 1 rfl
theorem dX6_readInto_98 : decode cX6_readInto 98 = .ok (.getfield 37, 3) := o180 ac_cX6_readInto_96 2 0 37 rfl
theorem dX6_readInto_101 : decode cX6_readInto 101 = .ok (.ifCond .eq 19, 3) := o153p ac_cX6_readInto_96 5 0 19 rfl rfl
def kb_cX6_readInto_112 : List Nat := [42, 42, 180, 0, 40, 181, 0, 18, 42, 180, 0, 34, 172]
theorem ac_cX6_readInto_112 : AL cX6_readInto 112 kb_cX6_readInto_112 := AL.of (m := 13) (by decide +kernel)
theorem dX6_readInto_120 : decode cX6_readInto 120 = .ok (.aload_n 0, 1) := o42 ac_cX6_readInto_112 8 rfl
theorem dX6_readInto_121 : decode cX6_readInto 121 = .ok (.getfield 34, 3) := o180 ac_cX6_readInto_112 9 0 34 rfl
theorem dX6_readInto_124 : decode cX6_readInto 124 = .ok (.ireturn, 1) := o172 ac_cX6_readInto_112 12 rfl
def kb_cX0_begin_0 : List Nat := [42, 43, 180, 0, 28, 181, 0, 33, 42, 180, 0, 9, 3, 184, 0, 34, 42, 180, 0, 18]
theorem ac_cX0_begin_0 : AL cX0_begin 0 kb_cX0_begin_0 := AL.of (m := 20) (by decide +kernel)
theorem dX0_begin_0 : decode cX0_begin 0 = .ok (.aload_n 0, 1) := o42 ac_cX0_begin_0 0 rfl
theorem dX0_begin_1 : decode cX0_begin 1 = .ok (.aload_n 1, 1) := o43 ac_cX0_begin_0 1 rfl
theorem dX0_begin_2 : decode cX0_begin 2 = .ok (.getfield 28, 3) := o180 ac_cX0_begin_0 2 0 28 rfl
theorem dX0_begin_5 : decode cX0_begin 5 = .ok (.putfield 33, 3) := o181 ac_cX0_begin_0 5 0 33 rfl
theorem dX0_begin_8 : decode cX0_begin 8 = .ok (.aload_n 0, 1) := o42 ac_cX0_begin_0 8 rfl
theorem dX0_begin_9 : decode cX0_begin 9 = .ok (.getfield 9, 3) := o180 ac_cX0_begin_0 9 0 9 rfl
theorem dX0_begin_12 : decode cX0_begin 12 = .ok (.iconst 0, 1) := o3 ac_cX0_begin_0 12 rfl
theorem dX0_begin_13 : decode cX0_begin 13 = .ok (.invokestatic 34, 3) := o184 ac_cX0_begin_0 13 0 34 rfl
def kb_cX0_begin_16 : List Nat := [42, 180, 0, 18, 3, 184, 0, 34, 43, 180, 0, 40, 3, 42, 180, 0, 15, 3, 16, 7]
theorem ac_cX0_begin_16 : AL cX0_begin 16 kb_cX0_begin_16 := AL.of (m := 20) (by decide +kernel)
theorem dX0_begin_16 : decode cX0_begin 16 = .ok (.aload_n 0, 1) := o42 ac_cX0_begin_16 0 rfl
theorem dX0_begin_17 : decode cX0_begin 17 = .ok (.getfield 18, 3) := o180 ac_cX0_begin_16 1 0 18 rfl
theorem dX0_begin_20 : decode cX0_begin 20 = .ok (.iconst 0, 1) := o3 ac_cX0_begin_16 4 rfl
theorem dX0_begin_21 : decode cX0_begin 21 = .ok (.invokestatic 34, 3) := o184 ac_cX0_begin_16 5 0 34 rfl
theorem dX0_begin_24 : decode cX0_begin 24 = .ok (.aload_n 1, 1) := o43 ac_cX0_begin_16 8 rfl
theorem dX0_begin_25 : decode cX0_begin 25 = .ok (.getfield 40, 3) := o180 ac_cX0_begin_16 9 0 40 rfl
theorem dX0_begin_28 : decode cX0_begin 28 = .ok (.iconst 0, 1) := o3 ac_cX0_begin_16 12 rfl
theorem dX0_begin_29 : decode cX0_begin 29 = .ok (.aload_n 0, 1) := o42 ac_cX0_begin_16 13 rfl
theorem dX0_begin_30 : decode cX0_begin 30 = .ok (.getfield 15, 3) := o180 ac_cX0_begin_16 14 0 15 rfl
def kb_cX0_begin_32 : List Nat := [15, 3, 16, 7, 184, 0, 43, 42, 3, 181, 0, 49, 42, 3, 181, 0, 52, 42, 3, 181]
theorem ac_cX0_begin_32 : AL cX0_begin 32 kb_cX0_begin_32 := AL.of (m := 20) (by decide +kernel)
theorem dX0_begin_33 : decode cX0_begin 33 = .ok (.iconst 0, 1) := o3 ac_cX0_begin_32 1 rfl
theorem dX0_begin_34 : decode cX0_begin 34 = .ok (.bipush 7, 2) := o16p ac_cX0_begin_32 2 7 rfl rfl
theorem dX0_begin_36 : decode cX0_begin 36 = .ok (.invokestatic 43, 3) := o184 ac_cX0_begin_32 4 0 43 rfl
theorem dX0_begin_39 : decode cX0_begin 39 = .ok (.aload_n 0, 1) := o42 ac_cX0_begin_32 7 rfl
theorem dX0_begin_40 : decode cX0_begin 40 = .ok (.iconst 0, 1) := o3 ac_cX0_begin_32 8 rfl
theorem dX0_begin_41 : decode cX0_begin 41 = .ok (.putfield 49, 3) := o181 ac_cX0_begin_32 9 0 49 rfl
theorem dX0_begin_44 : decode cX0_begin 44 = .ok (.aload_n 0, 1) := o42 ac_cX0_begin_32 12 rfl
theorem dX0_begin_45 : decode cX0_begin 45 = .ok (.iconst 0, 1) := o3 ac_cX0_begin_32 13 rfl
theorem dX0_begin_46 : decode cX0_begin 46 = .ok (.putfield 52, 3) := o181 ac_cX0_begin_32 14 0 52 rfl
def kb_cX0_begin_48 : List Nat := [52, 42, 3, 181, 0, 55, 42, 3, 181, 0, 58, 42, 3, 181, 0, 61, 42, 43, 180, 0]
theorem ac_cX0_begin_48 : AL cX0_begin 48 kb_cX0_begin_48 := AL.of (m := 20) (by decide +kernel)
theorem dX0_begin_49 : decode cX0_begin 49 = .ok (.aload_n 0, 1) := o42 ac_cX0_begin_48 1 rfl
theorem dX0_begin_50 : decode cX0_begin 50 = .ok (.iconst 0, 1) := o3 ac_cX0_begin_48 2 rfl
theorem dX0_begin_51 : decode cX0_begin 51 = .ok (.putfield 55, 3) := o181 ac_cX0_begin_48 3 0 55 rfl
theorem dX0_begin_54 : decode cX0_begin 54 = .ok (.aload_n 0, 1) := o42 ac_cX0_begin_48 6 rfl
theorem dX0_begin_55 : decode cX0_begin 55 = .ok (.iconst 0, 1) := o3 ac_cX0_begin_48 7 rfl
theorem dX0_begin_56 : decode cX0_begin 56 = .ok (.putfield 58, 3) := o181 ac_cX0_begin_48 8 0 58 rfl
theorem dX0_begin_59 : decode cX0_begin 59 = .ok (.aload_n 0, 1) := o42 ac_cX0_begin_48 11 rfl
theorem dX0_begin_60 : decode cX0_begin 60 = .ok (.iconst 0, 1) := o3 ac_cX0_begin_48 12 rfl
theorem dX0_begin_61 : decode cX0_begin 61 = .ok (.putfield 61, 3) := o181 ac_cX0_begin_48 13 0 61 rfl
def kb_cX0_begin_64 : List Nat := [42, 43, 180, 0, 64, 158, 0, 7, 3, 167, 0, 4, 2, 181, 0, 21, 42, 3, 181, 0]
theorem ac_cX0_begin_64 : AL cX0_begin 64 kb_cX0_begin_64 := AL.of (m := 20) (by decide +kernel)
theorem dX0_begin_64 : decode cX0_begin 64 = .ok (.aload_n 0, 1) := o42 ac_cX0_begin_64 0 rfl
theorem dX0_begin_65 : decode cX0_begin 65 = .ok (.aload_n 1, 1) := o43 ac_cX0_begin_64 1 rfl
theorem dX0_begin_66 : decode cX0_begin 66 = .ok (.getfield 64, 3) := o180 ac_cX0_begin_64 2 0 64 rfl
theorem dX0_begin_69 : decode cX0_begin 69 = .ok (.ifCond .le 7, 3) := o158p ac_cX0_begin_64 5 0 7 rfl rfl
theorem dX0_begin_76 : decode cX0_begin 76 = .ok (.iconst (-1), 1) := o2 ac_cX0_begin_64 12 rfl
theorem dX0_begin_77 : decode cX0_begin 77 = .ok (.putfield 21, 3) := o181 ac_cX0_begin_64 13 0 21 rfl
def kb_cX0_begin_80 : List Nat := [42, 3, 181, 0, 67, 42, 2, 181, 0, 25, 177]
theorem ac_cX0_begin_80 : AL cX0_begin 80 kb_cX0_begin_80 := AL.of (m := 11) (by decide +kernel)
theorem dX0_begin_80 : decode cX0_begin 80 = .ok (.aload_n 0, 1) := o42 ac_cX0_begin_80 0 rfl
theorem dX0_begin_81 : decode cX0_begin 81 = .ok (.iconst 0, 1) := o3 ac_cX0_begin_80 1 rfl
theorem dX0_begin_82 : decode cX0_begin 82 = .ok (.putfield 67, 3) := o181 ac_cX0_begin_80 2 0 67 rfl
theorem dX0_begin_85 : decode cX0_begin 85 = .ok (.aload_n 0, 1) := o42 ac_cX0_begin_80 5 rfl
theorem dX0_begin_86 : decode cX0_begin 86 = .ok (.iconst (-1), 1) := o2 ac_cX0_begin_80 6 rfl
theorem dX0_begin_87 : decode cX0_begin 87 = .ok (.putfield 25, 3) := o181 ac_cX0_begin_80 7 0 25 rfl
theorem dX0_begin_90 : decode cX0_begin 90 = .ok (.return_, 1) := o177 ac_cX0_begin_80 10 rfl
def kb_cX5_clear_0 : List Nat := [42, 3, 181, 0, 18, 177]
theorem ac_cX5_clear_0 : AL cX5_clear 0 kb_cX5_clear_0 := AL.of (m := 6) (by decide +kernel)
theorem dX5_clear_0 : decode cX5_clear 0 = .ok (.aload_n 0, 1) := o42 ac_cX5_clear_0 0 rfl
theorem dX5_clear_1 : decode cX5_clear 1 = .ok (.iconst 0, 1) := o3 ac_cX5_clear_0 1 rfl
theorem dX5_clear_2 : decode cX5_clear 2 = .ok (.putfield 18, 3) := o181 ac_cX5_clear_0 2 0 18 rfl
theorem dX5_clear_5 : decode cX5_clear 5 = .ok (.return_, 1) := o177 ac_cX5_clear_0 5 rfl
def kb_cX11_beginAnew_0 : List Nat := [42, 180, 0, 86, 76, 42, 42, 180, 0, 82, 181, 0, 86, 42, 43, 181, 0, 82, 42, 180]
theorem ac_cX11_beginAnew_0 : AL cX11_beginAnew 0 kb_cX11_beginAnew_0 := AL.of (m := 20) (by decide +kernel)
theorem dX11_beginAnew_0 : decode cX11_beginAnew 0 = .ok (.aload_n 0, 1) := o42 ac_cX11_beginAnew_0 0 rfl
theorem dX11_beginAnew_1 : decode cX11_beginAnew 1 = .ok (.getfield 86, 3) := o180 ac_cX11_beginAnew_0 1 0 86 rfl
theorem dX11_beginAnew_4 : decode cX11_beginAnew 4 = .ok (.astore_n 1, 1) := o76 ac_cX11_beginAnew_0 4 rfl
theorem dX11_beginAnew_5 : decode cX11_beginAnew 5 = .ok (.aload_n 0, 1) := o42 ac_cX11_beginAnew_0 5 rfl
theorem dX11_beginAnew_6 : decode cX11_beginAnew 6 = .ok (.aload_n 0, 1) := o42 ac_cX11_beginAnew_0 6 rfl
theorem dX11_beginAnew_7 : decode cX11_beginAnew 7 = .ok (.getfield 82, 3) := o180 ac_cX11_beginAnew_0 7 0 82 rfl
theorem dX11_beginAnew_10 : decode cX11_beginAnew 10 = .ok (.putfield 86, 3) := o181 ac_cX11_beginAnew_0 10 0 86 rfl
theorem dX11_beginAnew_13 : decode cX11_beginAnew 13 = .ok (.aload_n 0, 1) := o42 ac_cX11_beginAnew_0 13 rfl
theorem dX11_beginAnew_14 : decode cX11_beginAnew 14 = .ok (.aload_n 1, 1) := o43 ac_cX11_beginAnew_0 14 rfl
theorem dX11_beginAnew_15 : decode cX11_beginAnew 15 = .ok (.putfield 82, 3) := o181 ac_cX11_beginAnew_0 15 0 82 rfl
def kb_cX11_beginAnew_16 : List Nat := [0, 82, 42, 180, 0, 54, 42, 180, 0, 82, 182, 0, 110, 42, 180, 0, 26, 182, 0, 114]
theorem ac_cX11_beginAnew_16 : AL cX11_beginAnew 16 kb_cX11_beginAnew_16 := AL.of (m := 20) (by decide +kernel)
theorem dX11_beginAnew_18 : decode cX11_beginAnew 18 = .ok (.aload_n 0, 1) := o42 ac_cX11_beginAnew_16 2 rfl
theorem dX11_beginAnew_19 : decode cX11_beginAnew 19 = .ok (.getfield 54, 3) := o180 ac_cX11_beginAnew_16 3 0 54 rfl
theorem dX11_beginAnew_22 : decode cX11_beginAnew 22 = .ok (.aload_n 0, 1) := o42 ac_cX11_beginAnew_16 6 rfl
theorem dX11_beginAnew_23 : decode cX11_beginAnew 23 = .ok (.getfield 82, 3) := o180 ac_cX11_beginAnew_16 7 0 82 rfl
theorem dX11_beginAnew_26 : decode cX11_beginAnew 26 = .ok (.invokevirtual 110, 3) := o182 ac_cX11_beginAnew_16 10 0 110 rfl
theorem dX11_beginAnew_29 : decode cX11_beginAnew 29 = .ok (.aload_n 0, 1) := o42 ac_cX11_beginAnew_16 13 rfl
theorem dX11_beginAnew_30 : decode cX11_beginAnew 30 = .ok (.getfield 26, 3) := o180 ac_cX11_beginAnew_16 14 0 26 rfl
def kb_cX11_beginAnew_32 : List Nat := [26, 182, 0, 114, 42, 180, 0, 33, 3, 181, 0, 117, 3, 61, 28, 6, 162, 0, 16, 42]
theorem ac_cX11_beginAnew_32 : AL cX11_beginAnew 32 kb_cX11_beginAnew_32 := AL.of (m := 20) (by decide +kernel)
theorem dX11_beginAnew_33 : decode cX11_beginAnew 33 = .ok (.invokevirtual 114, 3) := o182 ac_cX11_beginAnew_32 1 0 114 rfl
theorem dX11_beginAnew_36 : decode cX11_beginAnew 36 = .ok (.aload_n 0, 1) := o42 ac_cX11_beginAnew_32 4 rfl
theorem dX11_beginAnew_37 : decode cX11_beginAnew 37 = .ok (.getfield 33, 3) := o180 ac_cX11_beginAnew_32 5 0 33 rfl
theorem dX11_beginAnew_40 : decode cX11_beginAnew 40 = .ok (.iconst 0, 1) := o3 ac_cX11_beginAnew_32 8 rfl
theorem dX11_beginAnew_41 : decode cX11_beginAnew 41 = .ok (.putfield 117, 3) := o181 ac_cX11_beginAnew_32 9 0 117 rfl
theorem dX11_beginAnew_44 : decode cX11_beginAnew 44 = .ok (.iconst 0, 1) := o3 ac_cX11_beginAnew_32 12 rfl
theorem dX11_beginAnew_45 : decode cX11_beginAnew 45 = .ok (.istore_n 2, 1) := o61 ac_cX11_beginAnew_32 13 rfl
theorem dX11_beginAnew_46 : decode cX11_beginAnew 46 = .ok (.iload_n 2, 1) := o28 ac_cX11_beginAnew_32 14 rfl
theorem dX11_beginAnew_47 : decode cX11_beginAnew 47 = .ok (.iconst 3, 1) := o6 ac_cX11_beginAnew_32 15 rfl
def kb_cX11_beginAnew_48 : List Nat := [162, 0, 16, 42, 180, 0, 65, 28, 3, 84, 132, 2, 1, 167, 255, 241, 177]
theorem ac_cX11_beginAnew_48 : AL cX11_beginAnew 48 kb_cX11_beginAnew_48 := AL.of (m := 17) (by decide +kernel)
theorem dX11_beginAnew_48 : decode cX11_beginAnew 48 = .ok (.if_icmp .ge 16, 3) := o162p ac_cX11_beginAnew_48 0 0 16 rfl rfl
theorem dX11_beginAnew_51 : decode cX11_beginAnew 51 = .ok (.aload_n 0, 1) := o42 ac_cX11_beginAnew_48 3 rfl
theorem dX11_beginAnew_52 : decode cX11_beginAnew 52 = .ok (.getfield 65, 3) := o180 ac_cX11_beginAnew_48 4 0 65 rfl
theorem dX11_beginAnew_55 : decode cX11_beginAnew 55 = .ok (.iload_n 2, 1) := o28 ac_cX11_beginAnew_48 7 rfl
theorem dX11_beginAnew_56 : decode cX11_beginAnew 56 = .ok (.iconst 0, 1) := o3 ac_cX11_beginAnew_48 8 rfl
theorem dX11_beginAnew_57 : decode cX11_beginAnew 57 = .ok (.bastore, 1) := o84 ac_cX11_beginAnew_48 9 rfl
theorem dX11_beginAnew_58 : decode cX11_beginAnew 58 = .ok (.iinc 2 1, 3) := o132p ac_cX11_beginAnew_48 10 2 1 rfl rfl
theorem dX11_beginAnew_61 : decode cX11_beginAnew 61 = .ok (.goto (-15), 3) := o167n ac_cX11_beginAnew_48 13 255 241 14 rfl rfl rfl
def kb_cX11_beginAnew_64 : List Nat := [177]
theorem ac_cX11_beginAnew_64 : AL cX11_beginAnew 64 kb_cX11_beginAnew_64 := AL.of (m := 1) (by decide +kernel)
theorem dX11_beginAnew_64 : decode cX11_beginAnew 64 = .ok (.return_, 1) := o177 ac_cX11_beginAnew_64 0 rfl
def kb_cX11_read_0 : List Nat := [42, 180, 0, 10, 42, 180, 0, 86, 182, 0, 103, 60, 42, 180, 0, 10, 180, 0, 89, 3]
theorem ac_cX11_read_0 : AL cX11_read 0 kb_cX11_read_0 := AL.of (m := 20) (by decide +kernel)
theorem dX11_read_0 : decode cX11_read 0 = .ok (.aload_n 0, 1) := o42 ac_cX11_read_0 0 rfl
theorem dX11_read_1 : decode cX11_read 1 = .ok (.getfield 10, 3) := o180 ac_cX11_read_0 1 0 10 rfl
theorem dX11_read_4 : decode cX11_read 4 = .ok (.aload_n 0, 1) := o42 ac_cX11_read_0 4 rfl
theorem dX11_read_5 : decode cX11_read 5 = .ok (.getfield 86, 3) := o180 ac_cX11_read_0 5 0 86 rfl
theorem dX11_read_8 : decode cX11_read 8 = .ok (.invokevirtual 103, 3) := o182 ac_cX11_read_0 8 0 103 rfl
theorem dX11_read_11 : decode cX11_read 11 = .ok (.istore_n 1, 1) := o60 ac_cX11_read_0 11 rfl
theorem dX11_read_12 : decode cX11_read 12 = .ok (.aload_n 0, 1) := o42 ac_cX11_read_0 12 rfl
theorem dX11_read_13 : decode cX11_read 13 = .ok (.getfield 10, 3) := o180 ac_cX11_read_0 13 0 10 rfl
def kb_cX11_read_16 : List Nat := [180, 0, 89, 3, 181, 0, 93, 27, 154, 0, 7, 42, 182, 0, 107, 27, 172]
theorem ac_cX11_read_16 : AL cX11_read 16 kb_cX11_read_16 := AL.of (m := 17) (by decide +kernel)
theorem dX11_read_16 : decode cX11_read 16 = .ok (.getfield 89, 3) := o180 ac_cX11_read_16 0 0 89 rfl
theorem dX11_read_19 : decode cX11_read 19 = .ok (.iconst 0, 1) := o3 ac_cX11_read_16 3 rfl
theorem dX11_read_20 : decode cX11_read 20 = .ok (.putfield 93, 3) := o181 ac_cX11_read_16 4 0 93 rfl
theorem dX11_read_23 : decode cX11_read 23 = .ok (.iload_n 1, 1) := o27 ac_cX11_read_16 7 rfl
theorem dX11_read_24 : decode cX11_read 24 = .ok (.ifCond .ne 7, 3) := o154p ac_cX11_read_16 8 0 7 rfl rfl
theorem dX11_read_27 : decode cX11_read 27 = .ok (.aload_n 0, 1) := o42 ac_cX11_read_16 11 rfl
theorem dX11_read_28 : decode cX11_read 28 = .ok (.invokevirtual 107, 3) := o182 ac_cX11_read_16 12 0 107 rfl
theorem dX11_read_31 : decode cX11_read 31 = .ok (.iload_n 1, 1) := o27 ac_cX11_read_16 15 rfl
def kb_cX11_read_32 : List Nat := [172]
theorem ac_cX11_read_32 : AL cX11_read 32 kb_cX11_read_32 := AL.of (m := 1) (by decide +kernel)
theorem dX11_read_32 : decode cX11_read 32 = .ok (.ireturn, 1) := o172 ac_cX11_read_32 0 rfl
def kb_cX12_in_0 : List Nat := [26, 27, 161, 0, 12, 26, 28, 163, 0, 7, 4, 167, 0, 4, 3, 172]
theorem ac_cX12_in_0 : AL cX12_in 0 kb_cX12_in_0 := AL.of (m := 16) (by decide +kernel)
theorem dX12_in_0 : decode cX12_in 0 = .ok (.iload_n 0, 1) := o26 ac_cX12_in_0 0 rfl
theorem dX12_in_1 : decode cX12_in 1 = .ok (.iload_n 1, 1) := o27 ac_cX12_in_0 1 rfl
theorem dX12_in_2 : decode cX12_in 2 = .ok (.if_icmp .lt 12, 3) := o161p ac_cX12_in_0 2 0 12 rfl rfl
theorem dX12_in_5 : decode cX12_in 5 = .ok (.iload_n 0, 1) := o26 ac_cX12_in_0 5 rfl
theorem dX12_in_6 : decode cX12_in 6 = .ok (.iload_n 2, 1) := o28 ac_cX12_in_0 6 rfl
theorem dX12_in_7 : decode cX12_in 7 = .ok (.if_icmp .gt 7, 3) := o163p ac_cX12_in_0 7 0 7 rfl rfl
theorem dX12_in_10 : decode cX12_in 10 = .ok (.iconst 1, 1) := o4 ac_cX12_in_0 10 rfl
theorem dX12_in_11 : decode cX12_in 11 = .ok (.goto 4, 3) := o167p ac_cX12_in_0 11 0 4 rfl rfl
theorem dX12_in_15 : decode cX12_in 15 = .ok (.ireturn, 1) := o172 ac_cX12_in_0 15 rfl
theorem dX12_in_14 : decode cX12_in 14 = .ok (.iconst 0, 1) := o3 ac_cX12_in_0 14 rfl
def kb_cX12_isThing_0 : List Nat := [27, 3, 42, 180, 0, 43, 42, 180, 0, 221, 46, 4, 100, 184, 1, 45, 172]
theorem ac_cX12_isThing_0 : AL cX12_isThing 0 kb_cX12_isThing_0 := AL.of (m := 17) (by decide +kernel)
theorem dX12_isThing_0 : decode cX12_isThing 0 = .ok (.iload_n 1, 1) := o27 ac_cX12_isThing_0 0 rfl
theorem dX12_isThing_1 : decode cX12_isThing 1 = .ok (.iconst 0, 1) := o3 ac_cX12_isThing_0 1 rfl
theorem dX12_isThing_2 : decode cX12_isThing 2 = .ok (.aload_n 0, 1) := o42 ac_cX12_isThing_0 2 rfl
theorem dX12_isThing_3 : decode cX12_isThing 3 = .ok (.getfield 43, 3) := o180 ac_cX12_isThing_0 3 0 43 rfl
theorem dX12_isThing_6 : decode cX12_isThing 6 = .ok (.aload_n 0, 1) := o42 ac_cX12_isThing_0 6 rfl
theorem dX12_isThing_7 : decode cX12_isThing 7 = .ok (.getfield 221, 3) := o180 ac_cX12_isThing_0 7 0 221 rfl
theorem dX12_isThing_10 : decode cX12_isThing 10 = .ok (.iaload, 1) := o46 ac_cX12_isThing_0 10 rfl
theorem dX12_isThing_11 : decode cX12_isThing 11 = .ok (.iconst 1, 1) := o4 ac_cX12_isThing_0 11 rfl
theorem dX12_isThing_12 : decode cX12_isThing 12 = .ok (.isub, 1) := o100 ac_cX12_isThing_0 12 rfl
theorem dX12_isThing_13 : decode cX12_isThing 13 = .ok (.invokestatic 301, 3) := o184 ac_cX12_isThing_0 13 1 45 rfl
def kb_cX12_isThing_16 : List Nat := [172]
theorem ac_cX12_isThing_16 : AL cX12_isThing 16 kb_cX12_isThing_16 := AL.of (m := 1) (by decide +kernel)
theorem dX12_isThing_16 : decode cX12_isThing 16 = .ok (.ireturn, 1) := o172 ac_cX12_isThing_16 0 rfl
def kb_cX12_isPattern_0 : List Nat := [27, 3, 42, 180, 0, 55, 42, 180, 0, 221, 46, 4, 100, 184, 1, 45, 172]
theorem ac_cX12_isPattern_0 : AL cX12_isPattern 0 kb_cX12_isPattern_0 := AL.of (m := 17) (by decide +kernel)
theorem dX12_isPattern_0 : decode cX12_isPattern 0 = .ok (.iload_n 1, 1) := o27 ac_cX12_isPattern_0 0 rfl
theorem dX12_isPattern_1 : decode cX12_isPattern 1 = .ok (.iconst 0, 1) := o3 ac_cX12_isPattern_0 1 rfl
theorem dX12_isPattern_2 : decode cX12_isPattern 2 = .ok (.aload_n 0, 1) := o42 ac_cX12_isPattern_0 2 rfl
theorem dX12_isPattern_3 : decode cX12_isPattern 3 = .ok (.getfield 55, 3) := o180 ac_cX12_isPattern_0 3 0 55 rfl
theorem dX12_isPattern_6 : decode cX12_isPattern 6 = .ok (.aload_n 0, 1) := o42 ac_cX12_isPattern_0 6 rfl
theorem dX12_isPattern_7 : decode cX12_isPattern 7 = .ok (.getfield 221, 3) := o180 ac_cX12_isPattern_0 7 0 221 rfl
theorem dX12_isPattern_10 : decode cX12_isPattern 10 = .ok (.iaload, 1) := o46 ac_cX12_isPattern_0 10 rfl
theorem dX12_isPattern_11 : decode cX12_isPattern 11 = .ok (.iconst 1, 1) := o4 ac_cX12_isPattern_0 11 rfl
theorem dX12_isPattern_12 : decode cX12_isPattern 12 = .ok (.isub, 1) := o100 ac_cX12_isPattern_0 12 rfl
theorem dX12_isPattern_13 : decode cX12_isPattern 13 = .ok (.invokestatic 301, 3) := o184 ac_cX12_isPattern_0 13 1 45 rfl
def kb_cX12_isPattern_16 : List Nat := [172]
theorem ac_cX12_isPattern_16 : AL cX12_isPattern 16 kb_cX12_isPattern_16 := AL.of (m := 1) (by decide +kernel)
theorem dX12_isPattern_16 : decode cX12_isPattern 16 = .ok (.ireturn, 1) := o172 ac_cX12_isPattern_16 0 rfl
def kb_cX12_isLong_0 : List Nat := [26, 3, 16, 60, 184, 1, 45, 172]
theorem ac_cX12_isLong_0 : AL cX12_isLong 0 kb_cX12_isLong_0 := AL.of (m := 8) (by decide +kernel)
theorem dX12_isLong_0 : decode cX12_isLong 0 = .ok (.iload_n 0, 1) := o26 ac_cX12_isLong_0 0 rfl
theorem dX12_isLong_1 : decode cX12_isLong 1 = .ok (.iconst 0, 1) := o3 ac_cX12_isLong_0 1 rfl
theorem dX12_isLong_2 : decode cX12_isLong 2 = .ok (.bipush 60, 2) := o16p ac_cX12_isLong_0 2 60 rfl rfl
theorem dX12_isLong_4 : decode cX12_isLong 4 = .ok (.invokestatic 301, 3) := o184 ac_cX12_isLong_0 4 1 45 rfl
theorem dX12_isLong_7 : decode cX12_isLong 7 = .ok (.ireturn, 1) := o172 ac_cX12_isLong_0 7 rfl
def kb_cX12_isSome_0 : List Nat := [26, 4, 16, 60, 184, 1, 45, 172]
theorem ac_cX12_isSome_0 : AL cX12_isSome 0 kb_cX12_isSome_0 := AL.of (m := 8) (by decide +kernel)
theorem dX12_isSome_0 : decode cX12_isSome 0 = .ok (.iload_n 0, 1) := o26 ac_cX12_isSome_0 0 rfl
theorem dX12_isSome_1 : decode cX12_isSome 1 = .ok (.iconst 1, 1) := o4 ac_cX12_isSome_0 1 rfl
theorem dX12_isSome_2 : decode cX12_isSome 2 = .ok (.bipush 60, 2) := o16p ac_cX12_isSome_0 2 60 rfl rfl
theorem dX12_isSome_4 : decode cX12_isSome 4 = .ok (.invokestatic 301, 3) := o184 ac_cX12_isSome_0 4 1 45 rfl
theorem dX12_isSome_7 : decode cX12_isSome 7 = .ok (.ireturn, 1) := o172 ac_cX12_isSome_0 7 rfl
def kb_cX12_held_0 : List Nat := [26, 27, 162, 0, 7, 27, 167, 0, 13, 26, 28, 164, 0, 7, 28, 167, 0, 4, 26, 172]
theorem ac_cX12_held_0 : AL cX12_held 0 kb_cX12_held_0 := AL.of (m := 20) (by decide +kernel)
theorem dX12_held_0 : decode cX12_held 0 = .ok (.iload_n 0, 1) := o26 ac_cX12_held_0 0 rfl
theorem dX12_held_1 : decode cX12_held 1 = .ok (.iload_n 1, 1) := o27 ac_cX12_held_0 1 rfl
theorem dX12_held_2 : decode cX12_held 2 = .ok (.if_icmp .ge 7, 3) := o162p ac_cX12_held_0 2 0 7 rfl rfl
theorem dX12_held_5 : decode cX12_held 5 = .ok (.iload_n 1, 1) := o27 ac_cX12_held_0 5 rfl
theorem dX12_held_6 : decode cX12_held 6 = .ok (.goto 13, 3) := o167p ac_cX12_held_0 6 0 13 rfl rfl
def kb_cX12_held_16 : List Nat := [0, 4, 26, 172]
theorem ac_cX12_held_16 : AL cX12_held 16 kb_cX12_held_16 := AL.of (m := 4) (by decide +kernel)
theorem dX12_held_19 : decode cX12_held 19 = .ok (.ireturn, 1) := o172 ac_cX12_held_16 3 rfl
def kb_cX12_bits_0 : List Nat := [3, 60, 3, 61, 28, 16, 10, 162, 0, 17, 27, 26, 28, 122, 4, 126, 96, 60, 132, 2]
theorem ac_cX12_bits_0 : AL cX12_bits 0 kb_cX12_bits_0 := AL.of (m := 20) (by decide +kernel)
theorem dX12_bits_0 : decode cX12_bits 0 = .ok (.iconst 0, 1) := o3 ac_cX12_bits_0 0 rfl
theorem dX12_bits_1 : decode cX12_bits 1 = .ok (.istore_n 1, 1) := o60 ac_cX12_bits_0 1 rfl
theorem dX12_bits_2 : decode cX12_bits 2 = .ok (.iconst 0, 1) := o3 ac_cX12_bits_0 2 rfl
theorem dX12_bits_3 : decode cX12_bits 3 = .ok (.istore_n 2, 1) := o61 ac_cX12_bits_0 3 rfl
theorem dX12_bits_4 : decode cX12_bits 4 = .ok (.iload_n 2, 1) := o28 ac_cX12_bits_0 4 rfl
theorem dX12_bits_5 : decode cX12_bits 5 = .ok (.bipush 10, 2) := o16p ac_cX12_bits_0 5 10 rfl rfl
theorem dX12_bits_7 : decode cX12_bits 7 = .ok (.if_icmp .ge 17, 3) := o162p ac_cX12_bits_0 7 0 17 rfl rfl
theorem dX12_bits_10 : decode cX12_bits 10 = .ok (.iload_n 1, 1) := o27 ac_cX12_bits_0 10 rfl
theorem dX12_bits_11 : decode cX12_bits 11 = .ok (.iload_n 0, 1) := o26 ac_cX12_bits_0 11 rfl
theorem dX12_bits_12 : decode cX12_bits 12 = .ok (.iload_n 2, 1) := o28 ac_cX12_bits_0 12 rfl
theorem dX12_bits_13 : decode cX12_bits 13 = .ok (.ishr, 1) := o122 ac_cX12_bits_0 13 rfl
theorem dX12_bits_14 : decode cX12_bits 14 = .ok (.iconst 1, 1) := o4 ac_cX12_bits_0 14 rfl
theorem dX12_bits_15 : decode cX12_bits 15 = .ok (.iand, 1) := o126 ac_cX12_bits_0 15 rfl
def kb_cX12_bits_16 : List Nat := [96, 60, 132, 2, 1, 167, 255, 239, 27, 172]
theorem ac_cX12_bits_16 : AL cX12_bits 16 kb_cX12_bits_16 := AL.of (m := 10) (by decide +kernel)
theorem dX12_bits_16 : decode cX12_bits 16 = .ok (.iadd, 1) := o96 ac_cX12_bits_16 0 rfl
theorem dX12_bits_17 : decode cX12_bits 17 = .ok (.istore_n 1, 1) := o60 ac_cX12_bits_16 1 rfl
theorem dX12_bits_18 : decode cX12_bits 18 = .ok (.iinc 2 1, 3) := o132p ac_cX12_bits_16 2 2 1 rfl rfl
theorem dX12_bits_21 : decode cX12_bits 21 = .ok (.goto (-17), 3) := o167n ac_cX12_bits_16 5 255 239 16 rfl rfl rfl
theorem dX12_bits_24 : decode cX12_bits 24 = .ok (.iload_n 1, 1) := o27 ac_cX12_bits_16 8 rfl
theorem dX12_bits_25 : decode cX12_bits 25 = .ok (.ireturn, 1) := o172 ac_cX12_bits_16 9 rfl
def kb_cX12_thingsSo_0 : List Nat := [3, 61, 3, 62, 29, 42, 180, 0, 43, 42, 180, 0, 221, 46, 162, 0, 25, 42, 180, 0]
theorem ac_cX12_thingsSo_0 : AL cX12_thingsSo 0 kb_cX12_thingsSo_0 := AL.of (m := 20) (by decide +kernel)
theorem dX12_thingsSo_0 : decode cX12_thingsSo 0 = .ok (.iconst 0, 1) := o3 ac_cX12_thingsSo_0 0 rfl
theorem dX12_thingsSo_1 : decode cX12_thingsSo 1 = .ok (.istore_n 2, 1) := o61 ac_cX12_thingsSo_0 1 rfl
theorem dX12_thingsSo_2 : decode cX12_thingsSo 2 = .ok (.iconst 0, 1) := o3 ac_cX12_thingsSo_0 2 rfl
theorem dX12_thingsSo_3 : decode cX12_thingsSo 3 = .ok (.istore_n 3, 1) := o62 ac_cX12_thingsSo_0 3 rfl
theorem dX12_thingsSo_4 : decode cX12_thingsSo 4 = .ok (.iload_n 3, 1) := o29 ac_cX12_thingsSo_0 4 rfl
theorem dX12_thingsSo_5 : decode cX12_thingsSo 5 = .ok (.aload_n 0, 1) := o42 ac_cX12_thingsSo_0 5 rfl
theorem dX12_thingsSo_6 : decode cX12_thingsSo 6 = .ok (.getfield 43, 3) := o180 ac_cX12_thingsSo_0 6 0 43 rfl
theorem dX12_thingsSo_9 : decode cX12_thingsSo 9 = .ok (.aload_n 0, 1) := o42 ac_cX12_thingsSo_0 9 rfl
theorem dX12_thingsSo_10 : decode cX12_thingsSo 10 = .ok (.getfield 221, 3) := o180 ac_cX12_thingsSo_0 10 0 221 rfl
theorem dX12_thingsSo_13 : decode cX12_thingsSo 13 = .ok (.iaload, 1) := o46 ac_cX12_thingsSo_0 13 rfl
theorem dX12_thingsSo_14 : decode cX12_thingsSo 14 = .ok (.if_icmp .ge 25, 3) := o162p ac_cX12_thingsSo_0 14 0 25 rfl rfl
def kb_cX12_thingsSo_32 : List Nat := [61, 132, 3, 1, 167, 255, 224, 28, 172]
theorem ac_cX12_thingsSo_32 : AL cX12_thingsSo 32 kb_cX12_thingsSo_32 := AL.of (m := 9) (by decide +kernel)
theorem dX12_thingsSo_39 : decode cX12_thingsSo 39 = .ok (.iload_n 2, 1) := o28 ac_cX12_thingsSo_32 7 rfl
theorem dX12_thingsSo_40 : decode cX12_thingsSo 40 = .ok (.ireturn, 1) := o172 ac_cX12_thingsSo_32 8 rfl
def kb_cX12_landsAt_0 : List Nat := [3, 61, 3, 62, 29, 42, 180, 0, 43, 42, 180, 0, 221, 46, 162, 0, 21, 42, 29, 27]
theorem ac_cX12_landsAt_0 : AL cX12_landsAt 0 kb_cX12_landsAt_0 := AL.of (m := 20) (by decide +kernel)
theorem dX12_landsAt_0 : decode cX12_landsAt 0 = .ok (.iconst 0, 1) := o3 ac_cX12_landsAt_0 0 rfl
theorem dX12_landsAt_1 : decode cX12_landsAt 1 = .ok (.istore_n 2, 1) := o61 ac_cX12_landsAt_0 1 rfl
theorem dX12_landsAt_2 : decode cX12_landsAt 2 = .ok (.iconst 0, 1) := o3 ac_cX12_landsAt_0 2 rfl
theorem dX12_landsAt_3 : decode cX12_landsAt 3 = .ok (.istore_n 3, 1) := o62 ac_cX12_landsAt_0 3 rfl
theorem dX12_landsAt_4 : decode cX12_landsAt 4 = .ok (.iload_n 3, 1) := o29 ac_cX12_landsAt_0 4 rfl
theorem dX12_landsAt_5 : decode cX12_landsAt 5 = .ok (.aload_n 0, 1) := o42 ac_cX12_landsAt_0 5 rfl
theorem dX12_landsAt_6 : decode cX12_landsAt 6 = .ok (.getfield 43, 3) := o180 ac_cX12_landsAt_0 6 0 43 rfl
theorem dX12_landsAt_9 : decode cX12_landsAt 9 = .ok (.aload_n 0, 1) := o42 ac_cX12_landsAt_0 9 rfl
theorem dX12_landsAt_10 : decode cX12_landsAt 10 = .ok (.getfield 221, 3) := o180 ac_cX12_landsAt_0 10 0 221 rfl
theorem dX12_landsAt_13 : decode cX12_landsAt 13 = .ok (.iaload, 1) := o46 ac_cX12_landsAt_0 13 rfl
theorem dX12_landsAt_14 : decode cX12_landsAt 14 = .ok (.if_icmp .ge 21, 3) := o162p ac_cX12_landsAt_0 14 0 21 rfl rfl
def kb_cX12_landsAt_32 : List Nat := [167, 255, 228, 28, 172]
theorem ac_cX12_landsAt_32 : AL cX12_landsAt 32 kb_cX12_landsAt_32 := AL.of (m := 5) (by decide +kernel)
theorem dX12_landsAt_35 : decode cX12_landsAt 35 = .ok (.iload_n 2, 1) := o28 ac_cX12_landsAt_32 3 rfl
theorem dX12_landsAt_36 : decode cX12_landsAt 36 = .ok (.ireturn, 1) := o172 ac_cX12_landsAt_32 4 rfl
def kb_cX12_catchesNow_0 : List Nat := [3, 60, 27, 42, 180, 0, 43, 42, 180, 0, 221, 46, 162, 0, 20, 42, 27, 3, 182, 1]
theorem ac_cX12_catchesNow_0 : AL cX12_catchesNow 0 kb_cX12_catchesNow_0 := AL.of (m := 20) (by decide +kernel)
theorem dX12_catchesNow_0 : decode cX12_catchesNow 0 = .ok (.iconst 0, 1) := o3 ac_cX12_catchesNow_0 0 rfl
theorem dX12_catchesNow_1 : decode cX12_catchesNow 1 = .ok (.istore_n 1, 1) := o60 ac_cX12_catchesNow_0 1 rfl
theorem dX12_catchesNow_2 : decode cX12_catchesNow 2 = .ok (.iload_n 1, 1) := o27 ac_cX12_catchesNow_0 2 rfl
theorem dX12_catchesNow_3 : decode cX12_catchesNow 3 = .ok (.aload_n 0, 1) := o42 ac_cX12_catchesNow_0 3 rfl
theorem dX12_catchesNow_4 : decode cX12_catchesNow 4 = .ok (.getfield 43, 3) := o180 ac_cX12_catchesNow_0 4 0 43 rfl
theorem dX12_catchesNow_7 : decode cX12_catchesNow 7 = .ok (.aload_n 0, 1) := o42 ac_cX12_catchesNow_0 7 rfl
theorem dX12_catchesNow_8 : decode cX12_catchesNow 8 = .ok (.getfield 221, 3) := o180 ac_cX12_catchesNow_0 8 0 221 rfl
theorem dX12_catchesNow_11 : decode cX12_catchesNow 11 = .ok (.iaload, 1) := o46 ac_cX12_catchesNow_0 11 rfl
theorem dX12_catchesNow_12 : decode cX12_catchesNow 12 = .ok (.if_icmp .ge 20, 3) := o162p ac_cX12_catchesNow_0 12 0 20 rfl rfl
def kb_cX12_catchesNow_32 : List Nat := [16, 254, 172]
theorem ac_cX12_catchesNow_32 : AL cX12_catchesNow 32 kb_cX12_catchesNow_32 := AL.of (m := 3) (by decide +kernel)
theorem dX12_catchesNow_32 : decode cX12_catchesNow 32 = .ok (.bipush (-2), 2) := o16n ac_cX12_catchesNow_32 0 254 1 rfl rfl rfl
theorem dX12_catchesNow_34 : decode cX12_catchesNow 34 = .ok (.ireturn, 1) := o172 ac_cX12_catchesNow_32 2 rfl
def kb_cX12_heightNow_0 : List Nat := [42, 180, 0, 110, 16, 28, 46, 155, 0, 11, 42, 180, 0, 110, 16, 28, 46, 172, 42, 180]
theorem ac_cX12_heightNow_0 : AL cX12_heightNow 0 kb_cX12_heightNow_0 := AL.of (m := 20) (by decide +kernel)
theorem dX12_heightNow_0 : decode cX12_heightNow 0 = .ok (.aload_n 0, 1) := o42 ac_cX12_heightNow_0 0 rfl
theorem dX12_heightNow_1 : decode cX12_heightNow 1 = .ok (.getfield 110, 3) := o180 ac_cX12_heightNow_0 1 0 110 rfl
theorem dX12_heightNow_4 : decode cX12_heightNow 4 = .ok (.bipush 28, 2) := o16p ac_cX12_heightNow_0 4 28 rfl rfl
theorem dX12_heightNow_6 : decode cX12_heightNow 6 = .ok (.iaload, 1) := o46 ac_cX12_heightNow_0 6 rfl
theorem dX12_heightNow_7 : decode cX12_heightNow 7 = .ok (.ifCond .lt 11, 3) := o155p ac_cX12_heightNow_0 7 0 11 rfl rfl
def kb_cX12_heightNow_16 : List Nat := [46, 172, 42, 180, 0, 110, 16, 26, 46, 156, 0, 7, 6, 167, 0, 29, 42, 42, 180, 0]
theorem ac_cX12_heightNow_16 : AL cX12_heightNow 16 kb_cX12_heightNow_16 := AL.of (m := 20) (by decide +kernel)
theorem dX12_heightNow_18 : decode cX12_heightNow 18 = .ok (.aload_n 0, 1) := o42 ac_cX12_heightNow_16 2 rfl
theorem dX12_heightNow_19 : decode cX12_heightNow 19 = .ok (.getfield 110, 3) := o180 ac_cX12_heightNow_16 3 0 110 rfl
theorem dX12_heightNow_22 : decode cX12_heightNow 22 = .ok (.bipush 26, 2) := o16p ac_cX12_heightNow_16 6 26 rfl rfl
theorem dX12_heightNow_24 : decode cX12_heightNow 24 = .ok (.iaload, 1) := o46 ac_cX12_heightNow_16 8 rfl
theorem dX12_heightNow_25 : decode cX12_heightNow 25 = .ok (.ifCond .ge 7, 3) := o156p ac_cX12_heightNow_16 9 0 7 rfl rfl
theorem dX12_heightNow_28 : decode cX12_heightNow 28 = .ok (.iconst 3, 1) := o6 ac_cX12_heightNow_16 12 rfl
theorem dX12_heightNow_29 : decode cX12_heightNow 29 = .ok (.goto 29, 3) := o167p ac_cX12_heightNow_16 13 0 29 rfl rfl
def kb_cX12_heightNow_48 : List Nat := [180, 0, 110, 16, 27, 46, 100, 182, 1, 65, 172]
theorem ac_cX12_heightNow_48 : AL cX12_heightNow 48 kb_cX12_heightNow_48 := AL.of (m := 11) (by decide +kernel)
theorem dX12_heightNow_58 : decode cX12_heightNow 58 = .ok (.ireturn, 1) := o172 ac_cX12_heightNow_48 10 rfl
def kb_cX12_weightsOf_0 : List Nat := [3, 61, 3, 62, 29, 42, 180, 0, 43, 42, 180, 0, 221, 46, 162, 0, 35, 27, 29, 122]
theorem ac_cX12_weightsOf_0 : AL cX12_weightsOf 0 kb_cX12_weightsOf_0 := AL.of (m := 20) (by decide +kernel)
theorem dX12_weightsOf_0 : decode cX12_weightsOf 0 = .ok (.iconst 0, 1) := o3 ac_cX12_weightsOf_0 0 rfl
theorem dX12_weightsOf_1 : decode cX12_weightsOf 1 = .ok (.istore_n 2, 1) := o61 ac_cX12_weightsOf_0 1 rfl
theorem dX12_weightsOf_2 : decode cX12_weightsOf 2 = .ok (.iconst 0, 1) := o3 ac_cX12_weightsOf_0 2 rfl
theorem dX12_weightsOf_3 : decode cX12_weightsOf 3 = .ok (.istore_n 3, 1) := o62 ac_cX12_weightsOf_0 3 rfl
theorem dX12_weightsOf_4 : decode cX12_weightsOf 4 = .ok (.iload_n 3, 1) := o29 ac_cX12_weightsOf_0 4 rfl
theorem dX12_weightsOf_5 : decode cX12_weightsOf 5 = .ok (.aload_n 0, 1) := o42 ac_cX12_weightsOf_0 5 rfl
theorem dX12_weightsOf_6 : decode cX12_weightsOf 6 = .ok (.getfield 43, 3) := o180 ac_cX12_weightsOf_0 6 0 43 rfl
theorem dX12_weightsOf_9 : decode cX12_weightsOf 9 = .ok (.aload_n 0, 1) := o42 ac_cX12_weightsOf_0 9 rfl
theorem dX12_weightsOf_10 : decode cX12_weightsOf 10 = .ok (.getfield 221, 3) := o180 ac_cX12_weightsOf_0 10 0 221 rfl
theorem dX12_weightsOf_13 : decode cX12_weightsOf 13 = .ok (.iaload, 1) := o46 ac_cX12_weightsOf_0 13 rfl
theorem dX12_weightsOf_14 : decode cX12_weightsOf 14 = .ok (.if_icmp .ge 35, 3) := o162p ac_cX12_weightsOf_0 14 0 35 rfl rfl
def kb_cX12_weightsOf_48 : List Nat := [214, 28, 172]
theorem ac_cX12_weightsOf_48 : AL cX12_weightsOf 48 kb_cX12_weightsOf_48 := AL.of (m := 3) (by decide +kernel)
theorem dX12_weightsOf_49 : decode cX12_weightsOf 49 = .ok (.iload_n 2, 1) := o28 ac_cX12_weightsOf_48 1 rfl
theorem dX12_weightsOf_50 : decode cX12_weightsOf 50 = .ok (.ireturn, 1) := o172 ac_cX12_weightsOf_48 2 rfl
def kb_cX12_copies_0 : List Nat := [3, 60, 27, 16, 29, 162, 0, 21, 42, 180, 0, 110, 27, 42, 180, 0, 107, 27, 46, 79]
theorem ac_cX12_copies_0 : AL cX12_copies 0 kb_cX12_copies_0 := AL.of (m := 20) (by decide +kernel)
theorem dX12_copies_0 : decode cX12_copies 0 = .ok (.iconst 0, 1) := o3 ac_cX12_copies_0 0 rfl
theorem dX12_copies_1 : decode cX12_copies 1 = .ok (.istore_n 1, 1) := o60 ac_cX12_copies_0 1 rfl
theorem dX12_copies_2 : decode cX12_copies 2 = .ok (.iload_n 1, 1) := o27 ac_cX12_copies_0 2 rfl
theorem dX12_copies_3 : decode cX12_copies 3 = .ok (.bipush 29, 2) := o16p ac_cX12_copies_0 3 29 rfl rfl
theorem dX12_copies_5 : decode cX12_copies 5 = .ok (.if_icmp .ge 21, 3) := o162p ac_cX12_copies_0 5 0 21 rfl rfl
theorem dX12_copies_8 : decode cX12_copies 8 = .ok (.aload_n 0, 1) := o42 ac_cX12_copies_0 8 rfl
theorem dX12_copies_9 : decode cX12_copies 9 = .ok (.getfield 110, 3) := o180 ac_cX12_copies_0 9 0 110 rfl
theorem dX12_copies_12 : decode cX12_copies 12 = .ok (.iload_n 1, 1) := o27 ac_cX12_copies_0 12 rfl
theorem dX12_copies_13 : decode cX12_copies 13 = .ok (.aload_n 0, 1) := o42 ac_cX12_copies_0 13 rfl
theorem dX12_copies_14 : decode cX12_copies 14 = .ok (.getfield 107, 3) := o180 ac_cX12_copies_0 14 0 107 rfl
def kb_cX12_copies_16 : List Nat := [107, 27, 46, 79, 132, 1, 1, 167, 255, 235, 42, 42, 180, 0, 67, 42, 180, 0, 221, 46]
theorem ac_cX12_copies_16 : AL cX12_copies 16 kb_cX12_copies_16 := AL.of (m := 20) (by decide +kernel)
theorem dX12_copies_17 : decode cX12_copies 17 = .ok (.iload_n 1, 1) := o27 ac_cX12_copies_16 1 rfl
theorem dX12_copies_18 : decode cX12_copies 18 = .ok (.iaload, 1) := o46 ac_cX12_copies_16 2 rfl
theorem dX12_copies_19 : decode cX12_copies 19 = .ok (.iastore, 1) := o79 ac_cX12_copies_16 3 rfl
theorem dX12_copies_20 : decode cX12_copies 20 = .ok (.iinc 1 1, 3) := o132p ac_cX12_copies_16 4 1 1 rfl rfl
theorem dX12_copies_23 : decode cX12_copies 23 = .ok (.goto (-21), 3) := o167n ac_cX12_copies_16 7 255 235 20 rfl rfl rfl
theorem dX12_copies_26 : decode cX12_copies 26 = .ok (.aload_n 0, 1) := o42 ac_cX12_copies_16 10 rfl
theorem dX12_copies_27 : decode cX12_copies 27 = .ok (.aload_n 0, 1) := o42 ac_cX12_copies_16 11 rfl
theorem dX12_copies_28 : decode cX12_copies 28 = .ok (.getfield 67, 3) := o180 ac_cX12_copies_16 12 0 67 rfl
theorem dX12_copies_31 : decode cX12_copies 31 = .ok (.aload_n 0, 1) := o42 ac_cX12_copies_16 15 rfl
def kb_cX12_copies_32 : List Nat := [180, 0, 221, 46, 181, 1, 49, 42, 3, 181, 1, 52, 177]
theorem ac_cX12_copies_32 : AL cX12_copies 32 kb_cX12_copies_32 := AL.of (m := 13) (by decide +kernel)
theorem dX12_copies_32 : decode cX12_copies 32 = .ok (.getfield 221, 3) := o180 ac_cX12_copies_32 0 0 221 rfl
theorem dX12_copies_35 : decode cX12_copies 35 = .ok (.iaload, 1) := o46 ac_cX12_copies_32 3 rfl
theorem dX12_copies_36 : decode cX12_copies 36 = .ok (.putfield 305, 3) := o181 ac_cX12_copies_32 4 1 49 rfl
theorem dX12_copies_39 : decode cX12_copies 39 = .ok (.aload_n 0, 1) := o42 ac_cX12_copies_32 7 rfl
theorem dX12_copies_40 : decode cX12_copies 40 = .ok (.iconst 0, 1) := o3 ac_cX12_copies_32 8 rfl
theorem dX12_copies_41 : decode cX12_copies 41 = .ok (.putfield 308, 3) := o181 ac_cX12_copies_32 9 1 52 rfl
theorem dX12_copies_44 : decode cX12_copies 44 = .ok (.return_, 1) := o177 ac_cX12_copies_32 12 rfl
def kb_cX12_copiesStill_0 : List Nat := [42, 182, 1, 55, 42, 4, 181, 1, 52, 177]
theorem ac_cX12_copiesStill_0 : AL cX12_copiesStill 0 kb_cX12_copiesStill_0 := AL.of (m := 10) (by decide +kernel)
theorem dX12_copiesStill_0 : decode cX12_copiesStill 0 = .ok (.aload_n 0, 1) := o42 ac_cX12_copiesStill_0 0 rfl
theorem dX12_copiesStill_1 : decode cX12_copiesStill 1 = .ok (.invokevirtual 311, 3) := o182 ac_cX12_copiesStill_0 1 1 55 rfl
theorem dX12_copiesStill_4 : decode cX12_copiesStill 4 = .ok (.aload_n 0, 1) := o42 ac_cX12_copiesStill_0 4 rfl
theorem dX12_copiesStill_5 : decode cX12_copiesStill 5 = .ok (.iconst 1, 1) := o4 ac_cX12_copiesStill_0 5 rfl
theorem dX12_copiesStill_6 : decode cX12_copiesStill 6 = .ok (.putfield 308, 3) := o181 ac_cX12_copiesStill_0 6 1 52 rfl
theorem dX12_copiesStill_9 : decode cX12_copiesStill 9 = .ok (.return_, 1) := o177 ac_cX12_copiesStill_0 9 rfl
def kb_cX12_beatGoes_0 : List Nat := [42, 42, 182, 1, 122, 181, 1, 85, 42, 3, 181, 1, 88, 42, 3, 181, 1, 109, 42, 180]
theorem ac_cX12_beatGoes_0 : AL cX12_beatGoes 0 kb_cX12_beatGoes_0 := AL.of (m := 20) (by decide +kernel)
theorem dX12_beatGoes_0 : decode cX12_beatGoes 0 = .ok (.aload_n 0, 1) := o42 ac_cX12_beatGoes_0 0 rfl
theorem dX12_beatGoes_1 : decode cX12_beatGoes 1 = .ok (.aload_n 0, 1) := o42 ac_cX12_beatGoes_0 1 rfl
theorem dX12_beatGoes_2 : decode cX12_beatGoes 2 = .ok (.invokevirtual 378, 3) := o182 ac_cX12_beatGoes_0 2 1 122 rfl
theorem dX12_beatGoes_5 : decode cX12_beatGoes 5 = .ok (.putfield 341, 3) := o181 ac_cX12_beatGoes_0 5 1 85 rfl
theorem dX12_beatGoes_8 : decode cX12_beatGoes 8 = .ok (.aload_n 0, 1) := o42 ac_cX12_beatGoes_0 8 rfl
theorem dX12_beatGoes_9 : decode cX12_beatGoes 9 = .ok (.iconst 0, 1) := o3 ac_cX12_beatGoes_0 9 rfl
theorem dX12_beatGoes_10 : decode cX12_beatGoes 10 = .ok (.putfield 344, 3) := o181 ac_cX12_beatGoes_0 10 1 88 rfl
theorem dX12_beatGoes_13 : decode cX12_beatGoes 13 = .ok (.aload_n 0, 1) := o42 ac_cX12_beatGoes_0 13 rfl
theorem dX12_beatGoes_14 : decode cX12_beatGoes 14 = .ok (.iconst 0, 1) := o3 ac_cX12_beatGoes_0 14 rfl
theorem dX12_beatGoes_15 : decode cX12_beatGoes 15 = .ok (.putfield 365, 3) := o181 ac_cX12_beatGoes_0 15 1 109 rfl
def kb_cX12_beatGoes_16 : List Nat := [1, 109, 42, 180, 1, 85, 156, 0, 37, 42, 180, 0, 110, 16, 22, 42, 180, 0, 110, 16]
theorem ac_cX12_beatGoes_16 : AL cX12_beatGoes 16 kb_cX12_beatGoes_16 := AL.of (m := 20) (by decide +kernel)
theorem dX12_beatGoes_18 : decode cX12_beatGoes 18 = .ok (.aload_n 0, 1) := o42 ac_cX12_beatGoes_16 2 rfl
theorem dX12_beatGoes_19 : decode cX12_beatGoes 19 = .ok (.getfield 341, 3) := o180 ac_cX12_beatGoes_16 3 1 85 rfl
theorem dX12_beatGoes_22 : decode cX12_beatGoes 22 = .ok (.ifCond .ge 37, 3) := o156p ac_cX12_beatGoes_16 6 0 37 rfl rfl
theorem dX12_beatGoes_25 : decode cX12_beatGoes 25 = .ok (.aload_n 0, 1) := o42 ac_cX12_beatGoes_16 9 rfl
theorem dX12_beatGoes_26 : decode cX12_beatGoes 26 = .ok (.getfield 110, 3) := o180 ac_cX12_beatGoes_16 10 0 110 rfl
theorem dX12_beatGoes_29 : decode cX12_beatGoes 29 = .ok (.bipush 22, 2) := o16p ac_cX12_beatGoes_16 13 22 rfl rfl
theorem dX12_beatGoes_31 : decode cX12_beatGoes 31 = .ok (.aload_n 0, 1) := o42 ac_cX12_beatGoes_16 15 rfl
def kb_cX12_beatGoes_32 : List Nat := [180, 0, 110, 16, 22, 46, 42, 180, 0, 64, 42, 180, 0, 221, 46, 100, 3, 17, 3, 231]
theorem ac_cX12_beatGoes_32 : AL cX12_beatGoes 32 kb_cX12_beatGoes_32 := AL.of (m := 20) (by decide +kernel)
theorem dX12_beatGoes_32 : decode cX12_beatGoes 32 = .ok (.getfield 110, 3) := o180 ac_cX12_beatGoes_32 0 0 110 rfl
theorem dX12_beatGoes_35 : decode cX12_beatGoes 35 = .ok (.bipush 22, 2) := o16p ac_cX12_beatGoes_32 3 22 rfl rfl
theorem dX12_beatGoes_37 : decode cX12_beatGoes 37 = .ok (.iaload, 1) := o46 ac_cX12_beatGoes_32 5 rfl
theorem dX12_beatGoes_38 : decode cX12_beatGoes 38 = .ok (.aload_n 0, 1) := o42 ac_cX12_beatGoes_32 6 rfl
theorem dX12_beatGoes_39 : decode cX12_beatGoes 39 = .ok (.getfield 64, 3) := o180 ac_cX12_beatGoes_32 7 0 64 rfl
theorem dX12_beatGoes_42 : decode cX12_beatGoes 42 = .ok (.aload_n 0, 1) := o42 ac_cX12_beatGoes_32 10 rfl
theorem dX12_beatGoes_43 : decode cX12_beatGoes 43 = .ok (.getfield 221, 3) := o180 ac_cX12_beatGoes_32 11 0 221 rfl
theorem dX12_beatGoes_46 : decode cX12_beatGoes 46 = .ok (.iaload, 1) := o46 ac_cX12_beatGoes_32 14 rfl
theorem dX12_beatGoes_47 : decode cX12_beatGoes 47 = .ok (.isub, 1) := o100 ac_cX12_beatGoes_32 15 rfl
def kb_cX12_beatGoes_48 : List Nat := [3, 17, 3, 231, 184, 1, 82, 79, 167, 0, 15, 42, 182, 1, 125, 42, 42, 180, 1, 85]
theorem ac_cX12_beatGoes_48 : AL cX12_beatGoes 48 kb_cX12_beatGoes_48 := AL.of (m := 20) (by decide +kernel)
theorem dX12_beatGoes_48 : decode cX12_beatGoes 48 = .ok (.iconst 0, 1) := o3 ac_cX12_beatGoes_48 0 rfl
theorem dX12_beatGoes_49 : decode cX12_beatGoes 49 = .ok (.sipush 999, 3) := o17p ac_cX12_beatGoes_48 1 3 231 rfl rfl
theorem dX12_beatGoes_52 : decode cX12_beatGoes 52 = .ok (.invokestatic 338, 3) := o184 ac_cX12_beatGoes_48 4 1 82 rfl
theorem dX12_beatGoes_55 : decode cX12_beatGoes 55 = .ok (.iastore, 1) := o79 ac_cX12_beatGoes_48 7 rfl
theorem dX12_beatGoes_56 : decode cX12_beatGoes 56 = .ok (.goto 15, 3) := o167p ac_cX12_beatGoes_48 8 0 15 rfl rfl
def kb_cX12_beatGoes_64 : List Nat := [42, 180, 1, 85, 182, 1, 128, 3, 60, 27, 42, 180, 0, 43, 42, 180, 0, 221, 46, 162]
theorem ac_cX12_beatGoes_64 : AL cX12_beatGoes 64 kb_cX12_beatGoes_64 := AL.of (m := 20) (by decide +kernel)
theorem dX12_beatGoes_71 : decode cX12_beatGoes 71 = .ok (.iconst 0, 1) := o3 ac_cX12_beatGoes_64 7 rfl
theorem dX12_beatGoes_72 : decode cX12_beatGoes 72 = .ok (.istore_n 1, 1) := o60 ac_cX12_beatGoes_64 8 rfl
theorem dX12_beatGoes_73 : decode cX12_beatGoes 73 = .ok (.iload_n 1, 1) := o27 ac_cX12_beatGoes_64 9 rfl
theorem dX12_beatGoes_74 : decode cX12_beatGoes 74 = .ok (.aload_n 0, 1) := o42 ac_cX12_beatGoes_64 10 rfl
theorem dX12_beatGoes_75 : decode cX12_beatGoes 75 = .ok (.getfield 43, 3) := o180 ac_cX12_beatGoes_64 11 0 43 rfl
theorem dX12_beatGoes_78 : decode cX12_beatGoes 78 = .ok (.aload_n 0, 1) := o42 ac_cX12_beatGoes_64 14 rfl
theorem dX12_beatGoes_79 : decode cX12_beatGoes 79 = .ok (.getfield 221, 3) := o180 ac_cX12_beatGoes_64 15 0 221 rfl
def kb_cX12_beatGoes_80 : List Nat := [0, 221, 46, 162, 0, 31, 42, 180, 0, 110, 27, 46, 154, 0, 16, 42, 180, 0, 110, 16]
theorem ac_cX12_beatGoes_80 : AL cX12_beatGoes 80 kb_cX12_beatGoes_80 := AL.of (m := 20) (by decide +kernel)
theorem dX12_beatGoes_82 : decode cX12_beatGoes 82 = .ok (.iaload, 1) := o46 ac_cX12_beatGoes_80 2 rfl
theorem dX12_beatGoes_83 : decode cX12_beatGoes 83 = .ok (.if_icmp .ge 31, 3) := o162p ac_cX12_beatGoes_80 3 0 31 rfl rfl
def kb_cX12_beatGoes_112 : List Nat := [255, 218, 42, 180, 0, 110, 16, 21, 92, 46, 4, 96, 79, 42, 180, 0, 110, 16, 28, 2]
theorem ac_cX12_beatGoes_112 : AL cX12_beatGoes 112 kb_cX12_beatGoes_112 := AL.of (m := 20) (by decide +kernel)
theorem dX12_beatGoes_114 : decode cX12_beatGoes 114 = .ok (.aload_n 0, 1) := o42 ac_cX12_beatGoes_112 2 rfl
theorem dX12_beatGoes_115 : decode cX12_beatGoes 115 = .ok (.getfield 110, 3) := o180 ac_cX12_beatGoes_112 3 0 110 rfl
theorem dX12_beatGoes_118 : decode cX12_beatGoes 118 = .ok (.bipush 21, 2) := o16p ac_cX12_beatGoes_112 6 21 rfl rfl
theorem dX12_beatGoes_120 : decode cX12_beatGoes 120 = .ok (.dup2, 1) := o92 ac_cX12_beatGoes_112 8 rfl
theorem dX12_beatGoes_121 : decode cX12_beatGoes 121 = .ok (.iaload, 1) := o46 ac_cX12_beatGoes_112 9 rfl
theorem dX12_beatGoes_122 : decode cX12_beatGoes 122 = .ok (.iconst 1, 1) := o4 ac_cX12_beatGoes_112 10 rfl
theorem dX12_beatGoes_123 : decode cX12_beatGoes 123 = .ok (.iadd, 1) := o96 ac_cX12_beatGoes_112 11 rfl
theorem dX12_beatGoes_124 : decode cX12_beatGoes 124 = .ok (.iastore, 1) := o79 ac_cX12_beatGoes_112 12 rfl
theorem dX12_beatGoes_125 : decode cX12_beatGoes 125 = .ok (.aload_n 0, 1) := o42 ac_cX12_beatGoes_112 13 rfl
theorem dX12_beatGoes_126 : decode cX12_beatGoes 126 = .ok (.getfield 110, 3) := o180 ac_cX12_beatGoes_112 14 0 110 rfl
def kb_cX12_beatGoes_128 : List Nat := [110, 16, 28, 2, 79, 177]
theorem ac_cX12_beatGoes_128 : AL cX12_beatGoes 128 kb_cX12_beatGoes_128 := AL.of (m := 6) (by decide +kernel)
theorem dX12_beatGoes_129 : decode cX12_beatGoes 129 = .ok (.bipush 28, 2) := o16p ac_cX12_beatGoes_128 1 28 rfl rfl
theorem dX12_beatGoes_131 : decode cX12_beatGoes 131 = .ok (.iconst (-1), 1) := o2 ac_cX12_beatGoes_128 3 rfl
theorem dX12_beatGoes_132 : decode cX12_beatGoes 132 = .ok (.iastore, 1) := o79 ac_cX12_beatGoes_128 4 rfl
theorem dX12_beatGoes_133 : decode cX12_beatGoes 133 = .ok (.return_, 1) := o177 ac_cX12_beatGoes_128 5 rfl
def kb_cX12_goes_0 : List Nat := [3, 61, 28, 27, 162, 0, 13, 42, 182, 1, 131, 132, 2, 1, 167, 255, 244, 177]
theorem ac_cX12_goes_0 : AL cX12_goes 0 kb_cX12_goes_0 := AL.of (m := 18) (by decide +kernel)
theorem dX12_goes_0 : decode cX12_goes 0 = .ok (.iconst 0, 1) := o3 ac_cX12_goes_0 0 rfl
theorem dX12_goes_1 : decode cX12_goes 1 = .ok (.istore_n 2, 1) := o61 ac_cX12_goes_0 1 rfl
theorem dX12_goes_2 : decode cX12_goes 2 = .ok (.iload_n 2, 1) := o28 ac_cX12_goes_0 2 rfl
theorem dX12_goes_3 : decode cX12_goes 3 = .ok (.iload_n 1, 1) := o27 ac_cX12_goes_0 3 rfl
theorem dX12_goes_4 : decode cX12_goes 4 = .ok (.if_icmp .ge 13, 3) := o162p ac_cX12_goes_0 4 0 13 rfl rfl
theorem dX12_goes_7 : decode cX12_goes 7 = .ok (.aload_n 0, 1) := o42 ac_cX12_goes_0 7 rfl
theorem dX12_goes_8 : decode cX12_goes 8 = .ok (.invokevirtual 387, 3) := o182 ac_cX12_goes_0 8 1 131 rfl
theorem dX12_goes_11 : decode cX12_goes 11 = .ok (.iinc 2 1, 3) := o132p ac_cX12_goes_0 11 2 1 rfl rfl
theorem dX12_goes_14 : decode cX12_goes 14 = .ok (.goto (-12), 3) := o167n ac_cX12_goes_0 14 255 244 11 rfl rfl rfl
def kb_cX12_goes_16 : List Nat := [244, 177]
theorem ac_cX12_goes_16 : AL cX12_goes 16 kb_cX12_goes_16 := AL.of (m := 2) (by decide +kernel)
theorem dX12_goes_17 : decode cX12_goes 17 = .ok (.return_, 1) := o177 ac_cX12_goes_16 1 rfl
def kb_cX12_keepsRow_0 : List Nat := [3, 60, 27, 16, 29, 162, 0, 21, 42, 180, 0, 107, 27, 42, 180, 0, 110, 27, 46, 79]
theorem ac_cX12_keepsRow_0 : AL cX12_keepsRow 0 kb_cX12_keepsRow_0 := AL.of (m := 20) (by decide +kernel)
theorem dX12_keepsRow_0 : decode cX12_keepsRow 0 = .ok (.iconst 0, 1) := o3 ac_cX12_keepsRow_0 0 rfl
theorem dX12_keepsRow_1 : decode cX12_keepsRow 1 = .ok (.istore_n 1, 1) := o60 ac_cX12_keepsRow_0 1 rfl
theorem dX12_keepsRow_2 : decode cX12_keepsRow 2 = .ok (.iload_n 1, 1) := o27 ac_cX12_keepsRow_0 2 rfl
theorem dX12_keepsRow_3 : decode cX12_keepsRow 3 = .ok (.bipush 29, 2) := o16p ac_cX12_keepsRow_0 3 29 rfl rfl
theorem dX12_keepsRow_5 : decode cX12_keepsRow 5 = .ok (.if_icmp .ge 21, 3) := o162p ac_cX12_keepsRow_0 5 0 21 rfl rfl
theorem dX12_keepsRow_8 : decode cX12_keepsRow 8 = .ok (.aload_n 0, 1) := o42 ac_cX12_keepsRow_0 8 rfl
theorem dX12_keepsRow_9 : decode cX12_keepsRow 9 = .ok (.getfield 107, 3) := o180 ac_cX12_keepsRow_0 9 0 107 rfl
theorem dX12_keepsRow_12 : decode cX12_keepsRow 12 = .ok (.iload_n 1, 1) := o27 ac_cX12_keepsRow_0 12 rfl
theorem dX12_keepsRow_13 : decode cX12_keepsRow 13 = .ok (.aload_n 0, 1) := o42 ac_cX12_keepsRow_0 13 rfl
theorem dX12_keepsRow_14 : decode cX12_keepsRow 14 = .ok (.getfield 110, 3) := o180 ac_cX12_keepsRow_0 14 0 110 rfl
def kb_cX12_keepsRow_16 : List Nat := [110, 27, 46, 79, 132, 1, 1, 167, 255, 235, 177]
theorem ac_cX12_keepsRow_16 : AL cX12_keepsRow 16 kb_cX12_keepsRow_16 := AL.of (m := 11) (by decide +kernel)
theorem dX12_keepsRow_17 : decode cX12_keepsRow 17 = .ok (.iload_n 1, 1) := o27 ac_cX12_keepsRow_16 1 rfl
theorem dX12_keepsRow_18 : decode cX12_keepsRow 18 = .ok (.iaload, 1) := o46 ac_cX12_keepsRow_16 2 rfl
theorem dX12_keepsRow_19 : decode cX12_keepsRow 19 = .ok (.iastore, 1) := o79 ac_cX12_keepsRow_16 3 rfl
theorem dX12_keepsRow_20 : decode cX12_keepsRow 20 = .ok (.iinc 1 1, 3) := o132p ac_cX12_keepsRow_16 4 1 1 rfl rfl
theorem dX12_keepsRow_23 : decode cX12_keepsRow 23 = .ok (.goto (-21), 3) := o167n ac_cX12_keepsRow_16 7 255 235 20 rfl rfl rfl
theorem dX12_keepsRow_26 : decode cX12_keepsRow 26 = .ok (.return_, 1) := o177 ac_cX12_keepsRow_16 10 rfl
def kb_cX12_records_0 : List Nat := [42, 180, 0, 239, 16, 40, 160, 0, 43, 3, 60, 27, 17, 4, 107, 162, 0, 24, 42, 180]
theorem ac_cX12_records_0 : AL cX12_records 0 kb_cX12_records_0 := AL.of (m := 20) (by decide +kernel)
theorem dX12_records_0 : decode cX12_records 0 = .ok (.aload_n 0, 1) := o42 ac_cX12_records_0 0 rfl
theorem dX12_records_1 : decode cX12_records 1 = .ok (.getfield 239, 3) := o180 ac_cX12_records_0 1 0 239 rfl
theorem dX12_records_4 : decode cX12_records 4 = .ok (.bipush 40, 2) := o16p ac_cX12_records_0 4 40 rfl rfl
theorem dX12_records_6 : decode cX12_records 6 = .ok (.if_icmp .ne 43, 3) := o160p ac_cX12_records_0 6 0 43 rfl rfl
def kb_cX12_records_48 : List Nat := [239, 3, 60, 27, 16, 29, 162, 0, 29, 42, 180, 0, 113, 16, 29, 42, 180, 0, 239, 104]
theorem ac_cX12_records_48 : AL cX12_records 48 kb_cX12_records_48 := AL.of (m := 20) (by decide +kernel)
theorem dX12_records_49 : decode cX12_records 49 = .ok (.iconst 0, 1) := o3 ac_cX12_records_48 1 rfl
theorem dX12_records_50 : decode cX12_records 50 = .ok (.istore_n 1, 1) := o60 ac_cX12_records_48 2 rfl
theorem dX12_records_51 : decode cX12_records 51 = .ok (.iload_n 1, 1) := o27 ac_cX12_records_48 3 rfl
theorem dX12_records_52 : decode cX12_records 52 = .ok (.bipush 29, 2) := o16p ac_cX12_records_48 4 29 rfl rfl
theorem dX12_records_54 : decode cX12_records 54 = .ok (.if_icmp .ge 29, 3) := o162p ac_cX12_records_48 6 0 29 rfl rfl
theorem dX12_records_57 : decode cX12_records 57 = .ok (.aload_n 0, 1) := o42 ac_cX12_records_48 9 rfl
theorem dX12_records_58 : decode cX12_records 58 = .ok (.getfield 113, 3) := o180 ac_cX12_records_48 10 0 113 rfl
theorem dX12_records_61 : decode cX12_records 61 = .ok (.bipush 29, 2) := o16p ac_cX12_records_48 13 29 rfl rfl
theorem dX12_records_63 : decode cX12_records 63 = .ok (.aload_n 0, 1) := o42 ac_cX12_records_48 15 rfl
def kb_cX12_records_64 : List Nat := [180, 0, 239, 104, 27, 96, 42, 180, 0, 107, 27, 46, 79, 132, 1, 1, 167, 255, 227, 42]
theorem ac_cX12_records_64 : AL cX12_records 64 kb_cX12_records_64 := AL.of (m := 20) (by decide +kernel)
theorem dX12_records_64 : decode cX12_records 64 = .ok (.getfield 239, 3) := o180 ac_cX12_records_64 0 0 239 rfl
theorem dX12_records_67 : decode cX12_records 67 = .ok (.imul, 1) := o104 ac_cX12_records_64 3 rfl
theorem dX12_records_68 : decode cX12_records 68 = .ok (.iload_n 1, 1) := o27 ac_cX12_records_64 4 rfl
theorem dX12_records_69 : decode cX12_records 69 = .ok (.iadd, 1) := o96 ac_cX12_records_64 5 rfl
theorem dX12_records_70 : decode cX12_records 70 = .ok (.aload_n 0, 1) := o42 ac_cX12_records_64 6 rfl
theorem dX12_records_71 : decode cX12_records 71 = .ok (.getfield 107, 3) := o180 ac_cX12_records_64 7 0 107 rfl
theorem dX12_records_74 : decode cX12_records 74 = .ok (.iload_n 1, 1) := o27 ac_cX12_records_64 10 rfl
theorem dX12_records_75 : decode cX12_records 75 = .ok (.iaload, 1) := o46 ac_cX12_records_64 11 rfl
theorem dX12_records_76 : decode cX12_records 76 = .ok (.iastore, 1) := o79 ac_cX12_records_64 12 rfl
theorem dX12_records_77 : decode cX12_records 77 = .ok (.iinc 1 1, 3) := o132p ac_cX12_records_64 13 1 1 rfl rfl
def kb_cX12_records_80 : List Nat := [167, 255, 227, 42, 89, 180, 0, 239, 4, 96, 181, 0, 239, 42, 182, 0, 151, 177]
theorem ac_cX12_records_80 : AL cX12_records 80 kb_cX12_records_80 := AL.of (m := 18) (by decide +kernel)
theorem dX12_records_80 : decode cX12_records 80 = .ok (.goto (-29), 3) := o167n ac_cX12_records_80 0 255 227 28 rfl rfl rfl
theorem dX12_records_83 : decode cX12_records 83 = .ok (.aload_n 0, 1) := o42 ac_cX12_records_80 3 rfl
theorem dX12_records_84 : decode cX12_records 84 = .ok (.dup, 1) := o89 ac_cX12_records_80 4 rfl
theorem dX12_records_85 : decode cX12_records 85 = .ok (.getfield 239, 3) := o180 ac_cX12_records_80 5 0 239 rfl
theorem dX12_records_88 : decode cX12_records 88 = .ok (.iconst 1, 1) := o4 ac_cX12_records_80 8 rfl
theorem dX12_records_89 : decode cX12_records 89 = .ok (.iadd, 1) := o96 ac_cX12_records_80 9 rfl
theorem dX12_records_90 : decode cX12_records 90 = .ok (.putfield 239, 3) := o181 ac_cX12_records_80 10 0 239 rfl
theorem dX12_records_93 : decode cX12_records 93 = .ok (.aload_n 0, 1) := o42 ac_cX12_records_80 13 rfl
theorem dX12_records_94 : decode cX12_records 94 = .ok (.invokevirtual 151, 3) := o182 ac_cX12_records_80 14 0 151 rfl
def kb_cX12_records_96 : List Nat := [151, 177]
theorem ac_cX12_records_96 : AL cX12_records 96 kb_cX12_records_96 := AL.of (m := 2) (by decide +kernel)
theorem dX12_records_97 : decode cX12_records 97 = .ok (.return_, 1) := o177 ac_cX12_records_96 1 rfl
def kb_cX12_thing_0 : List Nat := [42, 27, 182, 1, 134, 154, 0, 5, 2, 172, 28, 170, 0, 0, 0, 104, 0, 0, 0, 0]
theorem ac_cX12_thing_0 : AL cX12_thing 0 kb_cX12_thing_0 := AL.of (m := 20) (by decide +kernel)
theorem dX12_thing_0 : decode cX12_thing 0 = .ok (.aload_n 0, 1) := o42 ac_cX12_thing_0 0 rfl
theorem dX12_thing_1 : decode cX12_thing 1 = .ok (.iload_n 1, 1) := o27 ac_cX12_thing_0 1 rfl
theorem dX12_thing_2 : decode cX12_thing 2 = .ok (.invokevirtual 390, 3) := o182 ac_cX12_thing_0 2 1 134 rfl
theorem dX12_thing_5 : decode cX12_thing 5 = .ok (.ifCond .ne 5, 3) := o154p ac_cX12_thing_0 5 0 5 rfl rfl
theorem dX12_thing_8 : decode cX12_thing 8 = .ok (.iconst (-1), 1) := o2 ac_cX12_thing_0 8 rfl
theorem dX12_thing_9 : decode cX12_thing 9 = .ok (.ireturn, 1) := o172 ac_cX12_thing_0 9 rfl
def kb_cX12_pattern_0 : List Nat := [42, 27, 182, 1, 137, 153, 0, 18, 28, 2, 42, 27, 182, 1, 62, 4, 100, 184, 1, 45]
theorem ac_cX12_pattern_0 : AL cX12_pattern 0 kb_cX12_pattern_0 := AL.of (m := 20) (by decide +kernel)
theorem dX12_pattern_0 : decode cX12_pattern 0 = .ok (.aload_n 0, 1) := o42 ac_cX12_pattern_0 0 rfl
theorem dX12_pattern_1 : decode cX12_pattern 1 = .ok (.iload_n 1, 1) := o27 ac_cX12_pattern_0 1 rfl
theorem dX12_pattern_2 : decode cX12_pattern 2 = .ok (.invokevirtual 393, 3) := o182 ac_cX12_pattern_0 2 1 137 rfl
theorem dX12_pattern_5 : decode cX12_pattern 5 = .ok (.ifCond .eq 18, 3) := o153p ac_cX12_pattern_0 5 0 18 rfl rfl
def kb_cX12_pattern_16 : List Nat := [100, 184, 1, 45, 154, 0, 5, 2, 172, 28, 2, 160, 0, 11, 42, 27, 182, 1, 62, 167]
theorem ac_cX12_pattern_16 : AL cX12_pattern 16 kb_cX12_pattern_16 := AL.of (m := 20) (by decide +kernel)
theorem dX12_pattern_23 : decode cX12_pattern 23 = .ok (.iconst (-1), 1) := o2 ac_cX12_pattern_16 7 rfl
theorem dX12_pattern_24 : decode cX12_pattern 24 = .ok (.ireturn, 1) := o172 ac_cX12_pattern_16 8 rfl
def kb_cX12_tells_0 : List Nat := [42, 27, 182, 1, 134, 153, 0, 27, 29, 3, 6, 184, 1, 45, 153, 0, 18, 29, 5, 162]
theorem ac_cX12_tells_0 : AL cX12_tells 0 kb_cX12_tells_0 := AL.of (m := 20) (by decide +kernel)
theorem dX12_tells_0 : decode cX12_tells 0 = .ok (.aload_n 0, 1) := o42 ac_cX12_tells_0 0 rfl
theorem dX12_tells_1 : decode cX12_tells 1 = .ok (.iload_n 1, 1) := o27 ac_cX12_tells_0 1 rfl
theorem dX12_tells_2 : decode cX12_tells 2 = .ok (.invokevirtual 390, 3) := o182 ac_cX12_tells_0 2 1 134 rfl
theorem dX12_tells_5 : decode cX12_tells 5 = .ok (.ifCond .eq 27, 3) := o153p ac_cX12_tells_0 5 0 27 rfl rfl
def kb_cX12_tells_32 : List Nat := [16, 156, 172, 42, 182, 1, 55, 42, 3, 182, 1, 94, 184, 1, 97, 54, 4, 29, 154, 0]
theorem ac_cX12_tells_32 : AL cX12_tells 32 kb_cX12_tells_32 := AL.of (m := 20) (by decide +kernel)
theorem dX12_tells_32 : decode cX12_tells 32 = .ok (.bipush (-100), 2) := o16n ac_cX12_tells_32 0 156 99 rfl rfl rfl
theorem dX12_tells_34 : decode cX12_tells 34 = .ok (.ireturn, 1) := o172 ac_cX12_tells_32 2 rfl
def kb_cX12_throwIn_0 : List Nat := [42, 27, 182, 1, 134, 153, 0, 22, 42, 180, 0, 107, 27, 46, 153, 0, 13, 28, 3, 16]
theorem ac_cX12_throwIn_0 : AL cX12_throwIn 0 kb_cX12_throwIn_0 := AL.of (m := 20) (by decide +kernel)
theorem dX12_throwIn_0 : decode cX12_throwIn 0 = .ok (.aload_n 0, 1) := o42 ac_cX12_throwIn_0 0 rfl
theorem dX12_throwIn_1 : decode cX12_throwIn 1 = .ok (.iload_n 1, 1) := o27 ac_cX12_throwIn_0 1 rfl
theorem dX12_throwIn_2 : decode cX12_throwIn 2 = .ok (.invokevirtual 390, 3) := o182 ac_cX12_throwIn_0 2 1 134 rfl
theorem dX12_throwIn_5 : decode cX12_throwIn 5 = .ok (.ifCond .eq 22, 3) := o153p ac_cX12_throwIn_0 5 0 22 rfl rfl
def kb_cX12_throwIn_16 : List Nat := [13, 28, 3, 16, 9, 184, 1, 45, 154, 0, 5, 3, 172, 42, 182, 1, 55, 42, 180, 0]
theorem ac_cX12_throwIn_16 : AL cX12_throwIn 16 kb_cX12_throwIn_16 := AL.of (m := 20) (by decide +kernel)
theorem dX12_throwIn_27 : decode cX12_throwIn 27 = .ok (.iconst 0, 1) := o3 ac_cX12_throwIn_16 11 rfl
theorem dX12_throwIn_28 : decode cX12_throwIn 28 = .ok (.ireturn, 1) := o172 ac_cX12_throwIn_16 12 rfl
def kb_cX12_use_0 : List Nat := [42, 27, 182, 1, 137, 154, 0, 5, 3, 172, 42, 182, 1, 55, 42, 27, 182, 1, 143, 42]
theorem ac_cX12_use_0 : AL cX12_use 0 kb_cX12_use_0 := AL.of (m := 20) (by decide +kernel)
theorem dX12_use_0 : decode cX12_use 0 = .ok (.aload_n 0, 1) := o42 ac_cX12_use_0 0 rfl
theorem dX12_use_1 : decode cX12_use 1 = .ok (.iload_n 1, 1) := o27 ac_cX12_use_0 1 rfl
theorem dX12_use_2 : decode cX12_use 2 = .ok (.invokevirtual 393, 3) := o182 ac_cX12_use_0 2 1 137 rfl
theorem dX12_use_5 : decode cX12_use 5 = .ok (.ifCond .ne 5, 3) := o154p ac_cX12_use_0 5 0 5 rfl rfl
theorem dX12_use_8 : decode cX12_use 8 = .ok (.iconst 0, 1) := o3 ac_cX12_use_0 8 rfl
theorem dX12_use_9 : decode cX12_use 9 = .ok (.ireturn, 1) := o172 ac_cX12_use_0 9 rfl
def kb_cX12_closes_0 : List Nat := [42, 27, 182, 1, 137, 153, 0, 24, 28, 3, 4, 184, 1, 45, 153, 0, 15, 42, 27, 182]
theorem ac_cX12_closes_0 : AL cX12_closes 0 kb_cX12_closes_0 := AL.of (m := 20) (by decide +kernel)
theorem dX12_closes_0 : decode cX12_closes 0 = .ok (.aload_n 0, 1) := o42 ac_cX12_closes_0 0 rfl
theorem dX12_closes_1 : decode cX12_closes 1 = .ok (.iload_n 1, 1) := o27 ac_cX12_closes_0 1 rfl
theorem dX12_closes_2 : decode cX12_closes 2 = .ok (.invokevirtual 393, 3) := o182 ac_cX12_closes_0 2 1 137 rfl
theorem dX12_closes_5 : decode cX12_closes 5 = .ok (.ifCond .eq 24, 3) := o153p ac_cX12_closes_0 5 0 24 rfl rfl
def kb_cX12_closes_16 : List Nat := [15, 42, 27, 182, 1, 161, 28, 184, 1, 164, 167, 0, 4, 2, 172]
theorem ac_cX12_closes_16 : AL cX12_closes 16 kb_cX12_closes_16 := AL.of (m := 15) (by decide +kernel)
theorem dX12_closes_29 : decode cX12_closes 29 = .ok (.iconst (-1), 1) := o2 ac_cX12_closes_16 13 rfl
theorem dX12_closes_30 : decode cX12_closes 30 = .ok (.ireturn, 1) := o172 ac_cX12_closes_16 14 rfl
def kb_cX12_joined_0 : List Nat := [42, 27, 182, 1, 137, 153, 0, 20, 42, 28, 182, 1, 137, 153, 0, 12, 29, 3, 4, 184]
theorem ac_cX12_joined_0 : AL cX12_joined 0 kb_cX12_joined_0 := AL.of (m := 20) (by decide +kernel)
theorem dX12_joined_0 : decode cX12_joined 0 = .ok (.aload_n 0, 1) := o42 ac_cX12_joined_0 0 rfl
theorem dX12_joined_1 : decode cX12_joined 1 = .ok (.iload_n 1, 1) := o27 ac_cX12_joined_0 1 rfl
theorem dX12_joined_2 : decode cX12_joined 2 = .ok (.invokevirtual 393, 3) := o182 ac_cX12_joined_0 2 1 137 rfl
theorem dX12_joined_5 : decode cX12_joined 5 = .ok (.ifCond .eq 20, 3) := o153p ac_cX12_joined_0 5 0 20 rfl rfl
def kb_cX12_joined_16 : List Nat := [29, 3, 4, 184, 1, 45, 154, 0, 5, 2, 172, 42, 27, 3, 182, 1, 155, 42, 28, 42]
theorem ac_cX12_joined_16 : AL cX12_joined 16 kb_cX12_joined_16 := AL.of (m := 20) (by decide +kernel)
theorem dX12_joined_25 : decode cX12_joined 25 = .ok (.iconst (-1), 1) := o2 ac_cX12_joined_16 9 rfl
theorem dX12_joined_26 : decode cX12_joined 26 = .ok (.ireturn, 1) := o172 ac_cX12_joined_16 10 rfl
def kb_cX12_turned_0 : List Nat := [42, 27, 182, 1, 137, 153, 0, 11, 42, 28, 182, 1, 137, 154, 0, 5, 2, 172, 42, 27]
theorem ac_cX12_turned_0 : AL cX12_turned 0 kb_cX12_turned_0 := AL.of (m := 20) (by decide +kernel)
theorem dX12_turned_0 : decode cX12_turned 0 = .ok (.aload_n 0, 1) := o42 ac_cX12_turned_0 0 rfl
theorem dX12_turned_1 : decode cX12_turned 1 = .ok (.iload_n 1, 1) := o27 ac_cX12_turned_0 1 rfl
theorem dX12_turned_2 : decode cX12_turned 2 = .ok (.invokevirtual 393, 3) := o182 ac_cX12_turned_0 2 1 137 rfl
theorem dX12_turned_5 : decode cX12_turned 5 = .ok (.ifCond .eq 11, 3) := o153p ac_cX12_turned_0 5 0 11 rfl rfl
def kb_cX12_turned_16 : List Nat := [2, 172, 42, 27, 182, 1, 62, 42, 28, 182, 1, 62, 159, 0, 6, 16, 254, 172, 3, 62]
theorem ac_cX12_turned_16 : AL cX12_turned 16 kb_cX12_turned_16 := AL.of (m := 20) (by decide +kernel)
theorem dX12_turned_16 : decode cX12_turned 16 = .ok (.iconst (-1), 1) := o2 ac_cX12_turned_16 0 rfl
theorem dX12_turned_17 : decode cX12_turned 17 = .ok (.ireturn, 1) := o172 ac_cX12_turned_16 1 rfl
def kb_cX12_span_0 : List Nat := [42, 27, 182, 1, 137, 154, 0, 5, 2, 172, 3, 61, 3, 62, 29, 42, 27, 182, 1, 62]
theorem ac_cX12_span_0 : AL cX12_span 0 kb_cX12_span_0 := AL.of (m := 20) (by decide +kernel)
theorem dX12_span_0 : decode cX12_span 0 = .ok (.aload_n 0, 1) := o42 ac_cX12_span_0 0 rfl
theorem dX12_span_1 : decode cX12_span 1 = .ok (.iload_n 1, 1) := o27 ac_cX12_span_0 1 rfl
theorem dX12_span_2 : decode cX12_span 2 = .ok (.invokevirtual 393, 3) := o182 ac_cX12_span_0 2 1 137 rfl
theorem dX12_span_5 : decode cX12_span 5 = .ok (.ifCond .ne 5, 3) := o154p ac_cX12_span_0 5 0 5 rfl rfl
theorem dX12_span_8 : decode cX12_span 8 = .ok (.iconst (-1), 1) := o2 ac_cX12_span_0 8 rfl
theorem dX12_span_9 : decode cX12_span 9 = .ok (.ireturn, 1) := o172 ac_cX12_span_0 9 rfl
def kb_cX12_orbits_0 : List Nat := [42, 27, 182, 1, 137, 154, 0, 5, 2, 172, 42, 27, 182, 1, 161, 156, 0, 6, 16, 254]
theorem ac_cX12_orbits_0 : AL cX12_orbits 0 kb_cX12_orbits_0 := AL.of (m := 20) (by decide +kernel)
theorem dX12_orbits_0 : decode cX12_orbits 0 = .ok (.aload_n 0, 1) := o42 ac_cX12_orbits_0 0 rfl
theorem dX12_orbits_1 : decode cX12_orbits 1 = .ok (.iload_n 1, 1) := o27 ac_cX12_orbits_0 1 rfl
theorem dX12_orbits_2 : decode cX12_orbits 2 = .ok (.invokevirtual 393, 3) := o182 ac_cX12_orbits_0 2 1 137 rfl
theorem dX12_orbits_5 : decode cX12_orbits 5 = .ok (.ifCond .ne 5, 3) := o154p ac_cX12_orbits_0 5 0 5 rfl rfl
theorem dX12_orbits_8 : decode cX12_orbits 8 = .ok (.iconst (-1), 1) := o2 ac_cX12_orbits_0 8 rfl
theorem dX12_orbits_9 : decode cX12_orbits 9 = .ok (.ireturn, 1) := o172 ac_cX12_orbits_0 9 rfl
def kb_cX12_swaps_0 : List Nat := [42, 27, 182, 1, 137, 154, 0, 5, 2, 172, 3, 61, 3, 62, 29, 42, 27, 182, 1, 62]
theorem ac_cX12_swaps_0 : AL cX12_swaps 0 kb_cX12_swaps_0 := AL.of (m := 20) (by decide +kernel)
theorem dX12_swaps_0 : decode cX12_swaps 0 = .ok (.aload_n 0, 1) := o42 ac_cX12_swaps_0 0 rfl
theorem dX12_swaps_1 : decode cX12_swaps 1 = .ok (.iload_n 1, 1) := o27 ac_cX12_swaps_0 1 rfl
theorem dX12_swaps_2 : decode cX12_swaps 2 = .ok (.invokevirtual 393, 3) := o182 ac_cX12_swaps_0 2 1 137 rfl
theorem dX12_swaps_5 : decode cX12_swaps 5 = .ok (.ifCond .ne 5, 3) := o154p ac_cX12_swaps_0 5 0 5 rfl rfl
theorem dX12_swaps_8 : decode cX12_swaps 8 = .ok (.iconst (-1), 1) := o2 ac_cX12_swaps_0 8 rfl
theorem dX12_swaps_9 : decode cX12_swaps 9 = .ok (.ireturn, 1) := o172 ac_cX12_swaps_0 9 rfl
def kb_cX12_into_0 : List Nat := [42, 27, 182, 1, 137, 153, 0, 16, 42, 27, 182, 1, 161, 155, 0, 8, 28, 2, 162, 0]
theorem ac_cX12_into_0 : AL cX12_into 0 kb_cX12_into_0 := AL.of (m := 20) (by decide +kernel)
theorem dX12_into_0 : decode cX12_into 0 = .ok (.aload_n 0, 1) := o42 ac_cX12_into_0 0 rfl
theorem dX12_into_1 : decode cX12_into 1 = .ok (.iload_n 1, 1) := o27 ac_cX12_into_0 1 rfl
theorem dX12_into_2 : decode cX12_into 2 = .ok (.invokevirtual 393, 3) := o182 ac_cX12_into_0 2 1 137 rfl
theorem dX12_into_5 : decode cX12_into 5 = .ok (.ifCond .eq 16, 3) := o153p ac_cX12_into_0 5 0 16 rfl rfl
def kb_cX12_into_16 : List Nat := [28, 2, 162, 0, 5, 2, 172, 42, 182, 1, 179, 62, 42, 42, 27, 182, 1, 182, 182, 1]
theorem ac_cX12_into_16 : AL cX12_into 16 kb_cX12_into_16 := AL.of (m := 20) (by decide +kernel)
theorem dX12_into_21 : decode cX12_into 21 = .ok (.iconst (-1), 1) := o2 ac_cX12_into_16 5 rfl
theorem dX12_into_22 : decode cX12_into 22 = .ok (.ireturn, 1) := o172 ac_cX12_into_16 6 rfl
def kb_cX12_room_0 : List Nat := [42, 27, 182, 1, 134, 153, 0, 12, 42, 180, 0, 107, 27, 46, 154, 0, 5, 2, 172, 3]
theorem ac_cX12_room_0 : AL cX12_room 0 kb_cX12_room_0 := AL.of (m := 20) (by decide +kernel)
theorem dX12_room_0 : decode cX12_room 0 = .ok (.aload_n 0, 1) := o42 ac_cX12_room_0 0 rfl
theorem dX12_room_1 : decode cX12_room 1 = .ok (.iload_n 1, 1) := o27 ac_cX12_room_0 1 rfl
theorem dX12_room_2 : decode cX12_room 2 = .ok (.invokevirtual 390, 3) := o182 ac_cX12_room_0 2 1 134 rfl
theorem dX12_room_5 : decode cX12_room 5 = .ok (.ifCond .eq 12, 3) := o153p ac_cX12_room_0 5 0 12 rfl rfl
def kb_cX12_room_16 : List Nat := [5, 2, 172, 3, 61, 28, 16, 10, 162, 0, 20, 42, 27, 28, 182, 1, 195, 153, 0, 5]
theorem ac_cX12_room_16 : AL cX12_room 16 kb_cX12_room_16 := AL.of (m := 20) (by decide +kernel)
theorem dX12_room_17 : decode cX12_room 17 = .ok (.iconst (-1), 1) := o2 ac_cX12_room_16 1 rfl
theorem dX12_room_18 : decode cX12_room 18 = .ok (.ireturn, 1) := o172 ac_cX12_room_16 2 rfl
def kb_cX12_place_0 : List Nat := [42, 180, 0, 37, 172]
theorem ac_cX12_place_0 : AL cX12_place 0 kb_cX12_place_0 := AL.of (m := 5) (by decide +kernel)
theorem dX12_place_0 : decode cX12_place 0 = .ok (.aload_n 0, 1) := o42 ac_cX12_place_0 0 rfl
theorem dX12_place_1 : decode cX12_place 1 = .ok (.getfield 37, 3) := o180 ac_cX12_place_0 1 0 37 rfl
theorem dX12_place_4 : decode cX12_place 4 = .ok (.ireturn, 1) := o172 ac_cX12_place_0 4 rfl
def kb_cX12_forget_0 : List Nat := [42, 180, 0, 242, 60, 42, 3, 181, 0, 242, 27, 172]
theorem ac_cX12_forget_0 : AL cX12_forget 0 kb_cX12_forget_0 := AL.of (m := 12) (by decide +kernel)
theorem dX12_forget_0 : decode cX12_forget 0 = .ok (.aload_n 0, 1) := o42 ac_cX12_forget_0 0 rfl
theorem dX12_forget_1 : decode cX12_forget 1 = .ok (.getfield 242, 3) := o180 ac_cX12_forget_0 1 0 242 rfl
theorem dX12_forget_4 : decode cX12_forget 4 = .ok (.istore_n 1, 1) := o60 ac_cX12_forget_0 4 rfl
theorem dX12_forget_5 : decode cX12_forget 5 = .ok (.aload_n 0, 1) := o42 ac_cX12_forget_0 5 rfl
theorem dX12_forget_6 : decode cX12_forget 6 = .ok (.iconst 0, 1) := o3 ac_cX12_forget_0 6 rfl
theorem dX12_forget_7 : decode cX12_forget 7 = .ok (.putfield 242, 3) := o181 ac_cX12_forget_0 7 0 242 rfl
theorem dX12_forget_10 : decode cX12_forget 10 = .ok (.iload_n 1, 1) := o27 ac_cX12_forget_0 10 rfl
theorem dX12_forget_11 : decode cX12_forget 11 = .ok (.ireturn, 1) := o172 ac_cX12_forget_0 11 rfl
def kb_cX12_undo_0 : List Nat := [42, 180, 0, 239, 154, 0, 5, 3, 172, 42, 89, 180, 0, 239, 4, 100, 181, 0, 239, 3]
theorem ac_cX12_undo_0 : AL cX12_undo 0 kb_cX12_undo_0 := AL.of (m := 20) (by decide +kernel)
theorem dX12_undo_0 : decode cX12_undo 0 = .ok (.aload_n 0, 1) := o42 ac_cX12_undo_0 0 rfl
theorem dX12_undo_1 : decode cX12_undo 1 = .ok (.getfield 239, 3) := o180 ac_cX12_undo_0 1 0 239 rfl
theorem dX12_undo_4 : decode cX12_undo 4 = .ok (.ifCond .ne 5, 3) := o154p ac_cX12_undo_0 4 0 5 rfl rfl
theorem dX12_undo_7 : decode cX12_undo 7 = .ok (.iconst 0, 1) := o3 ac_cX12_undo_0 7 rfl
theorem dX12_undo_8 : decode cX12_undo 8 = .ok (.ireturn, 1) := o172 ac_cX12_undo_0 8 rfl
def kb_cX12_lands_0 : List Nat := [42, 182, 1, 55, 3, 60, 3, 61, 28, 16, 10, 162, 0, 23, 42, 28, 182, 1, 170, 158]
theorem ac_cX12_lands_0 : AL cX12_lands 0 kb_cX12_lands_0 := AL.of (m := 20) (by decide +kernel)
theorem dX12_lands_0 : decode cX12_lands 0 = .ok (.aload_n 0, 1) := o42 ac_cX12_lands_0 0 rfl
theorem dX12_lands_1 : decode cX12_lands 1 = .ok (.invokevirtual 311, 3) := o182 ac_cX12_lands_0 1 1 55 rfl
theorem dX12_lands_4 : decode cX12_lands 4 = .ok (.iconst 0, 1) := o3 ac_cX12_lands_0 4 rfl
theorem dX12_lands_5 : decode cX12_lands 5 = .ok (.istore_n 1, 1) := o60 ac_cX12_lands_0 5 rfl
theorem dX12_lands_6 : decode cX12_lands 6 = .ok (.iconst 0, 1) := o3 ac_cX12_lands_0 6 rfl
theorem dX12_lands_7 : decode cX12_lands 7 = .ok (.istore_n 2, 1) := o61 ac_cX12_lands_0 7 rfl
theorem dX12_lands_8 : decode cX12_lands 8 = .ok (.iload_n 2, 1) := o28 ac_cX12_lands_0 8 rfl
theorem dX12_lands_9 : decode cX12_lands 9 = .ok (.bipush 10, 2) := o16p ac_cX12_lands_0 9 10 rfl rfl
theorem dX12_lands_11 : decode cX12_lands 11 = .ok (.if_icmp .ge 23, 3) := o162p ac_cX12_lands_0 11 0 23 rfl rfl
theorem dX12_lands_14 : decode cX12_lands 14 = .ok (.aload_n 0, 1) := o42 ac_cX12_lands_0 14 rfl
theorem dX12_lands_15 : decode cX12_lands 15 = .ok (.iload_n 2, 1) := o28 ac_cX12_lands_0 15 rfl
def kb_cX12_lands_16 : List Nat := [182, 1, 170, 158, 0, 9, 27, 4, 28, 120, 128, 60, 132, 2, 1, 167, 255, 233, 27, 172]
theorem ac_cX12_lands_16 : AL cX12_lands 16 kb_cX12_lands_16 := AL.of (m := 20) (by decide +kernel)
theorem dX12_lands_16 : decode cX12_lands 16 = .ok (.invokevirtual 426, 3) := o182 ac_cX12_lands_16 0 1 170 rfl
theorem dX12_lands_19 : decode cX12_lands 19 = .ok (.ifCond .le 9, 3) := o158p ac_cX12_lands_16 3 0 9 rfl rfl
theorem dX12_lands_28 : decode cX12_lands 28 = .ok (.iinc 2 1, 3) := o132p ac_cX12_lands_16 12 2 1 rfl rfl
theorem dX12_lands_31 : decode cX12_lands 31 = .ok (.goto (-23), 3) := o167n ac_cX12_lands_16 15 255 233 22 rfl rfl rfl
def kb_cX12_lands_32 : List Nat := [255, 233, 27, 172]
theorem ac_cX12_lands_32 : AL cX12_lands 32 kb_cX12_lands_32 := AL.of (m := 4) (by decide +kernel)
theorem dX12_lands_34 : decode cX12_lands 34 = .ok (.iload_n 1, 1) := o27 ac_cX12_lands_32 2 rfl
theorem dX12_lands_35 : decode cX12_lands 35 = .ok (.ireturn, 1) := o172 ac_cX12_lands_32 3 rfl
def kb_cX12_gap_0 : List Nat := [42, 182, 1, 173, 3, 60, 27, 16, 60, 163, 0, 22, 42, 182, 1, 131, 42, 180, 1, 85]
theorem ac_cX12_gap_0 : AL cX12_gap 0 kb_cX12_gap_0 := AL.of (m := 20) (by decide +kernel)
theorem dX12_gap_0 : decode cX12_gap 0 = .ok (.aload_n 0, 1) := o42 ac_cX12_gap_0 0 rfl
theorem dX12_gap_1 : decode cX12_gap 1 = .ok (.invokevirtual 429, 3) := o182 ac_cX12_gap_0 1 1 173 rfl
theorem dX12_gap_4 : decode cX12_gap 4 = .ok (.iconst 0, 1) := o3 ac_cX12_gap_0 4 rfl
theorem dX12_gap_5 : decode cX12_gap 5 = .ok (.istore_n 1, 1) := o60 ac_cX12_gap_0 5 rfl
theorem dX12_gap_6 : decode cX12_gap 6 = .ok (.iload_n 1, 1) := o27 ac_cX12_gap_0 6 rfl
theorem dX12_gap_7 : decode cX12_gap 7 = .ok (.bipush 60, 2) := o16p ac_cX12_gap_0 7 60 rfl rfl
theorem dX12_gap_9 : decode cX12_gap 9 = .ok (.if_icmp .gt 22, 3) := o163p ac_cX12_gap_0 9 0 22 rfl rfl
theorem dX12_gap_12 : decode cX12_gap 12 = .ok (.aload_n 0, 1) := o42 ac_cX12_gap_0 12 rfl
theorem dX12_gap_13 : decode cX12_gap 13 = .ok (.invokevirtual 387, 3) := o182 ac_cX12_gap_0 13 1 131 rfl
def kb_cX12_gap_16 : List Nat := [42, 180, 1, 85, 156, 0, 5, 27, 172, 132, 1, 1, 167, 255, 234, 16, 254, 172]
theorem ac_cX12_gap_16 : AL cX12_gap 16 kb_cX12_gap_16 := AL.of (m := 18) (by decide +kernel)
theorem dX12_gap_16 : decode cX12_gap 16 = .ok (.aload_n 0, 1) := o42 ac_cX12_gap_16 0 rfl
theorem dX12_gap_17 : decode cX12_gap 17 = .ok (.getfield 341, 3) := o180 ac_cX12_gap_16 1 1 85 rfl
theorem dX12_gap_20 : decode cX12_gap 20 = .ok (.ifCond .ge 5, 3) := o156p ac_cX12_gap_16 4 0 5 rfl rfl
theorem dX12_gap_23 : decode cX12_gap 23 = .ok (.iload_n 1, 1) := o27 ac_cX12_gap_16 7 rfl
theorem dX12_gap_24 : decode cX12_gap 24 = .ok (.ireturn, 1) := o172 ac_cX12_gap_16 8 rfl
def kb_cX12_handover_0 : List Nat := [42, 182, 1, 173, 42, 3, 182, 1, 94, 60, 3, 61, 28, 16, 60, 163, 0, 50, 27, 154]
theorem ac_cX12_handover_0 : AL cX12_handover 0 kb_cX12_handover_0 := AL.of (m := 20) (by decide +kernel)
theorem dX12_handover_0 : decode cX12_handover 0 = .ok (.aload_n 0, 1) := o42 ac_cX12_handover_0 0 rfl
theorem dX12_handover_1 : decode cX12_handover 1 = .ok (.invokevirtual 429, 3) := o182 ac_cX12_handover_0 1 1 173 rfl
theorem dX12_handover_4 : decode cX12_handover 4 = .ok (.aload_n 0, 1) := o42 ac_cX12_handover_0 4 rfl
theorem dX12_handover_5 : decode cX12_handover 5 = .ok (.iconst 0, 1) := o3 ac_cX12_handover_0 5 rfl
theorem dX12_handover_6 : decode cX12_handover 6 = .ok (.invokevirtual 350, 3) := o182 ac_cX12_handover_0 6 1 94 rfl
theorem dX12_handover_9 : decode cX12_handover 9 = .ok (.istore_n 1, 1) := o60 ac_cX12_handover_0 9 rfl
theorem dX12_handover_10 : decode cX12_handover 10 = .ok (.iconst 0, 1) := o3 ac_cX12_handover_0 10 rfl
theorem dX12_handover_11 : decode cX12_handover 11 = .ok (.istore_n 2, 1) := o61 ac_cX12_handover_0 11 rfl
theorem dX12_handover_12 : decode cX12_handover 12 = .ok (.iload_n 2, 1) := o28 ac_cX12_handover_0 12 rfl
theorem dX12_handover_13 : decode cX12_handover 13 = .ok (.bipush 60, 2) := o16p ac_cX12_handover_0 13 60 rfl rfl
theorem dX12_handover_15 : decode cX12_handover 15 = .ok (.if_icmp .gt 50, 3) := o163p ac_cX12_handover_0 15 0 50 rfl rfl
def kb_cX12_handover_16 : List Nat := [0, 50, 27, 154, 0, 5, 28, 172, 42, 182, 1, 131, 42, 180, 1, 85, 155, 0, 14, 27]
theorem ac_cX12_handover_16 : AL cX12_handover 16 kb_cX12_handover_16 := AL.of (m := 20) (by decide +kernel)
theorem dX12_handover_18 : decode cX12_handover 18 = .ok (.iload_n 1, 1) := o27 ac_cX12_handover_16 2 rfl
theorem dX12_handover_19 : decode cX12_handover 19 = .ok (.ifCond .ne 5, 3) := o154p ac_cX12_handover_16 3 0 5 rfl rfl
theorem dX12_handover_22 : decode cX12_handover 22 = .ok (.iload_n 2, 1) := o28 ac_cX12_handover_16 6 rfl
theorem dX12_handover_23 : decode cX12_handover 23 = .ok (.ireturn, 1) := o172 ac_cX12_handover_16 7 rfl
def kb_cX12_down_0 : List Nat := [42, 182, 1, 173, 3, 60, 27, 17, 0, 200, 163, 0, 23, 42, 3, 182, 1, 94, 154, 0]
theorem ac_cX12_down_0 : AL cX12_down 0 kb_cX12_down_0 := AL.of (m := 20) (by decide +kernel)
theorem dX12_down_0 : decode cX12_down 0 = .ok (.aload_n 0, 1) := o42 ac_cX12_down_0 0 rfl
theorem dX12_down_1 : decode cX12_down 1 = .ok (.invokevirtual 429, 3) := o182 ac_cX12_down_0 1 1 173 rfl
theorem dX12_down_4 : decode cX12_down 4 = .ok (.iconst 0, 1) := o3 ac_cX12_down_0 4 rfl
theorem dX12_down_5 : decode cX12_down 5 = .ok (.istore_n 1, 1) := o60 ac_cX12_down_0 5 rfl
theorem dX12_down_6 : decode cX12_down 6 = .ok (.iload_n 1, 1) := o27 ac_cX12_down_0 6 rfl
theorem dX12_down_7 : decode cX12_down 7 = .ok (.sipush 200, 3) := o17p ac_cX12_down_0 7 0 200 rfl rfl
theorem dX12_down_10 : decode cX12_down 10 = .ok (.if_icmp .gt 23, 3) := o163p ac_cX12_down_0 10 0 23 rfl rfl
theorem dX12_down_13 : decode cX12_down 13 = .ok (.aload_n 0, 1) := o42 ac_cX12_down_0 13 rfl
theorem dX12_down_14 : decode cX12_down 14 = .ok (.iconst 0, 1) := o3 ac_cX12_down_0 14 rfl
theorem dX12_down_15 : decode cX12_down 15 = .ok (.invokevirtual 350, 3) := o182 ac_cX12_down_0 15 1 94 rfl
def kb_cX12_down_16 : List Nat := [1, 94, 154, 0, 5, 27, 172, 42, 182, 1, 131, 132, 1, 1, 167, 255, 232, 16, 254, 172]
theorem ac_cX12_down_16 : AL cX12_down 16 kb_cX12_down_16 := AL.of (m := 20) (by decide +kernel)
theorem dX12_down_18 : decode cX12_down 18 = .ok (.ifCond .ne 5, 3) := o154p ac_cX12_down_16 2 0 5 rfl rfl
theorem dX12_down_21 : decode cX12_down 21 = .ok (.iload_n 1, 1) := o27 ac_cX12_down_16 5 rfl
theorem dX12_down_22 : decode cX12_down 22 = .ok (.ireturn, 1) := o172 ac_cX12_down_16 6 rfl
def kb_cX12_put_0 : List Nat := [16, 24, 61, 28, 155, 0, 32, 42, 180, 0, 13, 42, 180, 0, 154, 27, 28, 122, 145, 84]
theorem ac_cX12_put_0 : AL cX12_put 0 kb_cX12_put_0 := AL.of (m := 20) (by decide +kernel)
theorem dX12_put_0 : decode cX12_put 0 = .ok (.bipush 24, 2) := o16p ac_cX12_put_0 0 24 rfl rfl
theorem dX12_put_2 : decode cX12_put 2 = .ok (.istore_n 2, 1) := o61 ac_cX12_put_0 2 rfl
theorem dX12_put_3 : decode cX12_put 3 = .ok (.iload_n 2, 1) := o28 ac_cX12_put_0 3 rfl
theorem dX12_put_4 : decode cX12_put 4 = .ok (.ifCond .lt 32, 3) := o155p ac_cX12_put_0 4 0 32 rfl rfl
theorem dX12_put_7 : decode cX12_put 7 = .ok (.aload_n 0, 1) := o42 ac_cX12_put_0 7 rfl
theorem dX12_put_8 : decode cX12_put 8 = .ok (.getfield 13, 3) := o180 ac_cX12_put_0 8 0 13 rfl
theorem dX12_put_11 : decode cX12_put 11 = .ok (.aload_n 0, 1) := o42 ac_cX12_put_0 11 rfl
theorem dX12_put_12 : decode cX12_put 12 = .ok (.getfield 154, 3) := o180 ac_cX12_put_0 12 0 154 rfl
theorem dX12_put_15 : decode cX12_put 15 = .ok (.iload_n 1, 1) := o27 ac_cX12_put_0 15 rfl
def kb_cX12_put_16 : List Nat := [28, 122, 145, 84, 42, 89, 180, 0, 154, 4, 96, 181, 0, 154, 132, 2, 248, 167, 255, 226]
theorem ac_cX12_put_16 : AL cX12_put 16 kb_cX12_put_16 := AL.of (m := 20) (by decide +kernel)
theorem dX12_put_16 : decode cX12_put 16 = .ok (.iload_n 2, 1) := o28 ac_cX12_put_16 0 rfl
theorem dX12_put_17 : decode cX12_put 17 = .ok (.ishr, 1) := o122 ac_cX12_put_16 1 rfl
theorem dX12_put_18 : decode cX12_put 18 = .ok (.i2b, 1) := o145 ac_cX12_put_16 2 rfl
theorem dX12_put_19 : decode cX12_put 19 = .ok (.bastore, 1) := o84 ac_cX12_put_16 3 rfl
theorem dX12_put_20 : decode cX12_put 20 = .ok (.aload_n 0, 1) := o42 ac_cX12_put_16 4 rfl
theorem dX12_put_21 : decode cX12_put 21 = .ok (.dup, 1) := o89 ac_cX12_put_16 5 rfl
theorem dX12_put_22 : decode cX12_put 22 = .ok (.getfield 154, 3) := o180 ac_cX12_put_16 6 0 154 rfl
theorem dX12_put_25 : decode cX12_put 25 = .ok (.iconst 1, 1) := o4 ac_cX12_put_16 9 rfl
theorem dX12_put_26 : decode cX12_put 26 = .ok (.iadd, 1) := o96 ac_cX12_put_16 10 rfl
theorem dX12_put_27 : decode cX12_put 27 = .ok (.putfield 154, 3) := o181 ac_cX12_put_16 11 0 154 rfl
theorem dX12_put_30 : decode cX12_put 30 = .ok (.iinc 2 (-8), 3) := o132n ac_cX12_put_16 14 2 248 7 rfl rfl rfl
def kb_cX12_put_32 : List Nat := [248, 167, 255, 226, 177]
theorem ac_cX12_put_32 : AL cX12_put 32 kb_cX12_put_32 := AL.of (m := 5) (by decide +kernel)
theorem dX12_put_33 : decode cX12_put 33 = .ok (.goto (-30), 3) := o167n ac_cX12_put_32 1 255 226 29 rfl rfl rfl
theorem dX12_put_36 : decode cX12_put 36 = .ok (.return_, 1) := o177 ac_cX12_put_32 4 rfl
def kb_cX12_feed_0 : List Nat := [42, 180, 0, 154, 16, 20, 96, 17, 7, 208, 164, 0, 5, 2, 172, 42, 27, 182, 0, 157]
theorem ac_cX12_feed_0 : AL cX12_feed 0 kb_cX12_feed_0 := AL.of (m := 20) (by decide +kernel)
theorem dX12_feed_0 : decode cX12_feed 0 = .ok (.aload_n 0, 1) := o42 ac_cX12_feed_0 0 rfl
theorem dX12_feed_1 : decode cX12_feed 1 = .ok (.getfield 154, 3) := o180 ac_cX12_feed_0 1 0 154 rfl
theorem dX12_feed_4 : decode cX12_feed 4 = .ok (.bipush 20, 2) := o16p ac_cX12_feed_0 4 20 rfl rfl
theorem dX12_feed_6 : decode cX12_feed 6 = .ok (.iadd, 1) := o96 ac_cX12_feed_0 6 rfl
theorem dX12_feed_7 : decode cX12_feed 7 = .ok (.sipush 2000, 3) := o17p ac_cX12_feed_0 7 7 208 rfl rfl
theorem dX12_feed_10 : decode cX12_feed 10 = .ok (.if_icmp .le 5, 3) := o164p ac_cX12_feed_0 10 0 5 rfl rfl
theorem dX12_feed_15 : decode cX12_feed 15 = .ok (.aload_n 0, 1) := o42 ac_cX12_feed_0 15 rfl
def kb_cX12_feed_16 : List Nat := [27, 182, 0, 157, 42, 28, 182, 0, 157, 42, 29, 182, 0, 157, 42, 21, 4, 182, 0, 157]
theorem ac_cX12_feed_16 : AL cX12_feed 16 kb_cX12_feed_16 := AL.of (m := 20) (by decide +kernel)
theorem dX12_feed_16 : decode cX12_feed 16 = .ok (.iload_n 1, 1) := o27 ac_cX12_feed_16 0 rfl
theorem dX12_feed_17 : decode cX12_feed 17 = .ok (.invokevirtual 157, 3) := o182 ac_cX12_feed_16 1 0 157 rfl
theorem dX12_feed_20 : decode cX12_feed 20 = .ok (.aload_n 0, 1) := o42 ac_cX12_feed_16 4 rfl
theorem dX12_feed_21 : decode cX12_feed 21 = .ok (.iload_n 2, 1) := o28 ac_cX12_feed_16 5 rfl
theorem dX12_feed_22 : decode cX12_feed 22 = .ok (.invokevirtual 157, 3) := o182 ac_cX12_feed_16 6 0 157 rfl
theorem dX12_feed_25 : decode cX12_feed 25 = .ok (.aload_n 0, 1) := o42 ac_cX12_feed_16 9 rfl
theorem dX12_feed_26 : decode cX12_feed 26 = .ok (.iload_n 3, 1) := o29 ac_cX12_feed_16 10 rfl
theorem dX12_feed_27 : decode cX12_feed 27 = .ok (.invokevirtual 157, 3) := o182 ac_cX12_feed_16 11 0 157 rfl
theorem dX12_feed_30 : decode cX12_feed 30 = .ok (.aload_n 0, 1) := o42 ac_cX12_feed_16 14 rfl
theorem dX12_feed_31 : decode cX12_feed 31 = .ok (.iload 4, 2) := o21 ac_cX12_feed_16 15 4 rfl
def kb_cX12_feed_32 : List Nat := [4, 182, 0, 157, 42, 21, 5, 182, 0, 157, 42, 180, 0, 154, 172]
theorem ac_cX12_feed_32 : AL cX12_feed 32 kb_cX12_feed_32 := AL.of (m := 15) (by decide +kernel)
theorem dX12_feed_33 : decode cX12_feed 33 = .ok (.invokevirtual 157, 3) := o182 ac_cX12_feed_32 1 0 157 rfl
theorem dX12_feed_36 : decode cX12_feed 36 = .ok (.aload_n 0, 1) := o42 ac_cX12_feed_32 4 rfl
theorem dX12_feed_37 : decode cX12_feed 37 = .ok (.iload 5, 2) := o21 ac_cX12_feed_32 5 5 rfl
theorem dX12_feed_39 : decode cX12_feed 39 = .ok (.invokevirtual 157, 3) := o182 ac_cX12_feed_32 7 0 157 rfl
theorem dX12_feed_42 : decode cX12_feed 42 = .ok (.aload_n 0, 1) := o42 ac_cX12_feed_32 10 rfl
theorem dX12_feed_43 : decode cX12_feed 43 = .ok (.getfield 154, 3) := o180 ac_cX12_feed_32 11 0 154 rfl
theorem dX12_feed_46 : decode cX12_feed 46 = .ok (.ireturn, 1) := o172 ac_cX12_feed_32 14 rfl
def kb_cX12_back_0 : List Nat := [27, 155, 0, 11, 27, 42, 180, 0, 154, 164, 0, 5, 2, 172, 42, 89, 180, 0, 154, 27]
theorem ac_cX12_back_0 : AL cX12_back 0 kb_cX12_back_0 := AL.of (m := 20) (by decide +kernel)
theorem dX12_back_0 : decode cX12_back 0 = .ok (.iload_n 1, 1) := o27 ac_cX12_back_0 0 rfl
theorem dX12_back_1 : decode cX12_back 1 = .ok (.ifCond .lt 11, 3) := o155p ac_cX12_back_0 1 0 11 rfl rfl
theorem dX12_back_4 : decode cX12_back 4 = .ok (.iload_n 1, 1) := o27 ac_cX12_back_0 4 rfl
theorem dX12_back_5 : decode cX12_back 5 = .ok (.aload_n 0, 1) := o42 ac_cX12_back_0 5 rfl
theorem dX12_back_6 : decode cX12_back 6 = .ok (.getfield 154, 3) := o180 ac_cX12_back_0 6 0 154 rfl
theorem dX12_back_9 : decode cX12_back 9 = .ok (.if_icmp .le 5, 3) := o164p ac_cX12_back_0 9 0 5 rfl rfl
theorem dX12_back_14 : decode cX12_back 14 = .ok (.aload_n 0, 1) := o42 ac_cX12_back_0 14 rfl
theorem dX12_back_15 : decode cX12_back 15 = .ok (.dup, 1) := o89 ac_cX12_back_0 15 rfl
def kb_cX12_back_16 : List Nat := [180, 0, 154, 27, 100, 181, 0, 154, 42, 180, 0, 154, 172]
theorem ac_cX12_back_16 : AL cX12_back 16 kb_cX12_back_16 := AL.of (m := 13) (by decide +kernel)
theorem dX12_back_16 : decode cX12_back 16 = .ok (.getfield 154, 3) := o180 ac_cX12_back_16 0 0 154 rfl
theorem dX12_back_19 : decode cX12_back 19 = .ok (.iload_n 1, 1) := o27 ac_cX12_back_16 3 rfl
theorem dX12_back_20 : decode cX12_back 20 = .ok (.isub, 1) := o100 ac_cX12_back_16 4 rfl
theorem dX12_back_21 : decode cX12_back 21 = .ok (.putfield 154, 3) := o181 ac_cX12_back_16 5 0 154 rfl
theorem dX12_back_24 : decode cX12_back 24 = .ok (.aload_n 0, 1) := o42 ac_cX12_back_16 8 rfl
theorem dX12_back_25 : decode cX12_back 25 = .ok (.getfield 154, 3) := o180 ac_cX12_back_16 9 0 154 rfl
theorem dX12_back_28 : decode cX12_back 28 = .ok (.ireturn, 1) := o172 ac_cX12_back_16 12 rfl
theorem dX12_back_12 : decode cX12_back 12 = .ok (.iconst (-1), 1) := o2 ac_cX12_back_0 12 rfl
theorem dX12_back_13 : decode cX12_back 13 = .ok (.ireturn, 1) := o172 ac_cX12_back_0 13 rfl
def kb_cX12_tell_0 : List Nat := [42, 180, 0, 242, 16, 20, 159, 0, 13, 27, 3, 16, 40, 184, 1, 45, 154, 0, 5, 2]
theorem ac_cX12_tell_0 : AL cX12_tell 0 kb_cX12_tell_0 := AL.of (m := 20) (by decide +kernel)
theorem dX12_tell_0 : decode cX12_tell 0 = .ok (.aload_n 0, 1) := o42 ac_cX12_tell_0 0 rfl
theorem dX12_tell_1 : decode cX12_tell 1 = .ok (.getfield 242, 3) := o180 ac_cX12_tell_0 1 0 242 rfl
theorem dX12_tell_4 : decode cX12_tell 4 = .ok (.bipush 20, 2) := o16p ac_cX12_tell_0 4 20 rfl rfl
theorem dX12_tell_6 : decode cX12_tell 6 = .ok (.if_icmp .eq 13, 3) := o159p ac_cX12_tell_0 6 0 13 rfl rfl
theorem dX12_tell_9 : decode cX12_tell 9 = .ok (.iload_n 1, 1) := o27 ac_cX12_tell_0 9 rfl
theorem dX12_tell_10 : decode cX12_tell 10 = .ok (.iconst 0, 1) := o3 ac_cX12_tell_0 10 rfl
theorem dX12_tell_11 : decode cX12_tell 11 = .ok (.bipush 40, 2) := o16p ac_cX12_tell_0 11 40 rfl rfl
theorem dX12_tell_13 : decode cX12_tell 13 = .ok (.invokestatic 301, 3) := o184 ac_cX12_tell_0 13 1 45 rfl
def kb_cX12_tell_16 : List Nat := [154, 0, 5, 2, 172, 42, 180, 0, 125, 42, 180, 0, 242, 27, 79, 42, 180, 0, 128, 42]
theorem ac_cX12_tell_16 : AL cX12_tell 16 kb_cX12_tell_16 := AL.of (m := 20) (by decide +kernel)
theorem dX12_tell_16 : decode cX12_tell 16 = .ok (.ifCond .ne 5, 3) := o154p ac_cX12_tell_16 0 0 5 rfl rfl
theorem dX12_tell_21 : decode cX12_tell 21 = .ok (.aload_n 0, 1) := o42 ac_cX12_tell_16 5 rfl
theorem dX12_tell_22 : decode cX12_tell 22 = .ok (.getfield 125, 3) := o180 ac_cX12_tell_16 6 0 125 rfl
theorem dX12_tell_25 : decode cX12_tell 25 = .ok (.aload_n 0, 1) := o42 ac_cX12_tell_16 9 rfl
theorem dX12_tell_26 : decode cX12_tell 26 = .ok (.getfield 242, 3) := o180 ac_cX12_tell_16 10 0 242 rfl
theorem dX12_tell_29 : decode cX12_tell 29 = .ok (.iload_n 1, 1) := o27 ac_cX12_tell_16 13 rfl
theorem dX12_tell_30 : decode cX12_tell 30 = .ok (.iastore, 1) := o79 ac_cX12_tell_16 14 rfl
theorem dX12_tell_31 : decode cX12_tell 31 = .ok (.aload_n 0, 1) := o42 ac_cX12_tell_16 15 rfl
def kb_cX12_tell_32 : List Nat := [180, 0, 128, 42, 180, 0, 242, 28, 84, 42, 89, 180, 0, 242, 4, 96, 181, 0, 242, 42]
theorem ac_cX12_tell_32 : AL cX12_tell 32 kb_cX12_tell_32 := AL.of (m := 20) (by decide +kernel)
theorem dX12_tell_32 : decode cX12_tell 32 = .ok (.getfield 128, 3) := o180 ac_cX12_tell_32 0 0 128 rfl
theorem dX12_tell_35 : decode cX12_tell 35 = .ok (.aload_n 0, 1) := o42 ac_cX12_tell_32 3 rfl
theorem dX12_tell_36 : decode cX12_tell 36 = .ok (.getfield 242, 3) := o180 ac_cX12_tell_32 4 0 242 rfl
theorem dX12_tell_39 : decode cX12_tell 39 = .ok (.iload_n 2, 1) := o28 ac_cX12_tell_32 7 rfl
theorem dX12_tell_40 : decode cX12_tell 40 = .ok (.bastore, 1) := o84 ac_cX12_tell_32 8 rfl
theorem dX12_tell_41 : decode cX12_tell 41 = .ok (.aload_n 0, 1) := o42 ac_cX12_tell_32 9 rfl
theorem dX12_tell_42 : decode cX12_tell 42 = .ok (.dup, 1) := o89 ac_cX12_tell_32 10 rfl
theorem dX12_tell_43 : decode cX12_tell 43 = .ok (.getfield 242, 3) := o180 ac_cX12_tell_32 11 0 242 rfl
theorem dX12_tell_46 : decode cX12_tell 46 = .ok (.iconst 1, 1) := o4 ac_cX12_tell_32 14 rfl
theorem dX12_tell_47 : decode cX12_tell 47 = .ok (.iadd, 1) := o96 ac_cX12_tell_32 15 rfl
def kb_cX12_tell_48 : List Nat := [181, 0, 242, 42, 180, 0, 242, 4, 100, 172]
theorem ac_cX12_tell_48 : AL cX12_tell 48 kb_cX12_tell_48 := AL.of (m := 10) (by decide +kernel)
theorem dX12_tell_48 : decode cX12_tell 48 = .ok (.putfield 242, 3) := o181 ac_cX12_tell_48 0 0 242 rfl
theorem dX12_tell_51 : decode cX12_tell 51 = .ok (.aload_n 0, 1) := o42 ac_cX12_tell_48 3 rfl
theorem dX12_tell_52 : decode cX12_tell 52 = .ok (.getfield 242, 3) := o180 ac_cX12_tell_48 4 0 242 rfl
theorem dX12_tell_55 : decode cX12_tell 55 = .ok (.iconst 1, 1) := o4 ac_cX12_tell_48 7 rfl
theorem dX12_tell_56 : decode cX12_tell 56 = .ok (.isub, 1) := o100 ac_cX12_tell_48 8 rfl
theorem dX12_tell_57 : decode cX12_tell 57 = .ok (.ireturn, 1) := o172 ac_cX12_tell_48 9 rfl
theorem dX12_tell_19 : decode cX12_tell 19 = .ok (.iconst (-1), 1) := o2 ac_cX12_tell_16 3 rfl
theorem dX12_tell_20 : decode cX12_tell 20 = .ok (.ireturn, 1) := o172 ac_cX12_tell_16 4 rfl
def kb_cX12_count_0 : List Nat := [42, 182, 1, 55, 27, 170, 0, 0, 0, 0, 0, 244, 0, 0, 0, 0, 0, 0, 0, 17]
theorem ac_cX12_count_0 : AL cX12_count 0 kb_cX12_count_0 := AL.of (m := 20) (by decide +kernel)
theorem dX12_count_0 : decode cX12_count 0 = .ok (.aload_n 0, 1) := o42 ac_cX12_count_0 0 rfl
theorem dX12_count_1 : decode cX12_count 1 = .ok (.invokevirtual 311, 3) := o182 ac_cX12_count_0 1 1 55 rfl
theorem dX12_count_4 : decode cX12_count 4 = .ok (.iload_n 1, 1) := o27 ac_cX12_count_0 4 rfl
theorem dX12_count_5 : decode cX12_count 5 = .ok (.tableswitch 244 0 17 #[87, 97, 107, 115, 123, 129, 135, 135, 135, 145, 153, 158, 163, 168, 173, 218, 228, 238], 87) := by decide +kernel
def kb_cX12_count_80 : List Nat := [0, 0, 0, 218, 0, 0, 0, 228, 0, 0, 0, 238, 42, 180, 0, 43, 42, 180, 0, 221]
theorem ac_cX12_count_80 : AL cX12_count 80 kb_cX12_count_80 := AL.of (m := 20) (by decide +kernel)
theorem dX12_count_92 : decode cX12_count 92 = .ok (.aload_n 0, 1) := o42 ac_cX12_count_80 12 rfl
theorem dX12_count_93 : decode cX12_count 93 = .ok (.getfield 43, 3) := o180 ac_cX12_count_80 13 0 43 rfl
def kb_cX12_count_96 : List Nat := [42, 180, 0, 221, 46, 172, 42, 180, 0, 55, 42, 180, 0, 221, 46, 172, 42, 180, 0, 110]
theorem ac_cX12_count_96 : AL cX12_count 96 kb_cX12_count_96 := AL.of (m := 20) (by decide +kernel)
theorem dX12_count_96 : decode cX12_count 96 = .ok (.aload_n 0, 1) := o42 ac_cX12_count_96 0 rfl
theorem dX12_count_97 : decode cX12_count 97 = .ok (.getfield 221, 3) := o180 ac_cX12_count_96 1 0 221 rfl
theorem dX12_count_100 : decode cX12_count 100 = .ok (.iaload, 1) := o46 ac_cX12_count_96 4 rfl
theorem dX12_count_101 : decode cX12_count 101 = .ok (.ireturn, 1) := o172 ac_cX12_count_96 5 rfl
theorem dX12_count_102 : decode cX12_count 102 = .ok (.aload_n 0, 1) := o42 ac_cX12_count_96 6 rfl
theorem dX12_count_103 : decode cX12_count 103 = .ok (.getfield 55, 3) := o180 ac_cX12_count_96 7 0 55 rfl
theorem dX12_count_106 : decode cX12_count 106 = .ok (.aload_n 0, 1) := o42 ac_cX12_count_96 10 rfl
theorem dX12_count_107 : decode cX12_count 107 = .ok (.getfield 221, 3) := o180 ac_cX12_count_96 11 0 221 rfl
theorem dX12_count_110 : decode cX12_count 110 = .ok (.iaload, 1) := o46 ac_cX12_count_96 14 rfl
theorem dX12_count_111 : decode cX12_count 111 = .ok (.ireturn, 1) := o172 ac_cX12_count_96 15 rfl
def kb_cX12_count_112 : List Nat := [42, 180, 0, 110, 16, 21, 46, 172, 42, 180, 0, 110, 16, 22, 46, 172, 42, 3, 182, 1]
theorem ac_cX12_count_112 : AL cX12_count 112 kb_cX12_count_112 := AL.of (m := 20) (by decide +kernel)
theorem dX12_count_112 : decode cX12_count 112 = .ok (.aload_n 0, 1) := o42 ac_cX12_count_112 0 rfl
theorem dX12_count_113 : decode cX12_count 113 = .ok (.getfield 110, 3) := o180 ac_cX12_count_112 1 0 110 rfl
theorem dX12_count_116 : decode cX12_count 116 = .ok (.bipush 21, 2) := o16p ac_cX12_count_112 4 21 rfl rfl
theorem dX12_count_118 : decode cX12_count 118 = .ok (.iaload, 1) := o46 ac_cX12_count_112 6 rfl
theorem dX12_count_119 : decode cX12_count 119 = .ok (.ireturn, 1) := o172 ac_cX12_count_112 7 rfl
theorem dX12_count_120 : decode cX12_count 120 = .ok (.aload_n 0, 1) := o42 ac_cX12_count_112 8 rfl
theorem dX12_count_121 : decode cX12_count 121 = .ok (.getfield 110, 3) := o180 ac_cX12_count_112 9 0 110 rfl
theorem dX12_count_124 : decode cX12_count 124 = .ok (.bipush 22, 2) := o16p ac_cX12_count_112 12 22 rfl rfl
theorem dX12_count_126 : decode cX12_count 126 = .ok (.iaload, 1) := o46 ac_cX12_count_112 14 rfl
theorem dX12_count_127 : decode cX12_count 127 = .ok (.ireturn, 1) := o172 ac_cX12_count_112 15 rfl
def kb_cX12_count_128 : List Nat := [42, 3, 182, 1, 94, 172, 42, 5, 182, 1, 94, 172, 42, 180, 0, 110, 16, 17, 27, 96]
theorem ac_cX12_count_128 : AL cX12_count 128 kb_cX12_count_128 := AL.of (m := 20) (by decide +kernel)
theorem dX12_count_128 : decode cX12_count 128 = .ok (.aload_n 0, 1) := o42 ac_cX12_count_128 0 rfl
theorem dX12_count_129 : decode cX12_count 129 = .ok (.iconst 0, 1) := o3 ac_cX12_count_128 1 rfl
theorem dX12_count_130 : decode cX12_count 130 = .ok (.invokevirtual 350, 3) := o182 ac_cX12_count_128 2 1 94 rfl
theorem dX12_count_133 : decode cX12_count 133 = .ok (.ireturn, 1) := o172 ac_cX12_count_128 5 rfl
theorem dX12_count_134 : decode cX12_count 134 = .ok (.aload_n 0, 1) := o42 ac_cX12_count_128 6 rfl
theorem dX12_count_135 : decode cX12_count 135 = .ok (.iconst 2, 1) := o5 ac_cX12_count_128 7 rfl
theorem dX12_count_136 : decode cX12_count 136 = .ok (.invokevirtual 350, 3) := o182 ac_cX12_count_128 8 1 94 rfl
theorem dX12_count_139 : decode cX12_count 139 = .ok (.ireturn, 1) := o172 ac_cX12_count_128 11 rfl
theorem dX12_count_140 : decode cX12_count 140 = .ok (.aload_n 0, 1) := o42 ac_cX12_count_128 12 rfl
theorem dX12_count_141 : decode cX12_count 141 = .ok (.getfield 110, 3) := o180 ac_cX12_count_128 13 0 110 rfl
def kb_cX12_count_144 : List Nat := [16, 17, 27, 96, 46, 172, 42, 180, 0, 110, 16, 26, 46, 172, 42, 182, 1, 91, 172, 42]
theorem ac_cX12_count_144 : AL cX12_count 144 kb_cX12_count_144 := AL.of (m := 20) (by decide +kernel)
theorem dX12_count_144 : decode cX12_count 144 = .ok (.bipush 17, 2) := o16p ac_cX12_count_144 0 17 rfl rfl
theorem dX12_count_146 : decode cX12_count 146 = .ok (.iload_n 1, 1) := o27 ac_cX12_count_144 2 rfl
theorem dX12_count_147 : decode cX12_count 147 = .ok (.iadd, 1) := o96 ac_cX12_count_144 3 rfl
theorem dX12_count_148 : decode cX12_count 148 = .ok (.iaload, 1) := o46 ac_cX12_count_144 4 rfl
theorem dX12_count_149 : decode cX12_count 149 = .ok (.ireturn, 1) := o172 ac_cX12_count_144 5 rfl
theorem dX12_count_150 : decode cX12_count 150 = .ok (.aload_n 0, 1) := o42 ac_cX12_count_144 6 rfl
theorem dX12_count_151 : decode cX12_count 151 = .ok (.getfield 110, 3) := o180 ac_cX12_count_144 7 0 110 rfl
theorem dX12_count_154 : decode cX12_count 154 = .ok (.bipush 26, 2) := o16p ac_cX12_count_144 10 26 rfl rfl
theorem dX12_count_156 : decode cX12_count 156 = .ok (.iaload, 1) := o46 ac_cX12_count_144 12 rfl
theorem dX12_count_157 : decode cX12_count 157 = .ok (.ireturn, 1) := o172 ac_cX12_count_144 13 rfl
theorem dX12_count_158 : decode cX12_count 158 = .ok (.aload_n 0, 1) := o42 ac_cX12_count_144 14 rfl
theorem dX12_count_159 : decode cX12_count 159 = .ok (.invokevirtual 347, 3) := o182 ac_cX12_count_144 15 1 91 rfl
def kb_cX12_count_160 : List Nat := [1, 91, 172, 42, 180, 0, 154, 172, 42, 180, 0, 239, 172, 42, 180, 0, 242, 172, 42, 180]
theorem ac_cX12_count_160 : AL cX12_count 160 kb_cX12_count_160 := AL.of (m := 20) (by decide +kernel)
theorem dX12_count_162 : decode cX12_count 162 = .ok (.ireturn, 1) := o172 ac_cX12_count_160 2 rfl
theorem dX12_count_163 : decode cX12_count 163 = .ok (.aload_n 0, 1) := o42 ac_cX12_count_160 3 rfl
theorem dX12_count_164 : decode cX12_count 164 = .ok (.getfield 154, 3) := o180 ac_cX12_count_160 4 0 154 rfl
theorem dX12_count_167 : decode cX12_count 167 = .ok (.ireturn, 1) := o172 ac_cX12_count_160 7 rfl
theorem dX12_count_168 : decode cX12_count 168 = .ok (.aload_n 0, 1) := o42 ac_cX12_count_160 8 rfl
theorem dX12_count_169 : decode cX12_count 169 = .ok (.getfield 239, 3) := o180 ac_cX12_count_160 9 0 239 rfl
theorem dX12_count_172 : decode cX12_count 172 = .ok (.ireturn, 1) := o172 ac_cX12_count_160 12 rfl
theorem dX12_count_173 : decode cX12_count 173 = .ok (.aload_n 0, 1) := o42 ac_cX12_count_160 13 rfl
theorem dX12_count_174 : decode cX12_count 174 = .ok (.getfield 242, 3) := o180 ac_cX12_count_160 14 0 242 rfl
def kb_cX12_count_176 : List Nat := [242, 172, 42, 180, 0, 134, 3, 51, 153, 0, 7, 4, 167, 0, 4, 3, 42, 180, 0, 134]
theorem ac_cX12_count_176 : AL cX12_count 176 kb_cX12_count_176 := AL.of (m := 20) (by decide +kernel)
theorem dX12_count_177 : decode cX12_count 177 = .ok (.ireturn, 1) := o172 ac_cX12_count_176 1 rfl
theorem dX12_count_178 : decode cX12_count 178 = .ok (.aload_n 0, 1) := o42 ac_cX12_count_176 2 rfl
theorem dX12_count_179 : decode cX12_count 179 = .ok (.getfield 134, 3) := o180 ac_cX12_count_176 3 0 134 rfl
theorem dX12_count_182 : decode cX12_count 182 = .ok (.iconst 0, 1) := o3 ac_cX12_count_176 6 rfl
theorem dX12_count_183 : decode cX12_count 183 = .ok (.baload, 1) := o51 ac_cX12_count_176 7 rfl
theorem dX12_count_184 : decode cX12_count 184 = .ok (.ifCond .eq 7, 3) := o153p ac_cX12_count_176 8 0 7 rfl rfl
theorem dX12_count_191 : decode cX12_count 191 = .ok (.iconst 0, 1) := o3 ac_cX12_count_176 15 rfl
def kb_cX12_count_192 : List Nat := [42, 180, 0, 134, 4, 51, 153, 0, 7, 4, 167, 0, 4, 3, 96, 42, 180, 0, 134, 5]
theorem ac_cX12_count_192 : AL cX12_count 192 kb_cX12_count_192 := AL.of (m := 20) (by decide +kernel)
theorem dX12_count_192 : decode cX12_count 192 = .ok (.aload_n 0, 1) := o42 ac_cX12_count_192 0 rfl
theorem dX12_count_193 : decode cX12_count 193 = .ok (.getfield 134, 3) := o180 ac_cX12_count_192 1 0 134 rfl
theorem dX12_count_196 : decode cX12_count 196 = .ok (.iconst 1, 1) := o4 ac_cX12_count_192 4 rfl
theorem dX12_count_197 : decode cX12_count 197 = .ok (.baload, 1) := o51 ac_cX12_count_192 5 rfl
theorem dX12_count_198 : decode cX12_count 198 = .ok (.ifCond .eq 7, 3) := o153p ac_cX12_count_192 6 0 7 rfl rfl
theorem dX12_count_205 : decode cX12_count 205 = .ok (.iconst 0, 1) := o3 ac_cX12_count_192 13 rfl
theorem dX12_count_206 : decode cX12_count 206 = .ok (.iadd, 1) := o96 ac_cX12_count_192 14 rfl
theorem dX12_count_207 : decode cX12_count 207 = .ok (.aload_n 0, 1) := o42 ac_cX12_count_192 15 rfl
def kb_cX12_count_208 : List Nat := [180, 0, 134, 5, 51, 153, 0, 7, 4, 167, 0, 4, 3, 96, 172, 42, 42, 3, 182, 1]
theorem ac_cX12_count_208 : AL cX12_count 208 kb_cX12_count_208 := AL.of (m := 20) (by decide +kernel)
theorem dX12_count_208 : decode cX12_count 208 = .ok (.getfield 134, 3) := o180 ac_cX12_count_208 0 0 134 rfl
theorem dX12_count_211 : decode cX12_count 211 = .ok (.iconst 2, 1) := o5 ac_cX12_count_208 3 rfl
theorem dX12_count_212 : decode cX12_count 212 = .ok (.baload, 1) := o51 ac_cX12_count_208 4 rfl
theorem dX12_count_213 : decode cX12_count 213 = .ok (.ifCond .eq 7, 3) := o153p ac_cX12_count_208 5 0 7 rfl rfl
theorem dX12_count_220 : decode cX12_count 220 = .ok (.iconst 0, 1) := o3 ac_cX12_count_208 12 rfl
theorem dX12_count_221 : decode cX12_count 221 = .ok (.iadd, 1) := o96 ac_cX12_count_208 13 rfl
theorem dX12_count_222 : decode cX12_count 222 = .ok (.ireturn, 1) := o172 ac_cX12_count_208 14 rfl
theorem dX12_count_223 : decode cX12_count 223 = .ok (.aload_n 0, 1) := o42 ac_cX12_count_208 15 rfl
def kb_cX12_count_224 : List Nat := [42, 3, 182, 1, 94, 182, 1, 205, 172, 42, 42, 5, 182, 1, 94, 182, 1, 205, 172, 42]
theorem ac_cX12_count_224 : AL cX12_count 224 kb_cX12_count_224 := AL.of (m := 20) (by decide +kernel)
theorem dX12_count_224 : decode cX12_count 224 = .ok (.aload_n 0, 1) := o42 ac_cX12_count_224 0 rfl
theorem dX12_count_225 : decode cX12_count 225 = .ok (.iconst 0, 1) := o3 ac_cX12_count_224 1 rfl
theorem dX12_count_226 : decode cX12_count 226 = .ok (.invokevirtual 350, 3) := o182 ac_cX12_count_224 2 1 94 rfl
theorem dX12_count_229 : decode cX12_count 229 = .ok (.invokevirtual 461, 3) := o182 ac_cX12_count_224 5 1 205 rfl
theorem dX12_count_232 : decode cX12_count 232 = .ok (.ireturn, 1) := o172 ac_cX12_count_224 8 rfl
theorem dX12_count_233 : decode cX12_count 233 = .ok (.aload_n 0, 1) := o42 ac_cX12_count_224 9 rfl
theorem dX12_count_234 : decode cX12_count 234 = .ok (.aload_n 0, 1) := o42 ac_cX12_count_224 10 rfl
theorem dX12_count_235 : decode cX12_count 235 = .ok (.iconst 2, 1) := o5 ac_cX12_count_224 11 rfl
theorem dX12_count_236 : decode cX12_count 236 = .ok (.invokevirtual 350, 3) := o182 ac_cX12_count_224 12 1 94 rfl
theorem dX12_count_239 : decode cX12_count 239 = .ok (.invokevirtual 461, 3) := o182 ac_cX12_count_224 15 1 205 rfl
def kb_cX12_count_240 : List Nat := [1, 205, 172, 42, 4, 182, 1, 94, 172, 2, 172]
theorem ac_cX12_count_240 : AL cX12_count 240 kb_cX12_count_240 := AL.of (m := 11) (by decide +kernel)
theorem dX12_count_242 : decode cX12_count 242 = .ok (.ireturn, 1) := o172 ac_cX12_count_240 2 rfl
theorem dX12_count_243 : decode cX12_count 243 = .ok (.aload_n 0, 1) := o42 ac_cX12_count_240 3 rfl
theorem dX12_count_244 : decode cX12_count 244 = .ok (.iconst 1, 1) := o4 ac_cX12_count_240 4 rfl
theorem dX12_count_245 : decode cX12_count 245 = .ok (.invokevirtual 350, 3) := o182 ac_cX12_count_240 5 1 94 rfl
theorem dX12_count_248 : decode cX12_count 248 = .ok (.ireturn, 1) := o172 ac_cX12_count_240 8 rfl
theorem dX12_count_249 : decode cX12_count 249 = .ok (.iconst (-1), 1) := o2 ac_cX12_count_240 9 rfl
theorem dX12_count_250 : decode cX12_count 250 = .ok (.ireturn, 1) := o172 ac_cX12_count_240 10 rfl
def kb_cX12_set_0 : List Nat := [27, 3, 16, 9, 184, 1, 45, 153, 0, 14, 42, 180, 0, 107, 16, 28, 46, 27, 160, 0]
theorem ac_cX12_set_0 : AL cX12_set 0 kb_cX12_set_0 := AL.of (m := 20) (by decide +kernel)
theorem dX12_set_0 : decode cX12_set 0 = .ok (.iload_n 1, 1) := o27 ac_cX12_set_0 0 rfl
theorem dX12_set_1 : decode cX12_set 1 = .ok (.iconst 0, 1) := o3 ac_cX12_set_0 1 rfl
theorem dX12_set_2 : decode cX12_set 2 = .ok (.bipush 9, 2) := o16p ac_cX12_set_0 2 9 rfl rfl
theorem dX12_set_4 : decode cX12_set 4 = .ok (.invokestatic 301, 3) := o184 ac_cX12_set_0 4 1 45 rfl
theorem dX12_set_7 : decode cX12_set 7 = .ok (.ifCond .eq 14, 3) := o153p ac_cX12_set_0 7 0 14 rfl rfl
theorem dX12_set_10 : decode cX12_set 10 = .ok (.aload_n 0, 1) := o42 ac_cX12_set_0 10 rfl
theorem dX12_set_11 : decode cX12_set 11 = .ok (.getfield 107, 3) := o180 ac_cX12_set_0 11 0 107 rfl
theorem dX12_set_14 : decode cX12_set 14 = .ok (.bipush 28, 2) := o16p ac_cX12_set_0 14 28 rfl rfl
def kb_cX12_set_16 : List Nat := [46, 27, 160, 0, 5, 3, 172, 42, 182, 1, 55, 42, 180, 0, 110, 16, 28, 27, 79, 42]
theorem ac_cX12_set_16 : AL cX12_set 16 kb_cX12_set_16 := AL.of (m := 20) (by decide +kernel)
theorem dX12_set_16 : decode cX12_set 16 = .ok (.iaload, 1) := o46 ac_cX12_set_16 0 rfl
theorem dX12_set_17 : decode cX12_set 17 = .ok (.iload_n 1, 1) := o27 ac_cX12_set_16 1 rfl
theorem dX12_set_18 : decode cX12_set 18 = .ok (.if_icmp .ne 5, 3) := o160p ac_cX12_set_16 2 0 5 rfl rfl
theorem dX12_set_23 : decode cX12_set 23 = .ok (.aload_n 0, 1) := o42 ac_cX12_set_16 7 rfl
theorem dX12_set_24 : decode cX12_set 24 = .ok (.invokevirtual 311, 3) := o182 ac_cX12_set_16 8 1 55 rfl
theorem dX12_set_27 : decode cX12_set 27 = .ok (.aload_n 0, 1) := o42 ac_cX12_set_16 11 rfl
theorem dX12_set_28 : decode cX12_set 28 = .ok (.getfield 110, 3) := o180 ac_cX12_set_16 12 0 110 rfl
theorem dX12_set_31 : decode cX12_set 31 = .ok (.bipush 28, 2) := o16p ac_cX12_set_16 15 28 rfl rfl
def kb_cX12_set_32 : List Nat := [28, 27, 79, 42, 182, 1, 140, 4, 172]
theorem ac_cX12_set_32 : AL cX12_set 32 kb_cX12_set_32 := AL.of (m := 9) (by decide +kernel)
theorem dX12_set_33 : decode cX12_set 33 = .ok (.iload_n 1, 1) := o27 ac_cX12_set_32 1 rfl
theorem dX12_set_34 : decode cX12_set 34 = .ok (.iastore, 1) := o79 ac_cX12_set_32 2 rfl
theorem dX12_set_35 : decode cX12_set 35 = .ok (.aload_n 0, 1) := o42 ac_cX12_set_32 3 rfl
theorem dX12_set_36 : decode cX12_set 36 = .ok (.invokevirtual 396, 3) := o182 ac_cX12_set_32 4 1 140 rfl
theorem dX12_set_39 : decode cX12_set 39 = .ok (.iconst 1, 1) := o4 ac_cX12_set_32 7 rfl
theorem dX12_set_40 : decode cX12_set 40 = .ok (.ireturn, 1) := o172 ac_cX12_set_32 8 rfl
theorem dX12_set_21 : decode cX12_set 21 = .ok (.iconst 0, 1) := o3 ac_cX12_set_16 5 rfl
theorem dX12_set_22 : decode cX12_set 22 = .ok (.ireturn, 1) := o172 ac_cX12_set_16 6 rfl
def kb_cX12_beats_0 : List Nat := [27, 184, 1, 146, 154, 0, 5, 2, 172, 27, 154, 0, 11, 42, 180, 0, 107, 16, 21, 46]
theorem ac_cX12_beats_0 : AL cX12_beats 0 kb_cX12_beats_0 := AL.of (m := 20) (by decide +kernel)
theorem dX12_beats_0 : decode cX12_beats 0 = .ok (.iload_n 1, 1) := o27 ac_cX12_beats_0 0 rfl
theorem dX12_beats_1 : decode cX12_beats 1 = .ok (.invokestatic 402, 3) := o184 ac_cX12_beats_0 1 1 146 rfl
theorem dX12_beats_4 : decode cX12_beats 4 = .ok (.ifCond .ne 5, 3) := o154p ac_cX12_beats_0 4 0 5 rfl rfl
theorem dX12_beats_9 : decode cX12_beats 9 = .ok (.iload_n 1, 1) := o27 ac_cX12_beats_0 9 rfl
theorem dX12_beats_10 : decode cX12_beats 10 = .ok (.ifCond .ne 11, 3) := o154p ac_cX12_beats_0 10 0 11 rfl rfl
theorem dX12_beats_13 : decode cX12_beats 13 = .ok (.aload_n 0, 1) := o42 ac_cX12_beats_0 13 rfl
theorem dX12_beats_14 : decode cX12_beats 14 = .ok (.getfield 107, 3) := o180 ac_cX12_beats_0 14 0 107 rfl
def kb_cX12_beats_16 : List Nat := [107, 16, 21, 46, 172, 42, 182, 1, 55, 42, 27, 182, 1, 149, 42, 182, 1, 140, 42, 180]
theorem ac_cX12_beats_16 : AL cX12_beats 16 kb_cX12_beats_16 := AL.of (m := 20) (by decide +kernel)
theorem dX12_beats_17 : decode cX12_beats 17 = .ok (.bipush 21, 2) := o16p ac_cX12_beats_16 1 21 rfl rfl
theorem dX12_beats_19 : decode cX12_beats 19 = .ok (.iaload, 1) := o46 ac_cX12_beats_16 3 rfl
theorem dX12_beats_20 : decode cX12_beats 20 = .ok (.ireturn, 1) := o172 ac_cX12_beats_16 4 rfl
theorem dX12_beats_21 : decode cX12_beats 21 = .ok (.aload_n 0, 1) := o42 ac_cX12_beats_16 5 rfl
theorem dX12_beats_22 : decode cX12_beats 22 = .ok (.invokevirtual 311, 3) := o182 ac_cX12_beats_16 6 1 55 rfl
theorem dX12_beats_25 : decode cX12_beats 25 = .ok (.aload_n 0, 1) := o42 ac_cX12_beats_16 9 rfl
theorem dX12_beats_26 : decode cX12_beats 26 = .ok (.iload_n 1, 1) := o27 ac_cX12_beats_16 10 rfl
theorem dX12_beats_27 : decode cX12_beats 27 = .ok (.invokevirtual 405, 3) := o182 ac_cX12_beats_16 11 1 149 rfl
theorem dX12_beats_30 : decode cX12_beats 30 = .ok (.aload_n 0, 1) := o42 ac_cX12_beats_16 14 rfl
theorem dX12_beats_31 : decode cX12_beats 31 = .ok (.invokevirtual 396, 3) := o182 ac_cX12_beats_16 15 1 140 rfl
def kb_cX12_beats_32 : List Nat := [1, 140, 42, 180, 0, 107, 16, 21, 46, 172]
theorem ac_cX12_beats_32 : AL cX12_beats 32 kb_cX12_beats_32 := AL.of (m := 10) (by decide +kernel)
theorem dX12_beats_34 : decode cX12_beats 34 = .ok (.aload_n 0, 1) := o42 ac_cX12_beats_32 2 rfl
theorem dX12_beats_35 : decode cX12_beats 35 = .ok (.getfield 107, 3) := o180 ac_cX12_beats_32 3 0 107 rfl
theorem dX12_beats_38 : decode cX12_beats 38 = .ok (.bipush 21, 2) := o16p ac_cX12_beats_32 6 21 rfl rfl
theorem dX12_beats_40 : decode cX12_beats 40 = .ok (.iaload, 1) := o46 ac_cX12_beats_32 8 rfl
theorem dX12_beats_41 : decode cX12_beats 41 = .ok (.ireturn, 1) := o172 ac_cX12_beats_32 9 rfl
theorem dX12_beats_7 : decode cX12_beats 7 = .ok (.iconst (-1), 1) := o2 ac_cX12_beats_0 7 rfl
theorem dX12_beats_8 : decode cX12_beats 8 = .ok (.ireturn, 1) := o172 ac_cX12_beats_0 8 rfl
def kb_cX12_hold_0 : List Nat := [27, 3, 5, 184, 1, 45, 154, 0, 5, 3, 172, 42, 180, 0, 134, 27, 4, 84, 3, 61]
theorem ac_cX12_hold_0 : AL cX12_hold 0 kb_cX12_hold_0 := AL.of (m := 20) (by decide +kernel)
theorem dX12_hold_0 : decode cX12_hold 0 = .ok (.iload_n 1, 1) := o27 ac_cX12_hold_0 0 rfl
theorem dX12_hold_1 : decode cX12_hold 1 = .ok (.iconst 0, 1) := o3 ac_cX12_hold_0 1 rfl
theorem dX12_hold_2 : decode cX12_hold 2 = .ok (.iconst 2, 1) := o5 ac_cX12_hold_0 2 rfl
theorem dX12_hold_3 : decode cX12_hold 3 = .ok (.invokestatic 301, 3) := o184 ac_cX12_hold_0 3 1 45 rfl
theorem dX12_hold_6 : decode cX12_hold 6 = .ok (.ifCond .ne 5, 3) := o154p ac_cX12_hold_0 6 0 5 rfl rfl
theorem dX12_hold_11 : decode cX12_hold 11 = .ok (.aload_n 0, 1) := o42 ac_cX12_hold_0 11 rfl
theorem dX12_hold_12 : decode cX12_hold 12 = .ok (.getfield 134, 3) := o180 ac_cX12_hold_0 12 0 134 rfl
theorem dX12_hold_15 : decode cX12_hold 15 = .ok (.iload_n 1, 1) := o27 ac_cX12_hold_0 15 rfl
def kb_cX12_hold_16 : List Nat := [4, 84, 3, 61, 28, 16, 29, 162, 0, 26, 42, 180, 0, 137, 16, 29, 27, 104, 28, 96]
theorem ac_cX12_hold_16 : AL cX12_hold 16 kb_cX12_hold_16 := AL.of (m := 20) (by decide +kernel)
theorem dX12_hold_16 : decode cX12_hold 16 = .ok (.iconst 1, 1) := o4 ac_cX12_hold_16 0 rfl
theorem dX12_hold_17 : decode cX12_hold 17 = .ok (.bastore, 1) := o84 ac_cX12_hold_16 1 rfl
theorem dX12_hold_18 : decode cX12_hold 18 = .ok (.iconst 0, 1) := o3 ac_cX12_hold_16 2 rfl
theorem dX12_hold_19 : decode cX12_hold 19 = .ok (.istore_n 2, 1) := o61 ac_cX12_hold_16 3 rfl
theorem dX12_hold_20 : decode cX12_hold 20 = .ok (.iload_n 2, 1) := o28 ac_cX12_hold_16 4 rfl
theorem dX12_hold_21 : decode cX12_hold 21 = .ok (.bipush 29, 2) := o16p ac_cX12_hold_16 5 29 rfl rfl
theorem dX12_hold_23 : decode cX12_hold 23 = .ok (.if_icmp .ge 26, 3) := o162p ac_cX12_hold_16 7 0 26 rfl rfl
theorem dX12_hold_26 : decode cX12_hold 26 = .ok (.aload_n 0, 1) := o42 ac_cX12_hold_16 10 rfl
theorem dX12_hold_27 : decode cX12_hold 27 = .ok (.getfield 137, 3) := o180 ac_cX12_hold_16 11 0 137 rfl
theorem dX12_hold_30 : decode cX12_hold 30 = .ok (.bipush 29, 2) := o16p ac_cX12_hold_16 14 29 rfl rfl
def kb_cX12_hold_32 : List Nat := [27, 104, 28, 96, 42, 180, 0, 107, 28, 46, 79, 132, 2, 1, 167, 255, 230, 4, 172]
theorem ac_cX12_hold_32 : AL cX12_hold 32 kb_cX12_hold_32 := AL.of (m := 19) (by decide +kernel)
theorem dX12_hold_32 : decode cX12_hold 32 = .ok (.iload_n 1, 1) := o27 ac_cX12_hold_32 0 rfl
theorem dX12_hold_33 : decode cX12_hold 33 = .ok (.imul, 1) := o104 ac_cX12_hold_32 1 rfl
theorem dX12_hold_34 : decode cX12_hold 34 = .ok (.iload_n 2, 1) := o28 ac_cX12_hold_32 2 rfl
theorem dX12_hold_35 : decode cX12_hold 35 = .ok (.iadd, 1) := o96 ac_cX12_hold_32 3 rfl
theorem dX12_hold_36 : decode cX12_hold 36 = .ok (.aload_n 0, 1) := o42 ac_cX12_hold_32 4 rfl
theorem dX12_hold_37 : decode cX12_hold 37 = .ok (.getfield 107, 3) := o180 ac_cX12_hold_32 5 0 107 rfl
theorem dX12_hold_40 : decode cX12_hold 40 = .ok (.iload_n 2, 1) := o28 ac_cX12_hold_32 8 rfl
theorem dX12_hold_41 : decode cX12_hold 41 = .ok (.iaload, 1) := o46 ac_cX12_hold_32 9 rfl
theorem dX12_hold_42 : decode cX12_hold 42 = .ok (.iastore, 1) := o79 ac_cX12_hold_32 10 rfl
theorem dX12_hold_43 : decode cX12_hold 43 = .ok (.iinc 2 1, 3) := o132p ac_cX12_hold_32 11 2 1 rfl rfl
theorem dX12_hold_46 : decode cX12_hold 46 = .ok (.goto (-26), 3) := o167n ac_cX12_hold_32 14 255 230 25 rfl rfl rfl
def kb_cX12_hold_48 : List Nat := [230, 4, 172]
theorem ac_cX12_hold_48 : AL cX12_hold 48 kb_cX12_hold_48 := AL.of (m := 3) (by decide +kernel)
theorem dX12_hold_49 : decode cX12_hold 49 = .ok (.iconst 1, 1) := o4 ac_cX12_hold_48 1 rfl
theorem dX12_hold_50 : decode cX12_hold 50 = .ok (.ireturn, 1) := o172 ac_cX12_hold_48 2 rfl
def kb_cX12_restore_0 : List Nat := [27, 3, 5, 184, 1, 45, 153, 0, 12, 42, 180, 0, 134, 27, 51, 154, 0, 5, 3, 172]
theorem ac_cX12_restore_0 : AL cX12_restore 0 kb_cX12_restore_0 := AL.of (m := 20) (by decide +kernel)
theorem dX12_restore_0 : decode cX12_restore 0 = .ok (.iload_n 1, 1) := o27 ac_cX12_restore_0 0 rfl
theorem dX12_restore_1 : decode cX12_restore 1 = .ok (.iconst 0, 1) := o3 ac_cX12_restore_0 1 rfl
theorem dX12_restore_2 : decode cX12_restore 2 = .ok (.iconst 2, 1) := o5 ac_cX12_restore_0 2 rfl
theorem dX12_restore_3 : decode cX12_restore 3 = .ok (.invokestatic 301, 3) := o184 ac_cX12_restore_0 3 1 45 rfl
theorem dX12_restore_6 : decode cX12_restore 6 = .ok (.ifCond .eq 12, 3) := o153p ac_cX12_restore_0 6 0 12 rfl rfl
theorem dX12_restore_9 : decode cX12_restore 9 = .ok (.aload_n 0, 1) := o42 ac_cX12_restore_0 9 rfl
theorem dX12_restore_10 : decode cX12_restore 10 = .ok (.getfield 134, 3) := o180 ac_cX12_restore_0 10 0 134 rfl
theorem dX12_restore_13 : decode cX12_restore 13 = .ok (.iload_n 1, 1) := o27 ac_cX12_restore_0 13 rfl
theorem dX12_restore_14 : decode cX12_restore 14 = .ok (.baload, 1) := o51 ac_cX12_restore_0 14 rfl
theorem dX12_restore_15 : decode cX12_restore 15 = .ok (.ifCond .ne 5, 3) := o154p ac_cX12_restore_0 15 0 5 rfl rfl
def kb_cX12_restore_16 : List Nat := [0, 5, 3, 172, 3, 61, 28, 16, 29, 162, 0, 26, 42, 180, 0, 107, 28, 42, 180, 0]
theorem ac_cX12_restore_16 : AL cX12_restore 16 kb_cX12_restore_16 := AL.of (m := 20) (by decide +kernel)
theorem dX12_restore_18 : decode cX12_restore 18 = .ok (.iconst 0, 1) := o3 ac_cX12_restore_16 2 rfl
theorem dX12_restore_19 : decode cX12_restore 19 = .ok (.ireturn, 1) := o172 ac_cX12_restore_16 3 rfl
theorem dX12_hold_9 : decode cX12_hold 9 = .ok (.iconst 0, 1) := o3 ac_cX12_hold_0 9 rfl
theorem dX12_hold_10 : decode cX12_hold 10 = .ok (.ireturn, 1) := o172 ac_cX12_hold_0 10 rfl
def kb_cX12_inHand_0 : List Nat := [27, 184, 1, 146, 154, 0, 5, 2, 172, 42, 182, 1, 173, 42, 27, 182, 1, 149, 42, 182]
theorem ac_cX12_inHand_0 : AL cX12_inHand 0 kb_cX12_inHand_0 := AL.of (m := 20) (by decide +kernel)
theorem dX12_inHand_0 : decode cX12_inHand 0 = .ok (.iload_n 1, 1) := o27 ac_cX12_inHand_0 0 rfl
theorem dX12_inHand_1 : decode cX12_inHand 1 = .ok (.invokestatic 402, 3) := o184 ac_cX12_inHand_0 1 1 146 rfl
theorem dX12_inHand_4 : decode cX12_inHand 4 = .ok (.ifCond .ne 5, 3) := o154p ac_cX12_inHand_0 4 0 5 rfl rfl
theorem dX12_inHand_9 : decode cX12_inHand 9 = .ok (.aload_n 0, 1) := o42 ac_cX12_inHand_0 9 rfl
theorem dX12_inHand_10 : decode cX12_inHand 10 = .ok (.invokevirtual 429, 3) := o182 ac_cX12_inHand_0 10 1 173 rfl
theorem dX12_inHand_13 : decode cX12_inHand 13 = .ok (.aload_n 0, 1) := o42 ac_cX12_inHand_0 13 rfl
theorem dX12_inHand_14 : decode cX12_inHand 14 = .ok (.iload_n 1, 1) := o27 ac_cX12_inHand_0 14 rfl
theorem dX12_inHand_15 : decode cX12_inHand 15 = .ok (.invokevirtual 405, 3) := o182 ac_cX12_inHand_0 15 1 149 rfl
def kb_cX12_inHand_16 : List Nat := [1, 149, 42, 182, 1, 122, 172]
theorem ac_cX12_inHand_16 : AL cX12_inHand 16 kb_cX12_inHand_16 := AL.of (m := 7) (by decide +kernel)
theorem dX12_inHand_18 : decode cX12_inHand 18 = .ok (.aload_n 0, 1) := o42 ac_cX12_inHand_16 2 rfl
theorem dX12_inHand_19 : decode cX12_inHand 19 = .ok (.invokevirtual 378, 3) := o182 ac_cX12_inHand_16 3 1 122 rfl
theorem dX12_inHand_22 : decode cX12_inHand 22 = .ok (.ireturn, 1) := o172 ac_cX12_inHand_16 6 rfl
theorem dX12_inHand_7 : decode cX12_inHand 7 = .ok (.iconst (-1), 1) := o2 ac_cX12_inHand_0 7 rfl
theorem dX12_inHand_8 : decode cX12_inHand 8 = .ok (.ireturn, 1) := o172 ac_cX12_inHand_0 8 rfl
def kb_cX12_clash_0 : List Nat := [42, 182, 1, 173, 3, 60, 27, 16, 60, 163, 0, 22, 42, 182, 1, 131, 42, 180, 1, 88]
theorem ac_cX12_clash_0 : AL cX12_clash 0 kb_cX12_clash_0 := AL.of (m := 20) (by decide +kernel)
theorem dX12_clash_0 : decode cX12_clash 0 = .ok (.aload_n 0, 1) := o42 ac_cX12_clash_0 0 rfl
theorem dX12_clash_1 : decode cX12_clash 1 = .ok (.invokevirtual 429, 3) := o182 ac_cX12_clash_0 1 1 173 rfl
theorem dX12_clash_4 : decode cX12_clash 4 = .ok (.iconst 0, 1) := o3 ac_cX12_clash_0 4 rfl
theorem dX12_clash_5 : decode cX12_clash 5 = .ok (.istore_n 1, 1) := o60 ac_cX12_clash_0 5 rfl
theorem dX12_clash_6 : decode cX12_clash 6 = .ok (.iload_n 1, 1) := o27 ac_cX12_clash_0 6 rfl
theorem dX12_clash_7 : decode cX12_clash 7 = .ok (.bipush 60, 2) := o16p ac_cX12_clash_0 7 60 rfl rfl
theorem dX12_clash_9 : decode cX12_clash 9 = .ok (.if_icmp .gt 22, 3) := o163p ac_cX12_clash_0 9 0 22 rfl rfl
theorem dX12_clash_12 : decode cX12_clash 12 = .ok (.aload_n 0, 1) := o42 ac_cX12_clash_0 12 rfl
theorem dX12_clash_13 : decode cX12_clash 13 = .ok (.invokevirtual 387, 3) := o182 ac_cX12_clash_0 13 1 131 rfl
def kb_cX12_clash_16 : List Nat := [42, 180, 1, 88, 153, 0, 5, 27, 172, 132, 1, 1, 167, 255, 234, 16, 254, 172]
theorem ac_cX12_clash_16 : AL cX12_clash 16 kb_cX12_clash_16 := AL.of (m := 18) (by decide +kernel)
theorem dX12_clash_16 : decode cX12_clash 16 = .ok (.aload_n 0, 1) := o42 ac_cX12_clash_16 0 rfl
theorem dX12_clash_17 : decode cX12_clash 17 = .ok (.getfield 344, 3) := o180 ac_cX12_clash_16 1 1 88 rfl
theorem dX12_clash_20 : decode cX12_clash 20 = .ok (.ifCond .eq 5, 3) := o153p ac_cX12_clash_16 4 0 5 rfl rfl
theorem dX12_clash_25 : decode cX12_clash 25 = .ok (.iinc 1 1, 3) := o132p ac_cX12_clash_16 9 1 1 rfl rfl
theorem dX12_clash_28 : decode cX12_clash 28 = .ok (.goto (-22), 3) := o167n ac_cX12_clash_16 12 255 234 21 rfl rfl rfl
theorem dX12_clash_31 : decode cX12_clash 31 = .ok (.bipush (-2), 2) := o16n ac_cX12_clash_16 15 254 1 rfl rfl rfl
def kb_cX12_clash_32 : List Nat := [254, 172]
theorem ac_cX12_clash_32 : AL cX12_clash 32 kb_cX12_clash_32 := AL.of (m := 2) (by decide +kernel)
theorem dX12_clash_33 : decode cX12_clash 33 = .ok (.ireturn, 1) := o172 ac_cX12_clash_32 1 rfl
def kb_cX12_limit_0 : List Nat := [27, 3, 17, 3, 231, 184, 1, 45, 154, 0, 5, 2, 172, 42, 182, 1, 173, 3, 61, 28]
theorem ac_cX12_limit_0 : AL cX12_limit 0 kb_cX12_limit_0 := AL.of (m := 20) (by decide +kernel)
theorem dX12_limit_0 : decode cX12_limit 0 = .ok (.iload_n 1, 1) := o27 ac_cX12_limit_0 0 rfl
theorem dX12_limit_1 : decode cX12_limit 1 = .ok (.iconst 0, 1) := o3 ac_cX12_limit_0 1 rfl
theorem dX12_limit_2 : decode cX12_limit 2 = .ok (.sipush 999, 3) := o17p ac_cX12_limit_0 2 3 231 rfl rfl
theorem dX12_limit_5 : decode cX12_limit 5 = .ok (.invokestatic 301, 3) := o184 ac_cX12_limit_0 5 1 45 rfl
theorem dX12_limit_8 : decode cX12_limit 8 = .ok (.ifCond .ne 5, 3) := o154p ac_cX12_limit_0 8 0 5 rfl rfl
theorem dX12_limit_13 : decode cX12_limit 13 = .ok (.aload_n 0, 1) := o42 ac_cX12_limit_0 13 rfl
theorem dX12_limit_14 : decode cX12_limit 14 = .ok (.invokevirtual 429, 3) := o182 ac_cX12_limit_0 14 1 173 rfl
def kb_cX12_limit_16 : List Nat := [173, 3, 61, 28, 17, 0, 200, 163, 0, 26, 42, 180, 0, 110, 16, 22, 46, 27, 161, 0]
theorem ac_cX12_limit_16 : AL cX12_limit 16 kb_cX12_limit_16 := AL.of (m := 20) (by decide +kernel)
theorem dX12_limit_17 : decode cX12_limit 17 = .ok (.iconst 0, 1) := o3 ac_cX12_limit_16 1 rfl
theorem dX12_limit_18 : decode cX12_limit 18 = .ok (.istore_n 2, 1) := o61 ac_cX12_limit_16 2 rfl
theorem dX12_limit_19 : decode cX12_limit 19 = .ok (.iload_n 2, 1) := o28 ac_cX12_limit_16 3 rfl
theorem dX12_limit_20 : decode cX12_limit 20 = .ok (.sipush 200, 3) := o17p ac_cX12_limit_16 4 0 200 rfl rfl
theorem dX12_limit_23 : decode cX12_limit 23 = .ok (.if_icmp .gt 26, 3) := o163p ac_cX12_limit_16 7 0 26 rfl rfl
theorem dX12_limit_26 : decode cX12_limit 26 = .ok (.aload_n 0, 1) := o42 ac_cX12_limit_16 10 rfl
theorem dX12_limit_27 : decode cX12_limit 27 = .ok (.getfield 110, 3) := o180 ac_cX12_limit_16 11 0 110 rfl
theorem dX12_limit_30 : decode cX12_limit 30 = .ok (.bipush 22, 2) := o16p ac_cX12_limit_16 14 22 rfl rfl
def kb_cX12_limit_32 : List Nat := [46, 27, 161, 0, 5, 28, 172, 42, 182, 1, 131, 132, 2, 1, 167, 255, 229, 16, 254, 172]
theorem ac_cX12_limit_32 : AL cX12_limit 32 kb_cX12_limit_32 := AL.of (m := 20) (by decide +kernel)
theorem dX12_limit_32 : decode cX12_limit 32 = .ok (.iaload, 1) := o46 ac_cX12_limit_32 0 rfl
theorem dX12_limit_33 : decode cX12_limit 33 = .ok (.iload_n 1, 1) := o27 ac_cX12_limit_32 1 rfl
theorem dX12_limit_34 : decode cX12_limit 34 = .ok (.if_icmp .lt 5, 3) := o161p ac_cX12_limit_32 2 0 5 rfl rfl
theorem dX12_limit_37 : decode cX12_limit 37 = .ok (.iload_n 2, 1) := o28 ac_cX12_limit_32 5 rfl
theorem dX12_limit_38 : decode cX12_limit 38 = .ok (.ireturn, 1) := o172 ac_cX12_limit_32 6 rfl
theorem dX12_limit_39 : decode cX12_limit 39 = .ok (.aload_n 0, 1) := o42 ac_cX12_limit_32 7 rfl
theorem dX12_limit_40 : decode cX12_limit 40 = .ok (.invokevirtual 387, 3) := o182 ac_cX12_limit_32 8 1 131 rfl
theorem dX12_limit_43 : decode cX12_limit 43 = .ok (.iinc 2 1, 3) := o132p ac_cX12_limit_32 11 2 1 rfl rfl
theorem dX12_limit_46 : decode cX12_limit 46 = .ok (.goto (-27), 3) := o167n ac_cX12_limit_32 14 255 229 26 rfl rfl rfl
def kb_cX12_limit_48 : List Nat := [229, 16, 254, 172]
theorem ac_cX12_limit_48 : AL cX12_limit 48 kb_cX12_limit_48 := AL.of (m := 4) (by decide +kernel)
theorem dX12_limit_49 : decode cX12_limit 49 = .ok (.bipush (-2), 2) := o16n ac_cX12_limit_48 1 254 1 rfl rfl rfl
theorem dX12_limit_51 : decode cX12_limit 51 = .ok (.ireturn, 1) := o172 ac_cX12_limit_48 3 rfl
theorem dX12_limit_11 : decode cX12_limit 11 = .ok (.iconst (-1), 1) := o2 ac_cX12_limit_0 11 rfl
theorem dX12_limit_12 : decode cX12_limit 12 = .ok (.ireturn, 1) := o172 ac_cX12_limit_0 12 rfl
def kb_cX12_busiest_0 : List Nat := [27, 184, 1, 198, 153, 0, 12, 28, 3, 4, 184, 1, 45, 154, 0, 5, 2, 172, 42, 182]
theorem ac_cX12_busiest_0 : AL cX12_busiest 0 kb_cX12_busiest_0 := AL.of (m := 20) (by decide +kernel)
theorem dX12_busiest_0 : decode cX12_busiest 0 = .ok (.iload_n 1, 1) := o27 ac_cX12_busiest_0 0 rfl
theorem dX12_busiest_1 : decode cX12_busiest 1 = .ok (.invokestatic 454, 3) := o184 ac_cX12_busiest_0 1 1 198 rfl
theorem dX12_busiest_4 : decode cX12_busiest 4 = .ok (.ifCond .eq 12, 3) := o153p ac_cX12_busiest_0 4 0 12 rfl rfl
theorem dX12_busiest_7 : decode cX12_busiest 7 = .ok (.iload_n 2, 1) := o28 ac_cX12_busiest_0 7 rfl
theorem dX12_busiest_8 : decode cX12_busiest 8 = .ok (.iconst 0, 1) := o3 ac_cX12_busiest_0 8 rfl
theorem dX12_busiest_9 : decode cX12_busiest 9 = .ok (.iconst 1, 1) := o4 ac_cX12_busiest_0 9 rfl
theorem dX12_busiest_10 : decode cX12_busiest 10 = .ok (.invokestatic 301, 3) := o184 ac_cX12_busiest_0 10 1 45 rfl
theorem dX12_busiest_13 : decode cX12_busiest 13 = .ok (.ifCond .ne 5, 3) := o154p ac_cX12_busiest_0 13 0 5 rfl rfl
def kb_cX12_busiest_16 : List Nat := [2, 172, 42, 182, 1, 173, 3, 62, 29, 16, 7, 162, 0, 16, 42, 180, 0, 122, 29, 3]
theorem ac_cX12_busiest_16 : AL cX12_busiest 16 kb_cX12_busiest_16 := AL.of (m := 20) (by decide +kernel)
theorem dX12_busiest_18 : decode cX12_busiest 18 = .ok (.aload_n 0, 1) := o42 ac_cX12_busiest_16 2 rfl
theorem dX12_busiest_19 : decode cX12_busiest 19 = .ok (.invokevirtual 429, 3) := o182 ac_cX12_busiest_16 3 1 173 rfl
theorem dX12_busiest_22 : decode cX12_busiest 22 = .ok (.iconst 0, 1) := o3 ac_cX12_busiest_16 6 rfl
theorem dX12_busiest_23 : decode cX12_busiest 23 = .ok (.istore_n 3, 1) := o62 ac_cX12_busiest_16 7 rfl
theorem dX12_busiest_24 : decode cX12_busiest 24 = .ok (.iload_n 3, 1) := o29 ac_cX12_busiest_16 8 rfl
theorem dX12_busiest_25 : decode cX12_busiest 25 = .ok (.bipush 7, 2) := o16p ac_cX12_busiest_16 9 7 rfl rfl
theorem dX12_busiest_27 : decode cX12_busiest 27 = .ok (.if_icmp .ge 16, 3) := o162p ac_cX12_busiest_16 11 0 16 rfl rfl
theorem dX12_busiest_30 : decode cX12_busiest 30 = .ok (.aload_n 0, 1) := o42 ac_cX12_busiest_16 14 rfl
theorem dX12_busiest_31 : decode cX12_busiest 31 = .ok (.getfield 122, 3) := o180 ac_cX12_busiest_16 15 0 122 rfl
def kb_cX12_busiest_32 : List Nat := [0, 122, 29, 3, 79, 132, 3, 1, 167, 255, 240, 3, 62, 29, 27, 162, 0, 33, 42, 182]
theorem ac_cX12_busiest_32 : AL cX12_busiest 32 kb_cX12_busiest_32 := AL.of (m := 20) (by decide +kernel)
theorem dX12_busiest_34 : decode cX12_busiest 34 = .ok (.iload_n 3, 1) := o29 ac_cX12_busiest_32 2 rfl
theorem dX12_busiest_35 : decode cX12_busiest 35 = .ok (.iconst 0, 1) := o3 ac_cX12_busiest_32 3 rfl
theorem dX12_busiest_36 : decode cX12_busiest 36 = .ok (.iastore, 1) := o79 ac_cX12_busiest_32 4 rfl
theorem dX12_busiest_37 : decode cX12_busiest 37 = .ok (.iinc 3 1, 3) := o132p ac_cX12_busiest_32 5 3 1 rfl rfl
theorem dX12_busiest_40 : decode cX12_busiest 40 = .ok (.goto (-16), 3) := o167n ac_cX12_busiest_32 8 255 240 15 rfl rfl rfl
theorem dX12_busiest_43 : decode cX12_busiest 43 = .ok (.iconst 0, 1) := o3 ac_cX12_busiest_32 11 rfl
theorem dX12_busiest_44 : decode cX12_busiest 44 = .ok (.istore_n 3, 1) := o62 ac_cX12_busiest_32 12 rfl
theorem dX12_busiest_45 : decode cX12_busiest 45 = .ok (.iload_n 3, 1) := o29 ac_cX12_busiest_32 13 rfl
theorem dX12_busiest_46 : decode cX12_busiest 46 = .ok (.iload_n 1, 1) := o27 ac_cX12_busiest_32 14 rfl
theorem dX12_busiest_47 : decode cX12_busiest 47 = .ok (.if_icmp .ge 33, 3) := o162p ac_cX12_busiest_32 15 0 33 rfl rfl
def kb_cX12_busiest_48 : List Nat := [0, 33, 42, 182, 1, 131, 42, 180, 1, 85, 155, 0, 16, 42, 180, 0, 122, 42, 180, 1]
theorem ac_cX12_busiest_48 : AL cX12_busiest 48 kb_cX12_busiest_48 := AL.of (m := 20) (by decide +kernel)
theorem dX12_busiest_50 : decode cX12_busiest 50 = .ok (.aload_n 0, 1) := o42 ac_cX12_busiest_48 2 rfl
theorem dX12_busiest_51 : decode cX12_busiest 51 = .ok (.invokevirtual 387, 3) := o182 ac_cX12_busiest_48 3 1 131 rfl
theorem dX12_busiest_54 : decode cX12_busiest 54 = .ok (.aload_n 0, 1) := o42 ac_cX12_busiest_48 6 rfl
theorem dX12_busiest_55 : decode cX12_busiest 55 = .ok (.getfield 341, 3) := o180 ac_cX12_busiest_48 7 1 85 rfl
theorem dX12_busiest_58 : decode cX12_busiest 58 = .ok (.ifCond .lt 16, 3) := o155p ac_cX12_busiest_48 10 0 16 rfl rfl
def kb_cX12_busiest_64 : List Nat := [122, 42, 180, 1, 85, 92, 46, 4, 96, 79, 132, 3, 1, 167, 255, 224, 3, 62, 4, 54]
theorem ac_cX12_busiest_64 : AL cX12_busiest 64 kb_cX12_busiest_64 := AL.of (m := 20) (by decide +kernel)
theorem dX12_busiest_74 : decode cX12_busiest 74 = .ok (.iinc 3 1, 3) := o132p ac_cX12_busiest_64 10 3 1 rfl rfl
theorem dX12_busiest_77 : decode cX12_busiest 77 = .ok (.goto (-32), 3) := o167n ac_cX12_busiest_64 13 255 224 31 rfl rfl rfl
def kb_cX12_busiest_80 : List Nat := [3, 62, 4, 54, 4, 21, 4, 16, 7, 162, 0, 28, 42, 180, 0, 122, 21, 4, 46, 42]
theorem ac_cX12_busiest_80 : AL cX12_busiest 80 kb_cX12_busiest_80 := AL.of (m := 20) (by decide +kernel)
theorem dX12_busiest_80 : decode cX12_busiest 80 = .ok (.iconst 0, 1) := o3 ac_cX12_busiest_80 0 rfl
theorem dX12_busiest_81 : decode cX12_busiest 81 = .ok (.istore_n 3, 1) := o62 ac_cX12_busiest_80 1 rfl
theorem dX12_busiest_82 : decode cX12_busiest 82 = .ok (.iconst 1, 1) := o4 ac_cX12_busiest_80 2 rfl
theorem dX12_busiest_83 : decode cX12_busiest 83 = .ok (.istore 4, 2) := o54 ac_cX12_busiest_80 3 4 rfl
theorem dX12_busiest_85 : decode cX12_busiest 85 = .ok (.iload 4, 2) := o21 ac_cX12_busiest_80 5 4 rfl
theorem dX12_busiest_87 : decode cX12_busiest 87 = .ok (.bipush 7, 2) := o16p ac_cX12_busiest_80 7 7 rfl rfl
theorem dX12_busiest_89 : decode cX12_busiest 89 = .ok (.if_icmp .ge 28, 3) := o162p ac_cX12_busiest_80 9 0 28 rfl rfl
theorem dX12_busiest_92 : decode cX12_busiest 92 = .ok (.aload_n 0, 1) := o42 ac_cX12_busiest_80 12 rfl
theorem dX12_busiest_93 : decode cX12_busiest 93 = .ok (.getfield 122, 3) := o180 ac_cX12_busiest_80 13 0 122 rfl
def kb_cX12_busiest_96 : List Nat := [21, 4, 46, 42, 180, 0, 122, 29, 46, 164, 0, 6, 21, 4, 62, 132, 4, 1, 167, 255]
theorem ac_cX12_busiest_96 : AL cX12_busiest 96 kb_cX12_busiest_96 := AL.of (m := 20) (by decide +kernel)
theorem dX12_busiest_96 : decode cX12_busiest 96 = .ok (.iload 4, 2) := o21 ac_cX12_busiest_96 0 4 rfl
theorem dX12_busiest_98 : decode cX12_busiest 98 = .ok (.iaload, 1) := o46 ac_cX12_busiest_96 2 rfl
theorem dX12_busiest_99 : decode cX12_busiest 99 = .ok (.aload_n 0, 1) := o42 ac_cX12_busiest_96 3 rfl
theorem dX12_busiest_100 : decode cX12_busiest 100 = .ok (.getfield 122, 3) := o180 ac_cX12_busiest_96 4 0 122 rfl
theorem dX12_busiest_103 : decode cX12_busiest 103 = .ok (.iload_n 3, 1) := o29 ac_cX12_busiest_96 7 rfl
theorem dX12_busiest_104 : decode cX12_busiest 104 = .ok (.iaload, 1) := o46 ac_cX12_busiest_96 8 rfl
theorem dX12_busiest_105 : decode cX12_busiest 105 = .ok (.if_icmp .le 6, 3) := o164p ac_cX12_busiest_96 9 0 6 rfl rfl
theorem dX12_busiest_111 : decode cX12_busiest 111 = .ok (.iinc 4 1, 3) := o132p ac_cX12_busiest_96 15 4 1 rfl rfl
def kb_cX12_busiest_112 : List Nat := [4, 1, 167, 255, 227, 42, 180, 0, 122, 29, 46, 154, 0, 8, 16, 254, 167, 0, 17, 28]
theorem ac_cX12_busiest_112 : AL cX12_busiest 112 kb_cX12_busiest_112 := AL.of (m := 20) (by decide +kernel)
theorem dX12_busiest_114 : decode cX12_busiest 114 = .ok (.goto (-29), 3) := o167n ac_cX12_busiest_112 2 255 227 28 rfl rfl rfl
theorem dX12_busiest_117 : decode cX12_busiest 117 = .ok (.aload_n 0, 1) := o42 ac_cX12_busiest_112 5 rfl
theorem dX12_busiest_118 : decode cX12_busiest 118 = .ok (.getfield 122, 3) := o180 ac_cX12_busiest_112 6 0 122 rfl
theorem dX12_busiest_121 : decode cX12_busiest 121 = .ok (.iload_n 3, 1) := o29 ac_cX12_busiest_112 9 rfl
theorem dX12_busiest_122 : decode cX12_busiest 122 = .ok (.iaload, 1) := o46 ac_cX12_busiest_112 10 rfl
theorem dX12_busiest_123 : decode cX12_busiest 123 = .ok (.ifCond .ne 8, 3) := o154p ac_cX12_busiest_112 11 0 8 rfl rfl
theorem dX12_busiest_126 : decode cX12_busiest 126 = .ok (.bipush (-2), 2) := o16n ac_cX12_busiest_112 14 254 1 rfl rfl rfl
def kb_cX12_busiest_128 : List Nat := [167, 0, 17, 28, 154, 0, 7, 29, 167, 0, 9, 42, 180, 0, 122, 29, 46, 172]
theorem ac_cX12_busiest_128 : AL cX12_busiest 128 kb_cX12_busiest_128 := AL.of (m := 18) (by decide +kernel)
theorem dX12_busiest_128 : decode cX12_busiest 128 = .ok (.goto 17, 3) := o167p ac_cX12_busiest_128 0 0 17 rfl rfl
def kb_cX12_busiest_144 : List Nat := [46, 172]
theorem ac_cX12_busiest_144 : AL cX12_busiest 144 kb_cX12_busiest_144 := AL.of (m := 2) (by decide +kernel)
theorem dX12_busiest_145 : decode cX12_busiest 145 = .ok (.ireturn, 1) := o172 ac_cX12_busiest_144 1 rfl
theorem dX12_busiest_16 : decode cX12_busiest 16 = .ok (.iconst (-1), 1) := o2 ac_cX12_busiest_16 0 rfl
theorem dX12_busiest_17 : decode cX12_busiest 17 = .ok (.ireturn, 1) := o172 ac_cX12_busiest_16 1 rfl
def kb_cX12_load_0 : List Nat := [27, 184, 1, 198, 154, 0, 5, 2, 172, 42, 182, 1, 173, 3, 61, 3, 62, 29, 27, 162]
theorem ac_cX12_load_0 : AL cX12_load 0 kb_cX12_load_0 := AL.of (m := 20) (by decide +kernel)
theorem dX12_load_0 : decode cX12_load 0 = .ok (.iload_n 1, 1) := o27 ac_cX12_load_0 0 rfl
theorem dX12_load_1 : decode cX12_load 1 = .ok (.invokestatic 454, 3) := o184 ac_cX12_load_0 1 1 198 rfl
theorem dX12_load_4 : decode cX12_load 4 = .ok (.ifCond .ne 5, 3) := o154p ac_cX12_load_0 4 0 5 rfl rfl
theorem dX12_load_9 : decode cX12_load 9 = .ok (.aload_n 0, 1) := o42 ac_cX12_load_0 9 rfl
theorem dX12_load_10 : decode cX12_load 10 = .ok (.invokevirtual 429, 3) := o182 ac_cX12_load_0 10 1 173 rfl
theorem dX12_load_13 : decode cX12_load 13 = .ok (.iconst 0, 1) := o3 ac_cX12_load_0 13 rfl
theorem dX12_load_14 : decode cX12_load 14 = .ok (.istore_n 2, 1) := o61 ac_cX12_load_0 14 rfl
theorem dX12_load_15 : decode cX12_load 15 = .ok (.iconst 0, 1) := o3 ac_cX12_load_0 15 rfl
def kb_cX12_load_16 : List Nat := [62, 29, 27, 162, 0, 40, 42, 182, 1, 131, 42, 180, 1, 85, 155, 0, 23, 28, 42, 180]
theorem ac_cX12_load_16 : AL cX12_load 16 kb_cX12_load_16 := AL.of (m := 20) (by decide +kernel)
theorem dX12_load_16 : decode cX12_load 16 = .ok (.istore_n 3, 1) := o62 ac_cX12_load_16 0 rfl
theorem dX12_load_17 : decode cX12_load 17 = .ok (.iload_n 3, 1) := o29 ac_cX12_load_16 1 rfl
theorem dX12_load_18 : decode cX12_load 18 = .ok (.iload_n 1, 1) := o27 ac_cX12_load_16 2 rfl
theorem dX12_load_19 : decode cX12_load 19 = .ok (.if_icmp .ge 40, 3) := o162p ac_cX12_load_16 3 0 40 rfl rfl
theorem dX12_load_22 : decode cX12_load 22 = .ok (.aload_n 0, 1) := o42 ac_cX12_load_16 6 rfl
theorem dX12_load_23 : decode cX12_load 23 = .ok (.invokevirtual 387, 3) := o182 ac_cX12_load_16 7 1 131 rfl
theorem dX12_load_26 : decode cX12_load 26 = .ok (.aload_n 0, 1) := o42 ac_cX12_load_16 10 rfl
theorem dX12_load_27 : decode cX12_load 27 = .ok (.getfield 341, 3) := o180 ac_cX12_load_16 11 1 85 rfl
theorem dX12_load_30 : decode cX12_load 30 = .ok (.ifCond .lt 23, 3) := o155p ac_cX12_load_16 14 0 23 rfl rfl
def kb_cX12_load_48 : List Nat := [85, 96, 46, 96, 61, 132, 3, 1, 167, 255, 217, 28, 172]
theorem ac_cX12_load_48 : AL cX12_load 48 kb_cX12_load_48 := AL.of (m := 13) (by decide +kernel)
theorem dX12_load_53 : decode cX12_load 53 = .ok (.iinc 3 1, 3) := o132p ac_cX12_load_48 5 3 1 rfl rfl
theorem dX12_load_56 : decode cX12_load 56 = .ok (.goto (-39), 3) := o167n ac_cX12_load_48 8 255 217 38 rfl rfl rfl
theorem dX12_load_59 : decode cX12_load 59 = .ok (.iload_n 2, 1) := o28 ac_cX12_load_48 11 rfl
theorem dX12_load_60 : decode cX12_load 60 = .ok (.ireturn, 1) := o172 ac_cX12_load_48 12 rfl
theorem dX12_load_7 : decode cX12_load 7 = .ok (.iconst (-1), 1) := o2 ac_cX12_load_0 7 rfl
theorem dX12_load_8 : decode cX12_load 8 = .ok (.ireturn, 1) := o172 ac_cX12_load_0 8 rfl
def kb_cX12_rule_0 : List Nat := [27, 184, 1, 198, 154, 0, 7, 19, 1, 201, 172, 42, 182, 1, 173, 3, 61, 3, 62, 29]
theorem ac_cX12_rule_0 : AL cX12_rule 0 kb_cX12_rule_0 := AL.of (m := 20) (by decide +kernel)
theorem dX12_rule_0 : decode cX12_rule 0 = .ok (.iload_n 1, 1) := o27 ac_cX12_rule_0 0 rfl
theorem dX12_rule_1 : decode cX12_rule 1 = .ok (.invokestatic 454, 3) := o184 ac_cX12_rule_0 1 1 198 rfl
theorem dX12_rule_4 : decode cX12_rule 4 = .ok (.ifCond .ne 7, 3) := o154p ac_cX12_rule_0 4 0 7 rfl rfl
theorem dX12_rule_11 : decode cX12_rule 11 = .ok (.aload_n 0, 1) := o42 ac_cX12_rule_0 11 rfl
theorem dX12_rule_12 : decode cX12_rule 12 = .ok (.invokevirtual 429, 3) := o182 ac_cX12_rule_0 12 1 173 rfl
theorem dX12_rule_15 : decode cX12_rule 15 = .ok (.iconst 0, 1) := o3 ac_cX12_rule_0 15 rfl
def kb_cX12_rule_16 : List Nat := [61, 3, 62, 29, 27, 162, 0, 20, 42, 182, 1, 131, 28, 42, 180, 1, 109, 96, 61, 132]
theorem ac_cX12_rule_16 : AL cX12_rule 16 kb_cX12_rule_16 := AL.of (m := 20) (by decide +kernel)
theorem dX12_rule_16 : decode cX12_rule 16 = .ok (.istore_n 2, 1) := o61 ac_cX12_rule_16 0 rfl
theorem dX12_rule_17 : decode cX12_rule 17 = .ok (.iconst 0, 1) := o3 ac_cX12_rule_16 1 rfl
theorem dX12_rule_18 : decode cX12_rule 18 = .ok (.istore_n 3, 1) := o62 ac_cX12_rule_16 2 rfl
theorem dX12_rule_19 : decode cX12_rule 19 = .ok (.iload_n 3, 1) := o29 ac_cX12_rule_16 3 rfl
theorem dX12_rule_20 : decode cX12_rule 20 = .ok (.iload_n 1, 1) := o27 ac_cX12_rule_16 4 rfl
theorem dX12_rule_21 : decode cX12_rule 21 = .ok (.if_icmp .ge 20, 3) := o162p ac_cX12_rule_16 5 0 20 rfl rfl
theorem dX12_rule_24 : decode cX12_rule 24 = .ok (.aload_n 0, 1) := o42 ac_cX12_rule_16 8 rfl
theorem dX12_rule_25 : decode cX12_rule 25 = .ok (.invokevirtual 387, 3) := o182 ac_cX12_rule_16 9 1 131 rfl
theorem dX12_rule_28 : decode cX12_rule 28 = .ok (.iload_n 2, 1) := o28 ac_cX12_rule_16 12 rfl
theorem dX12_rule_29 : decode cX12_rule 29 = .ok (.aload_n 0, 1) := o42 ac_cX12_rule_16 13 rfl
theorem dX12_rule_30 : decode cX12_rule 30 = .ok (.getfield 365, 3) := o180 ac_cX12_rule_16 14 1 109 rfl
def kb_cX12_rule_32 : List Nat := [109, 96, 61, 132, 3, 1, 167, 255, 237, 28, 172]
theorem ac_cX12_rule_32 : AL cX12_rule 32 kb_cX12_rule_32 := AL.of (m := 11) (by decide +kernel)
theorem dX12_rule_33 : decode cX12_rule 33 = .ok (.iadd, 1) := o96 ac_cX12_rule_32 1 rfl
theorem dX12_rule_34 : decode cX12_rule 34 = .ok (.istore_n 2, 1) := o61 ac_cX12_rule_32 2 rfl
theorem dX12_rule_35 : decode cX12_rule 35 = .ok (.iinc 3 1, 3) := o132p ac_cX12_rule_32 3 3 1 rfl rfl
theorem dX12_rule_38 : decode cX12_rule 38 = .ok (.goto (-19), 3) := o167n ac_cX12_rule_32 6 255 237 18 rfl rfl rfl
theorem dX12_rule_41 : decode cX12_rule 41 = .ok (.iload_n 2, 1) := o28 ac_cX12_rule_32 9 rfl
theorem dX12_rule_42 : decode cX12_rule 42 = .ok (.ireturn, 1) := o172 ac_cX12_rule_32 10 rfl
theorem dX12_rule_7 : decode cX12_rule 7 = .ok (.ldc_w 457, 3) := o19 ac_cX12_rule_0 7 1 201 rfl
theorem dX12_rule_10 : decode cX12_rule 10 = .ok (.ireturn, 1) := o172 ac_cX12_rule_0 10 rfl
def kb_cX12_light_0 : List Nat := [27, 184, 1, 198, 153, 0, 12, 28, 3, 4, 184, 1, 45, 154, 0, 5, 2, 172, 16, 254]
theorem ac_cX12_light_0 : AL cX12_light 0 kb_cX12_light_0 := AL.of (m := 20) (by decide +kernel)
theorem dX12_light_0 : decode cX12_light 0 = .ok (.iload_n 1, 1) := o27 ac_cX12_light_0 0 rfl
theorem dX12_light_1 : decode cX12_light 1 = .ok (.invokestatic 454, 3) := o184 ac_cX12_light_0 1 1 198 rfl
theorem dX12_light_4 : decode cX12_light 4 = .ok (.ifCond .eq 12, 3) := o153p ac_cX12_light_0 4 0 12 rfl rfl
theorem dX12_light_7 : decode cX12_light 7 = .ok (.iload_n 2, 1) := o28 ac_cX12_light_0 7 rfl
theorem dX12_light_8 : decode cX12_light 8 = .ok (.iconst 0, 1) := o3 ac_cX12_light_0 8 rfl
theorem dX12_light_9 : decode cX12_light 9 = .ok (.iconst 1, 1) := o4 ac_cX12_light_0 9 rfl
theorem dX12_light_10 : decode cX12_light 10 = .ok (.invokestatic 301, 3) := o184 ac_cX12_light_0 10 1 45 rfl
theorem dX12_light_13 : decode cX12_light 13 = .ok (.ifCond .ne 5, 3) := o154p ac_cX12_light_0 13 0 5 rfl rfl
def kb_cX12_light_16 : List Nat := [2, 172, 16, 254, 62, 16, 254, 54, 4, 3, 54, 5, 21, 5, 42, 180, 0, 55, 42, 180]
theorem ac_cX12_light_16 : AL cX12_light 16 kb_cX12_light_16 := AL.of (m := 20) (by decide +kernel)
theorem dX12_light_18 : decode cX12_light 18 = .ok (.bipush (-2), 2) := o16n ac_cX12_light_16 2 254 1 rfl rfl rfl
theorem dX12_light_20 : decode cX12_light 20 = .ok (.istore_n 3, 1) := o62 ac_cX12_light_16 4 rfl
theorem dX12_light_21 : decode cX12_light 21 = .ok (.bipush (-2), 2) := o16n ac_cX12_light_16 5 254 1 rfl rfl rfl
theorem dX12_light_23 : decode cX12_light 23 = .ok (.istore 4, 2) := o54 ac_cX12_light_16 7 4 rfl
theorem dX12_light_25 : decode cX12_light 25 = .ok (.iconst 0, 1) := o3 ac_cX12_light_16 9 rfl
theorem dX12_light_26 : decode cX12_light 26 = .ok (.istore 5, 2) := o54 ac_cX12_light_16 10 5 rfl
theorem dX12_light_28 : decode cX12_light 28 = .ok (.iload 5, 2) := o21 ac_cX12_light_16 12 5 rfl
theorem dX12_light_30 : decode cX12_light 30 = .ok (.aload_n 0, 1) := o42 ac_cX12_light_16 14 rfl
theorem dX12_light_31 : decode cX12_light 31 = .ok (.getfield 55, 3) := o180 ac_cX12_light_16 15 0 55 rfl
def kb_cX12_light_32 : List Nat := [0, 55, 42, 180, 0, 221, 46, 162, 0, 75, 42, 182, 1, 173, 42, 21, 5, 182, 1, 161]
theorem ac_cX12_light_32 : AL cX12_light 32 kb_cX12_light_32 := AL.of (m := 20) (by decide +kernel)
theorem dX12_light_34 : decode cX12_light 34 = .ok (.aload_n 0, 1) := o42 ac_cX12_light_32 2 rfl
theorem dX12_light_35 : decode cX12_light 35 = .ok (.getfield 221, 3) := o180 ac_cX12_light_32 3 0 221 rfl
theorem dX12_light_38 : decode cX12_light 38 = .ok (.iaload, 1) := o46 ac_cX12_light_32 6 rfl
theorem dX12_light_39 : decode cX12_light 39 = .ok (.if_icmp .ge 75, 3) := o162p ac_cX12_light_32 7 0 75 rfl rfl
def kb_cX12_light_112 : List Nat := [255, 173, 28, 154, 0, 7, 29, 167, 0, 5, 21, 4, 172]
theorem ac_cX12_light_112 : AL cX12_light 112 kb_cX12_light_112 := AL.of (m := 13) (by decide +kernel)
theorem dX12_light_114 : decode cX12_light 114 = .ok (.iload_n 2, 1) := o28 ac_cX12_light_112 2 rfl
theorem dX12_light_115 : decode cX12_light 115 = .ok (.ifCond .ne 7, 3) := o154p ac_cX12_light_112 3 0 7 rfl rfl
theorem dX12_light_118 : decode cX12_light 118 = .ok (.iload_n 3, 1) := o29 ac_cX12_light_112 6 rfl
theorem dX12_light_119 : decode cX12_light 119 = .ok (.goto 5, 3) := o167p ac_cX12_light_112 7 0 5 rfl rfl
theorem dX12_light_122 : decode cX12_light 122 = .ok (.iload 4, 2) := o21 ac_cX12_light_112 10 4 rfl
theorem dX12_light_124 : decode cX12_light 124 = .ok (.ireturn, 1) := o172 ac_cX12_light_112 12 rfl
theorem dX12_light_16 : decode cX12_light 16 = .ok (.iconst (-1), 1) := o2 ac_cX12_light_16 0 rfl
theorem dX12_light_17 : decode cX12_light 17 = .ok (.ireturn, 1) := o172 ac_cX12_light_16 1 rfl
def kb_cX12_order_0 : List Nat := [27, 3, 16, 6, 184, 1, 45, 154, 0, 5, 2, 172, 42, 182, 1, 55, 3, 61, 3, 62]
theorem ac_cX12_order_0 : AL cX12_order 0 kb_cX12_order_0 := AL.of (m := 20) (by decide +kernel)
theorem dX12_order_0 : decode cX12_order 0 = .ok (.iload_n 1, 1) := o27 ac_cX12_order_0 0 rfl
theorem dX12_order_1 : decode cX12_order 1 = .ok (.iconst 0, 1) := o3 ac_cX12_order_0 1 rfl
theorem dX12_order_2 : decode cX12_order 2 = .ok (.bipush 6, 2) := o16p ac_cX12_order_0 2 6 rfl rfl
theorem dX12_order_4 : decode cX12_order 4 = .ok (.invokestatic 301, 3) := o184 ac_cX12_order_0 4 1 45 rfl
theorem dX12_order_7 : decode cX12_order 7 = .ok (.ifCond .ne 5, 3) := o154p ac_cX12_order_0 7 0 5 rfl rfl
theorem dX12_order_12 : decode cX12_order 12 = .ok (.aload_n 0, 1) := o42 ac_cX12_order_0 12 rfl
theorem dX12_order_13 : decode cX12_order 13 = .ok (.invokevirtual 311, 3) := o182 ac_cX12_order_0 13 1 55 rfl
def kb_cX12_order_16 : List Nat := [3, 61, 3, 62, 29, 16, 70, 162, 0, 51, 42, 29, 16, 7, 112, 182, 1, 134, 153, 0]
theorem ac_cX12_order_16 : AL cX12_order 16 kb_cX12_order_16 := AL.of (m := 20) (by decide +kernel)
theorem dX12_order_16 : decode cX12_order 16 = .ok (.iconst 0, 1) := o3 ac_cX12_order_16 0 rfl
theorem dX12_order_17 : decode cX12_order 17 = .ok (.istore_n 2, 1) := o61 ac_cX12_order_16 1 rfl
theorem dX12_order_18 : decode cX12_order 18 = .ok (.iconst 0, 1) := o3 ac_cX12_order_16 2 rfl
theorem dX12_order_19 : decode cX12_order 19 = .ok (.istore_n 3, 1) := o62 ac_cX12_order_16 3 rfl
theorem dX12_order_20 : decode cX12_order 20 = .ok (.iload_n 3, 1) := o29 ac_cX12_order_16 4 rfl
theorem dX12_order_21 : decode cX12_order 21 = .ok (.bipush 70, 2) := o16p ac_cX12_order_16 5 70 rfl rfl
theorem dX12_order_23 : decode cX12_order 23 = .ok (.if_icmp .ge 51, 3) := o162p ac_cX12_order_16 7 0 51 rfl rfl
theorem dX12_order_26 : decode cX12_order 26 = .ok (.aload_n 0, 1) := o42 ac_cX12_order_16 10 rfl
theorem dX12_order_27 : decode cX12_order 27 = .ok (.iload_n 3, 1) := o29 ac_cX12_order_16 11 rfl
theorem dX12_order_28 : decode cX12_order 28 = .ok (.bipush 7, 2) := o16p ac_cX12_order_16 12 7 rfl rfl
theorem dX12_order_30 : decode cX12_order 30 = .ok (.irem, 1) := o112 ac_cX12_order_16 14 rfl
theorem dX12_order_31 : decode cX12_order 31 = .ok (.invokevirtual 390, 3) := o182 ac_cX12_order_16 15 1 134 rfl
def kb_cX12_order_32 : List Nat := [1, 134, 153, 0, 34, 42, 29, 16, 7, 112, 29, 16, 7, 108, 182, 1, 68, 154, 0, 6]
theorem ac_cX12_order_32 : AL cX12_order 32 kb_cX12_order_32 := AL.of (m := 20) (by decide +kernel)
theorem dX12_order_34 : decode cX12_order 34 = .ok (.ifCond .eq 34, 3) := o153p ac_cX12_order_32 2 0 34 rfl rfl
def kb_cX12_order_64 : List Nat := [172, 132, 2, 1, 132, 3, 1, 167, 255, 205, 2, 172]
theorem ac_cX12_order_64 : AL cX12_order 64 kb_cX12_order_64 := AL.of (m := 12) (by decide +kernel)
theorem dX12_order_68 : decode cX12_order 68 = .ok (.iinc 3 1, 3) := o132p ac_cX12_order_64 4 3 1 rfl rfl
theorem dX12_order_71 : decode cX12_order 71 = .ok (.goto (-51), 3) := o167n ac_cX12_order_64 7 255 205 50 rfl rfl rfl
theorem dX12_order_74 : decode cX12_order 74 = .ok (.iconst (-1), 1) := o2 ac_cX12_order_64 10 rfl
theorem dX12_order_75 : decode cX12_order 75 = .ok (.ireturn, 1) := o172 ac_cX12_order_64 11 rfl
theorem dX12_order_10 : decode cX12_order 10 = .ok (.iconst (-1), 1) := o2 ac_cX12_order_0 10 rfl
theorem dX12_order_11 : decode cX12_order 11 = .ok (.ireturn, 1) := o172 ac_cX12_order_0 11 rfl
def kb_cX12_glitterBits_0 : List Nat := [42, 182, 1, 173, 42, 3, 182, 1, 94, 61, 3, 62, 29, 16, 40, 163, 0, 23, 42, 182]
theorem ac_cX12_glitterBits_0 : AL cX12_glitterBits 0 kb_cX12_glitterBits_0 := AL.of (m := 20) (by decide +kernel)
theorem dX12_glitterBits_0 : decode cX12_glitterBits 0 = .ok (.aload_n 0, 1) := o42 ac_cX12_glitterBits_0 0 rfl
theorem dX12_glitterBits_1 : decode cX12_glitterBits 1 = .ok (.invokevirtual 429, 3) := o182 ac_cX12_glitterBits_0 1 1 173 rfl
theorem dX12_glitterBits_4 : decode cX12_glitterBits 4 = .ok (.aload_n 0, 1) := o42 ac_cX12_glitterBits_0 4 rfl
theorem dX12_glitterBits_5 : decode cX12_glitterBits 5 = .ok (.iconst 0, 1) := o3 ac_cX12_glitterBits_0 5 rfl
theorem dX12_glitterBits_6 : decode cX12_glitterBits 6 = .ok (.invokevirtual 350, 3) := o182 ac_cX12_glitterBits_0 6 1 94 rfl
theorem dX12_glitterBits_9 : decode cX12_glitterBits 9 = .ok (.istore_n 2, 1) := o61 ac_cX12_glitterBits_0 9 rfl
theorem dX12_glitterBits_10 : decode cX12_glitterBits 10 = .ok (.iconst 0, 1) := o3 ac_cX12_glitterBits_0 10 rfl
theorem dX12_glitterBits_11 : decode cX12_glitterBits 11 = .ok (.istore_n 3, 1) := o62 ac_cX12_glitterBits_0 11 rfl
theorem dX12_glitterBits_12 : decode cX12_glitterBits 12 = .ok (.iload_n 3, 1) := o29 ac_cX12_glitterBits_0 12 rfl
theorem dX12_glitterBits_13 : decode cX12_glitterBits 13 = .ok (.bipush 40, 2) := o16p ac_cX12_glitterBits_0 13 40 rfl rfl
theorem dX12_glitterBits_15 : decode cX12_glitterBits 15 = .ok (.if_icmp .gt 23, 3) := o163p ac_cX12_glitterBits_0 15 0 23 rfl rfl
def kb_cX12_glitterBits_16 : List Nat := [0, 23, 42, 182, 1, 131, 42, 180, 0, 131, 29, 42, 180, 1, 85, 79, 132, 3, 1, 167]
theorem ac_cX12_glitterBits_16 : AL cX12_glitterBits 16 kb_cX12_glitterBits_16 := AL.of (m := 20) (by decide +kernel)
theorem dX12_glitterBits_18 : decode cX12_glitterBits 18 = .ok (.aload_n 0, 1) := o42 ac_cX12_glitterBits_16 2 rfl
theorem dX12_glitterBits_19 : decode cX12_glitterBits 19 = .ok (.invokevirtual 387, 3) := o182 ac_cX12_glitterBits_16 3 1 131 rfl
theorem dX12_glitterBits_22 : decode cX12_glitterBits 22 = .ok (.aload_n 0, 1) := o42 ac_cX12_glitterBits_16 6 rfl
theorem dX12_glitterBits_23 : decode cX12_glitterBits 23 = .ok (.getfield 131, 3) := o180 ac_cX12_glitterBits_16 7 0 131 rfl
theorem dX12_glitterBits_26 : decode cX12_glitterBits 26 = .ok (.iload_n 3, 1) := o29 ac_cX12_glitterBits_16 10 rfl
theorem dX12_glitterBits_27 : decode cX12_glitterBits 27 = .ok (.aload_n 0, 1) := o42 ac_cX12_glitterBits_16 11 rfl
theorem dX12_glitterBits_28 : decode cX12_glitterBits 28 = .ok (.getfield 341, 3) := o180 ac_cX12_glitterBits_16 12 1 85 rfl
theorem dX12_glitterBits_31 : decode cX12_glitterBits 31 = .ok (.iastore, 1) := o79 ac_cX12_glitterBits_16 15 rfl
def kb_cX12_glitterBits_32 : List Nat := [132, 3, 1, 167, 255, 233, 3, 62, 29, 27, 162, 0, 64, 3, 54, 4, 21, 4, 16, 7]
theorem ac_cX12_glitterBits_32 : AL cX12_glitterBits 32 kb_cX12_glitterBits_32 := AL.of (m := 20) (by decide +kernel)
theorem dX12_glitterBits_32 : decode cX12_glitterBits 32 = .ok (.iinc 3 1, 3) := o132p ac_cX12_glitterBits_32 0 3 1 rfl rfl
theorem dX12_glitterBits_35 : decode cX12_glitterBits 35 = .ok (.goto (-23), 3) := o167n ac_cX12_glitterBits_32 3 255 233 22 rfl rfl rfl
theorem dX12_glitterBits_38 : decode cX12_glitterBits 38 = .ok (.iconst 0, 1) := o3 ac_cX12_glitterBits_32 6 rfl
theorem dX12_glitterBits_39 : decode cX12_glitterBits 39 = .ok (.istore_n 3, 1) := o62 ac_cX12_glitterBits_32 7 rfl
theorem dX12_glitterBits_40 : decode cX12_glitterBits 40 = .ok (.iload_n 3, 1) := o29 ac_cX12_glitterBits_32 8 rfl
theorem dX12_glitterBits_41 : decode cX12_glitterBits 41 = .ok (.iload_n 1, 1) := o27 ac_cX12_glitterBits_32 9 rfl
theorem dX12_glitterBits_42 : decode cX12_glitterBits 42 = .ok (.if_icmp .ge 64, 3) := o162p ac_cX12_glitterBits_32 10 0 64 rfl rfl
def kb_cX12_glitterBits_96 : List Nat := [1, 167, 255, 207, 132, 3, 1, 167, 255, 193, 28, 172]
theorem ac_cX12_glitterBits_96 : AL cX12_glitterBits 96 kb_cX12_glitterBits_96 := AL.of (m := 12) (by decide +kernel)
theorem dX12_glitterBits_106 : decode cX12_glitterBits 106 = .ok (.iload_n 2, 1) := o28 ac_cX12_glitterBits_96 10 rfl
theorem dX12_glitterBits_107 : decode cX12_glitterBits 107 = .ok (.ireturn, 1) := o172 ac_cX12_glitterBits_96 11 rfl
def kb_cX12_watch_0 : List Nat := [27, 3, 42, 180, 0, 242, 184, 1, 45, 154, 0, 5, 2, 172, 42, 27, 182, 1, 202, 61]
theorem ac_cX12_watch_0 : AL cX12_watch 0 kb_cX12_watch_0 := AL.of (m := 20) (by decide +kernel)
theorem dX12_watch_0 : decode cX12_watch 0 = .ok (.iload_n 1, 1) := o27 ac_cX12_watch_0 0 rfl
theorem dX12_watch_1 : decode cX12_watch 1 = .ok (.iconst 0, 1) := o3 ac_cX12_watch_0 1 rfl
theorem dX12_watch_2 : decode cX12_watch 2 = .ok (.aload_n 0, 1) := o42 ac_cX12_watch_0 2 rfl
theorem dX12_watch_3 : decode cX12_watch 3 = .ok (.getfield 242, 3) := o180 ac_cX12_watch_0 3 0 242 rfl
theorem dX12_watch_6 : decode cX12_watch 6 = .ok (.invokestatic 301, 3) := o184 ac_cX12_watch_0 6 1 45 rfl
theorem dX12_watch_9 : decode cX12_watch 9 = .ok (.ifCond .ne 5, 3) := o154p ac_cX12_watch_0 9 0 5 rfl rfl
theorem dX12_watch_14 : decode cX12_watch 14 = .ok (.aload_n 0, 1) := o42 ac_cX12_watch_0 14 rfl
theorem dX12_watch_15 : decode cX12_watch 15 = .ok (.iload_n 1, 1) := o27 ac_cX12_watch_0 15 rfl
def kb_cX12_watch_16 : List Nat := [182, 1, 202, 61, 28, 184, 1, 97, 62, 16, 254, 54, 4, 3, 54, 5, 3, 54, 6, 21]
theorem ac_cX12_watch_16 : AL cX12_watch 16 kb_cX12_watch_16 := AL.of (m := 20) (by decide +kernel)
theorem dX12_watch_16 : decode cX12_watch 16 = .ok (.invokevirtual 458, 3) := o182 ac_cX12_watch_16 0 1 202 rfl
theorem dX12_watch_19 : decode cX12_watch 19 = .ok (.istore_n 2, 1) := o61 ac_cX12_watch_16 3 rfl
theorem dX12_watch_20 : decode cX12_watch 20 = .ok (.iload_n 2, 1) := o28 ac_cX12_watch_16 4 rfl
theorem dX12_watch_21 : decode cX12_watch 21 = .ok (.invokestatic 353, 3) := o184 ac_cX12_watch_16 5 1 97 rfl
theorem dX12_watch_24 : decode cX12_watch 24 = .ok (.istore_n 3, 1) := o62 ac_cX12_watch_16 8 rfl
theorem dX12_watch_25 : decode cX12_watch 25 = .ok (.bipush (-2), 2) := o16n ac_cX12_watch_16 9 254 1 rfl rfl rfl
theorem dX12_watch_27 : decode cX12_watch 27 = .ok (.istore 4, 2) := o54 ac_cX12_watch_16 11 4 rfl
theorem dX12_watch_29 : decode cX12_watch 29 = .ok (.iconst 0, 1) := o3 ac_cX12_watch_16 13 rfl
theorem dX12_watch_30 : decode cX12_watch 30 = .ok (.istore 5, 2) := o54 ac_cX12_watch_16 14 5 rfl
def kb_cX12_watch_32 : List Nat := [3, 54, 6, 21, 6, 16, 40, 163, 0, 88, 29, 158, 0, 84, 42, 180, 0, 131, 21, 6]
theorem ac_cX12_watch_32 : AL cX12_watch 32 kb_cX12_watch_32 := AL.of (m := 20) (by decide +kernel)
theorem dX12_watch_32 : decode cX12_watch 32 = .ok (.iconst 0, 1) := o3 ac_cX12_watch_32 0 rfl
theorem dX12_watch_33 : decode cX12_watch 33 = .ok (.istore 6, 2) := o54 ac_cX12_watch_32 1 6 rfl
theorem dX12_watch_35 : decode cX12_watch 35 = .ok (.iload 6, 2) := o21 ac_cX12_watch_32 3 6 rfl
theorem dX12_watch_37 : decode cX12_watch 37 = .ok (.bipush 40, 2) := o16p ac_cX12_watch_32 5 40 rfl rfl
theorem dX12_watch_39 : decode cX12_watch 39 = .ok (.if_icmp .gt 88, 3) := o163p ac_cX12_watch_32 7 0 88 rfl rfl
theorem dX12_watch_42 : decode cX12_watch 42 = .ok (.iload_n 3, 1) := o29 ac_cX12_watch_32 10 rfl
theorem dX12_watch_43 : decode cX12_watch 43 = .ok (.ifCond .le 84, 3) := o158p ac_cX12_watch_32 11 0 84 rfl rfl
def kb_cX12_watch_112 : List Nat := [11, 21, 6, 54, 4, 21, 8, 54, 5, 132, 6, 1, 167, 255, 167, 21, 4, 172]
theorem ac_cX12_watch_112 : AL cX12_watch 112 kb_cX12_watch_112 := AL.of (m := 18) (by decide +kernel)
theorem dX12_watch_127 : decode cX12_watch 127 = .ok (.iload 4, 2) := o21 ac_cX12_watch_112 15 4 rfl
def kb_cX12_watch_128 : List Nat := [4, 172]
theorem ac_cX12_watch_128 : AL cX12_watch 128 kb_cX12_watch_128 := AL.of (m := 2) (by decide +kernel)
theorem dX12_watch_129 : decode cX12_watch 129 = .ok (.ireturn, 1) := o172 ac_cX12_watch_128 1 rfl
theorem dX12_watch_12 : decode cX12_watch 12 = .ok (.iconst (-1), 1) := o2 ac_cX12_watch_0 12 rfl
theorem dX12_watch_13 : decode cX12_watch 13 = .ok (.ireturn, 1) := o172 ac_cX12_watch_0 13 rfl
def kb_cX12_glitters_0 : List Nat := [27, 3, 42, 180, 0, 242, 184, 1, 45, 153, 0, 12, 28, 3, 4, 184, 1, 45, 154, 0]
theorem ac_cX12_glitters_0 : AL cX12_glitters 0 kb_cX12_glitters_0 := AL.of (m := 20) (by decide +kernel)
theorem dX12_glitters_0 : decode cX12_glitters 0 = .ok (.iload_n 1, 1) := o27 ac_cX12_glitters_0 0 rfl
theorem dX12_glitters_1 : decode cX12_glitters 1 = .ok (.iconst 0, 1) := o3 ac_cX12_glitters_0 1 rfl
theorem dX12_glitters_2 : decode cX12_glitters 2 = .ok (.aload_n 0, 1) := o42 ac_cX12_glitters_0 2 rfl
theorem dX12_glitters_3 : decode cX12_glitters 3 = .ok (.getfield 242, 3) := o180 ac_cX12_glitters_0 3 0 242 rfl
theorem dX12_glitters_6 : decode cX12_glitters 6 = .ok (.invokestatic 301, 3) := o184 ac_cX12_glitters_0 6 1 45 rfl
theorem dX12_glitters_9 : decode cX12_glitters 9 = .ok (.ifCond .eq 12, 3) := o153p ac_cX12_glitters_0 9 0 12 rfl rfl
theorem dX12_glitters_12 : decode cX12_glitters 12 = .ok (.iload_n 2, 1) := o28 ac_cX12_glitters_0 12 rfl
theorem dX12_glitters_13 : decode cX12_glitters 13 = .ok (.iconst 0, 1) := o3 ac_cX12_glitters_0 13 rfl
theorem dX12_glitters_14 : decode cX12_glitters 14 = .ok (.iconst 1, 1) := o4 ac_cX12_glitters_0 14 rfl
theorem dX12_glitters_15 : decode cX12_glitters 15 = .ok (.invokestatic 301, 3) := o184 ac_cX12_glitters_0 15 1 45 rfl
def kb_cX12_glitters_16 : List Nat := [1, 45, 154, 0, 5, 2, 172, 42, 27, 182, 1, 202, 62, 28, 154, 0, 10, 29, 184, 1]
theorem ac_cX12_glitters_16 : AL cX12_glitters 16 kb_cX12_glitters_16 := AL.of (m := 20) (by decide +kernel)
theorem dX12_glitters_18 : decode cX12_glitters 18 = .ok (.ifCond .ne 5, 3) := o154p ac_cX12_glitters_16 2 0 5 rfl rfl
theorem dX12_glitters_23 : decode cX12_glitters 23 = .ok (.aload_n 0, 1) := o42 ac_cX12_glitters_16 7 rfl
theorem dX12_glitters_24 : decode cX12_glitters 24 = .ok (.iload_n 1, 1) := o27 ac_cX12_glitters_16 8 rfl
theorem dX12_glitters_25 : decode cX12_glitters 25 = .ok (.invokevirtual 458, 3) := o182 ac_cX12_glitters_16 9 1 202 rfl
theorem dX12_glitters_28 : decode cX12_glitters 28 = .ok (.istore_n 3, 1) := o62 ac_cX12_glitters_16 12 rfl
theorem dX12_glitters_29 : decode cX12_glitters 29 = .ok (.iload_n 2, 1) := o28 ac_cX12_glitters_16 13 rfl
theorem dX12_glitters_30 : decode cX12_glitters 30 = .ok (.ifCond .ne 10, 3) := o154p ac_cX12_glitters_16 14 0 10 rfl rfl
def kb_cX12_glitters_32 : List Nat := [10, 29, 184, 1, 97, 167, 0, 4, 29, 172]
theorem ac_cX12_glitters_32 : AL cX12_glitters 32 kb_cX12_glitters_32 := AL.of (m := 10) (by decide +kernel)
theorem dX12_glitters_33 : decode cX12_glitters 33 = .ok (.iload_n 3, 1) := o29 ac_cX12_glitters_32 1 rfl
theorem dX12_glitters_34 : decode cX12_glitters 34 = .ok (.invokestatic 353, 3) := o184 ac_cX12_glitters_32 2 1 97 rfl
theorem dX12_glitters_37 : decode cX12_glitters 37 = .ok (.goto 4, 3) := o167p ac_cX12_glitters_32 5 0 4 rfl rfl
theorem dX12_glitters_40 : decode cX12_glitters 40 = .ok (.iload_n 3, 1) := o29 ac_cX12_glitters_32 8 rfl
theorem dX12_glitters_41 : decode cX12_glitters 41 = .ok (.ireturn, 1) := o172 ac_cX12_glitters_32 9 rfl
theorem dX12_glitters_21 : decode cX12_glitters 21 = .ok (.iconst (-1), 1) := o2 ac_cX12_glitters_16 5 rfl
theorem dX12_glitters_22 : decode cX12_glitters 22 = .ok (.ireturn, 1) := o172 ac_cX12_glitters_16 6 rfl
def kb_cX12_then_0 : List Nat := [27, 184, 1, 146, 153, 0, 12, 28, 3, 6, 184, 1, 45, 154, 0, 5, 2, 172, 42, 182]
theorem ac_cX12_then_0 : AL cX12_then 0 kb_cX12_then_0 := AL.of (m := 20) (by decide +kernel)
theorem dX12_then_0 : decode cX12_then 0 = .ok (.iload_n 1, 1) := o27 ac_cX12_then_0 0 rfl
theorem dX12_then_1 : decode cX12_then 1 = .ok (.invokestatic 402, 3) := o184 ac_cX12_then_0 1 1 146 rfl
theorem dX12_then_4 : decode cX12_then 4 = .ok (.ifCond .eq 12, 3) := o153p ac_cX12_then_0 4 0 12 rfl rfl
theorem dX12_then_7 : decode cX12_then 7 = .ok (.iload_n 2, 1) := o28 ac_cX12_then_0 7 rfl
theorem dX12_then_8 : decode cX12_then 8 = .ok (.iconst 0, 1) := o3 ac_cX12_then_0 8 rfl
theorem dX12_then_9 : decode cX12_then 9 = .ok (.iconst 3, 1) := o6 ac_cX12_then_0 9 rfl
theorem dX12_then_10 : decode cX12_then 10 = .ok (.invokestatic 301, 3) := o184 ac_cX12_then_0 10 1 45 rfl
theorem dX12_then_13 : decode cX12_then 13 = .ok (.ifCond .ne 5, 3) := o154p ac_cX12_then_0 13 0 5 rfl rfl
def kb_cX12_then_16 : List Nat := [2, 172, 42, 182, 1, 55, 42, 27, 182, 1, 149, 28, 170, 0, 0, 0, 0, 0, 0, 61]
theorem ac_cX12_then_16 : AL cX12_then 16 kb_cX12_then_16 := AL.of (m := 20) (by decide +kernel)
theorem dX12_then_18 : decode cX12_then 18 = .ok (.aload_n 0, 1) := o42 ac_cX12_then_16 2 rfl
theorem dX12_then_19 : decode cX12_then 19 = .ok (.invokevirtual 311, 3) := o182 ac_cX12_then_16 3 1 55 rfl
theorem dX12_then_22 : decode cX12_then 22 = .ok (.aload_n 0, 1) := o42 ac_cX12_then_16 6 rfl
theorem dX12_then_23 : decode cX12_then 23 = .ok (.iload_n 1, 1) := o27 ac_cX12_then_16 7 rfl
theorem dX12_then_24 : decode cX12_then 24 = .ok (.invokevirtual 405, 3) := o182 ac_cX12_then_16 8 1 149 rfl
theorem dX12_then_27 : decode cX12_then 27 = .ok (.iload_n 2, 1) := o28 ac_cX12_then_16 11 rfl
theorem dX12_then_28 : decode cX12_then 28 = .ok (.tableswitch 61 0 2 #[28, 36, 45], 28) := by decide +kernel
def kb_cX12_then_48 : List Nat := [0, 0, 0, 36, 0, 0, 0, 45, 42, 180, 0, 110, 16, 22, 46, 172, 42, 3, 182, 1]
theorem ac_cX12_then_48 : AL cX12_then 48 kb_cX12_then_48 := AL.of (m := 20) (by decide +kernel)
theorem dX12_then_56 : decode cX12_then 56 = .ok (.aload_n 0, 1) := o42 ac_cX12_then_48 8 rfl
theorem dX12_then_57 : decode cX12_then 57 = .ok (.getfield 110, 3) := o180 ac_cX12_then_48 9 0 110 rfl
theorem dX12_then_60 : decode cX12_then 60 = .ok (.bipush 22, 2) := o16p ac_cX12_then_48 12 22 rfl rfl
theorem dX12_then_62 : decode cX12_then 62 = .ok (.iaload, 1) := o46 ac_cX12_then_48 14 rfl
theorem dX12_then_63 : decode cX12_then 63 = .ok (.ireturn, 1) := o172 ac_cX12_then_48 15 rfl
def kb_cX12_then_64 : List Nat := [42, 3, 182, 1, 94, 184, 1, 97, 172, 42, 180, 0, 110, 16, 23, 46, 42, 180, 0, 107]
theorem ac_cX12_then_64 : AL cX12_then 64 kb_cX12_then_64 := AL.of (m := 20) (by decide +kernel)
theorem dX12_then_64 : decode cX12_then 64 = .ok (.aload_n 0, 1) := o42 ac_cX12_then_64 0 rfl
theorem dX12_then_65 : decode cX12_then 65 = .ok (.iconst 0, 1) := o3 ac_cX12_then_64 1 rfl
theorem dX12_then_66 : decode cX12_then 66 = .ok (.invokevirtual 350, 3) := o182 ac_cX12_then_64 2 1 94 rfl
theorem dX12_then_69 : decode cX12_then 69 = .ok (.invokestatic 353, 3) := o184 ac_cX12_then_64 5 1 97 rfl
theorem dX12_then_72 : decode cX12_then 72 = .ok (.ireturn, 1) := o172 ac_cX12_then_64 8 rfl
theorem dX12_then_73 : decode cX12_then 73 = .ok (.aload_n 0, 1) := o42 ac_cX12_then_64 9 rfl
theorem dX12_then_74 : decode cX12_then 74 = .ok (.getfield 110, 3) := o180 ac_cX12_then_64 10 0 110 rfl
theorem dX12_then_77 : decode cX12_then 77 = .ok (.bipush 23, 2) := o16p ac_cX12_then_64 13 23 rfl rfl
theorem dX12_then_79 : decode cX12_then 79 = .ok (.iaload, 1) := o46 ac_cX12_then_64 15 rfl
def kb_cX12_then_80 : List Nat := [42, 180, 0, 107, 16, 23, 46, 100, 172, 42, 180, 0, 110, 16, 25, 46, 42, 180, 0, 107]
theorem ac_cX12_then_80 : AL cX12_then 80 kb_cX12_then_80 := AL.of (m := 20) (by decide +kernel)
theorem dX12_then_80 : decode cX12_then 80 = .ok (.aload_n 0, 1) := o42 ac_cX12_then_80 0 rfl
theorem dX12_then_81 : decode cX12_then 81 = .ok (.getfield 107, 3) := o180 ac_cX12_then_80 1 0 107 rfl
theorem dX12_then_84 : decode cX12_then 84 = .ok (.bipush 23, 2) := o16p ac_cX12_then_80 4 23 rfl rfl
theorem dX12_then_86 : decode cX12_then 86 = .ok (.iaload, 1) := o46 ac_cX12_then_80 6 rfl
theorem dX12_then_87 : decode cX12_then 87 = .ok (.isub, 1) := o100 ac_cX12_then_80 7 rfl
theorem dX12_then_88 : decode cX12_then 88 = .ok (.ireturn, 1) := o172 ac_cX12_then_80 8 rfl
theorem dX12_then_89 : decode cX12_then 89 = .ok (.aload_n 0, 1) := o42 ac_cX12_then_80 9 rfl
theorem dX12_then_90 : decode cX12_then 90 = .ok (.getfield 110, 3) := o180 ac_cX12_then_80 10 0 110 rfl
theorem dX12_then_93 : decode cX12_then 93 = .ok (.bipush 25, 2) := o16p ac_cX12_then_80 13 25 rfl rfl
theorem dX12_then_95 : decode cX12_then 95 = .ok (.iaload, 1) := o46 ac_cX12_then_80 15 rfl
def kb_cX12_then_96 : List Nat := [42, 180, 0, 107, 16, 25, 46, 100, 172]
theorem ac_cX12_then_96 : AL cX12_then 96 kb_cX12_then_96 := AL.of (m := 9) (by decide +kernel)
theorem dX12_then_96 : decode cX12_then 96 = .ok (.aload_n 0, 1) := o42 ac_cX12_then_96 0 rfl
theorem dX12_then_97 : decode cX12_then 97 = .ok (.getfield 107, 3) := o180 ac_cX12_then_96 1 0 107 rfl
theorem dX12_then_100 : decode cX12_then 100 = .ok (.bipush 25, 2) := o16p ac_cX12_then_96 4 25 rfl rfl
theorem dX12_then_102 : decode cX12_then 102 = .ok (.iaload, 1) := o46 ac_cX12_then_96 6 rfl
theorem dX12_then_103 : decode cX12_then 103 = .ok (.isub, 1) := o100 ac_cX12_then_96 7 rfl
theorem dX12_then_104 : decode cX12_then 104 = .ok (.ireturn, 1) := o172 ac_cX12_then_96 8 rfl
theorem dX12_then_16 : decode cX12_then 16 = .ok (.iconst (-1), 1) := o2 ac_cX12_then_16 0 rfl
theorem dX12_then_17 : decode cX12_then 17 = .ok (.ireturn, 1) := o172 ac_cX12_then_16 1 rfl
def kb_cX12_year_0 : List Nat := [27, 184, 1, 146, 153, 0, 13, 28, 4, 16, 20, 184, 1, 45, 154, 0, 5, 2, 172, 3]
theorem ac_cX12_year_0 : AL cX12_year 0 kb_cX12_year_0 := AL.of (m := 20) (by decide +kernel)
theorem dX12_year_0 : decode cX12_year 0 = .ok (.iload_n 1, 1) := o27 ac_cX12_year_0 0 rfl
theorem dX12_year_1 : decode cX12_year 1 = .ok (.invokestatic 402, 3) := o184 ac_cX12_year_0 1 1 146 rfl
theorem dX12_year_4 : decode cX12_year 4 = .ok (.ifCond .eq 13, 3) := o153p ac_cX12_year_0 4 0 13 rfl rfl
theorem dX12_year_7 : decode cX12_year 7 = .ok (.iload_n 2, 1) := o28 ac_cX12_year_0 7 rfl
theorem dX12_year_8 : decode cX12_year 8 = .ok (.iconst 1, 1) := o4 ac_cX12_year_0 8 rfl
theorem dX12_year_9 : decode cX12_year 9 = .ok (.bipush 20, 2) := o16p ac_cX12_year_0 9 20 rfl rfl
theorem dX12_year_11 : decode cX12_year 11 = .ok (.invokestatic 301, 3) := o184 ac_cX12_year_0 11 1 45 rfl
theorem dX12_year_14 : decode cX12_year 14 = .ok (.ifCond .ne 5, 3) := o154p ac_cX12_year_0 14 0 5 rfl rfl
def kb_cX12_year_16 : List Nat := [5, 2, 172, 3, 62, 3, 54, 4, 21, 4, 28, 162, 0, 49, 42, 182, 1, 55, 42, 89]
theorem ac_cX12_year_16 : AL cX12_year 16 kb_cX12_year_16 := AL.of (m := 20) (by decide +kernel)
theorem dX12_year_19 : decode cX12_year 19 = .ok (.iconst 0, 1) := o3 ac_cX12_year_16 3 rfl
theorem dX12_year_20 : decode cX12_year 20 = .ok (.istore_n 3, 1) := o62 ac_cX12_year_16 4 rfl
theorem dX12_year_21 : decode cX12_year 21 = .ok (.iconst 0, 1) := o3 ac_cX12_year_16 5 rfl
theorem dX12_year_22 : decode cX12_year 22 = .ok (.istore 4, 2) := o54 ac_cX12_year_16 6 4 rfl
theorem dX12_year_24 : decode cX12_year 24 = .ok (.iload 4, 2) := o21 ac_cX12_year_16 8 4 rfl
theorem dX12_year_26 : decode cX12_year 26 = .ok (.iload_n 2, 1) := o28 ac_cX12_year_16 10 rfl
theorem dX12_year_27 : decode cX12_year 27 = .ok (.if_icmp .ge 49, 3) := o162p ac_cX12_year_16 11 0 49 rfl rfl
theorem dX12_year_30 : decode cX12_year 30 = .ok (.aload_n 0, 1) := o42 ac_cX12_year_16 14 rfl
theorem dX12_year_31 : decode cX12_year 31 = .ok (.invokevirtual 311, 3) := o182 ac_cX12_year_16 15 1 55 rfl
def kb_cX12_year_32 : List Nat := [1, 55, 42, 89, 180, 1, 49, 21, 4, 96, 181, 1, 49, 42, 27, 182, 1, 149, 42, 180]
theorem ac_cX12_year_32 : AL cX12_year 32 kb_cX12_year_32 := AL.of (m := 20) (by decide +kernel)
theorem dX12_year_34 : decode cX12_year 34 = .ok (.aload_n 0, 1) := o42 ac_cX12_year_32 2 rfl
theorem dX12_year_35 : decode cX12_year 35 = .ok (.dup, 1) := o89 ac_cX12_year_32 3 rfl
theorem dX12_year_36 : decode cX12_year 36 = .ok (.getfield 305, 3) := o180 ac_cX12_year_32 4 1 49 rfl
theorem dX12_year_39 : decode cX12_year 39 = .ok (.iload 4, 2) := o21 ac_cX12_year_32 7 4 rfl
theorem dX12_year_41 : decode cX12_year 41 = .ok (.iadd, 1) := o96 ac_cX12_year_32 9 rfl
theorem dX12_year_42 : decode cX12_year 42 = .ok (.putfield 305, 3) := o181 ac_cX12_year_32 10 1 49 rfl
theorem dX12_year_45 : decode cX12_year 45 = .ok (.aload_n 0, 1) := o42 ac_cX12_year_32 13 rfl
theorem dX12_year_46 : decode cX12_year 46 = .ok (.iload_n 1, 1) := o27 ac_cX12_year_32 14 rfl
theorem dX12_year_47 : decode cX12_year 47 = .ok (.invokevirtual 405, 3) := o182 ac_cX12_year_32 15 1 149 rfl
def kb_cX12_year_48 : List Nat := [1, 149, 42, 180, 0, 110, 16, 23, 46, 42, 180, 0, 107, 16, 23, 46, 160, 0, 6, 132]
theorem ac_cX12_year_48 : AL cX12_year 48 kb_cX12_year_48 := AL.of (m := 20) (by decide +kernel)
theorem dX12_year_50 : decode cX12_year 50 = .ok (.aload_n 0, 1) := o42 ac_cX12_year_48 2 rfl
theorem dX12_year_51 : decode cX12_year 51 = .ok (.getfield 110, 3) := o180 ac_cX12_year_48 3 0 110 rfl
theorem dX12_year_54 : decode cX12_year 54 = .ok (.bipush 23, 2) := o16p ac_cX12_year_48 6 23 rfl rfl
theorem dX12_year_56 : decode cX12_year 56 = .ok (.iaload, 1) := o46 ac_cX12_year_48 8 rfl
theorem dX12_year_57 : decode cX12_year 57 = .ok (.aload_n 0, 1) := o42 ac_cX12_year_48 9 rfl
theorem dX12_year_58 : decode cX12_year 58 = .ok (.getfield 107, 3) := o180 ac_cX12_year_48 10 0 107 rfl
theorem dX12_year_61 : decode cX12_year 61 = .ok (.bipush 23, 2) := o16p ac_cX12_year_48 13 23 rfl rfl
theorem dX12_year_63 : decode cX12_year 63 = .ok (.iaload, 1) := o46 ac_cX12_year_48 15 rfl
def kb_cX12_year_64 : List Nat := [160, 0, 6, 132, 3, 1, 132, 4, 1, 167, 255, 207, 29, 172]
theorem ac_cX12_year_64 : AL cX12_year 64 kb_cX12_year_64 := AL.of (m := 14) (by decide +kernel)
theorem dX12_year_64 : decode cX12_year 64 = .ok (.if_icmp .ne 6, 3) := o160p ac_cX12_year_64 0 0 6 rfl rfl
theorem dX12_year_67 : decode cX12_year 67 = .ok (.iinc 3 1, 3) := o132p ac_cX12_year_64 3 3 1 rfl rfl
theorem dX12_year_70 : decode cX12_year 70 = .ok (.iinc 4 1, 3) := o132p ac_cX12_year_64 6 4 1 rfl rfl
theorem dX12_year_73 : decode cX12_year 73 = .ok (.goto (-49), 3) := o167n ac_cX12_year_64 9 255 207 48 rfl rfl rfl
theorem dX12_year_76 : decode cX12_year 76 = .ok (.iload_n 3, 1) := o29 ac_cX12_year_64 12 rfl
theorem dX12_year_77 : decode cX12_year 77 = .ok (.ireturn, 1) := o172 ac_cX12_year_64 13 rfl
theorem dX12_year_17 : decode cX12_year 17 = .ok (.iconst (-1), 1) := o2 ac_cX12_year_16 1 rfl
theorem dX12_year_18 : decode cX12_year 18 = .ok (.ireturn, 1) := o172 ac_cX12_year_16 2 rfl
def kb_cX12_byteAt_0 : List Nat := [27, 42, 180, 0, 160, 162, 0, 16, 42, 180, 0, 17, 27, 51, 17, 0, 255, 126, 167, 0]
theorem ac_cX12_byteAt_0 : AL cX12_byteAt 0 kb_cX12_byteAt_0 := AL.of (m := 20) (by decide +kernel)
theorem dX12_byteAt_0 : decode cX12_byteAt 0 = .ok (.iload_n 1, 1) := o27 ac_cX12_byteAt_0 0 rfl
theorem dX12_byteAt_1 : decode cX12_byteAt 1 = .ok (.aload_n 0, 1) := o42 ac_cX12_byteAt_0 1 rfl
theorem dX12_byteAt_2 : decode cX12_byteAt 2 = .ok (.getfield 160, 3) := o180 ac_cX12_byteAt_0 2 0 160 rfl
theorem dX12_byteAt_5 : decode cX12_byteAt 5 = .ok (.if_icmp .ge 16, 3) := o162p ac_cX12_byteAt_0 5 0 16 rfl rfl
def kb_cX12_byteAt_16 : List Nat := [255, 126, 167, 0, 4, 3, 172]
theorem ac_cX12_byteAt_16 : AL cX12_byteAt 16 kb_cX12_byteAt_16 := AL.of (m := 7) (by decide +kernel)
theorem dX12_byteAt_21 : decode cX12_byteAt 21 = .ok (.iconst 0, 1) := o3 ac_cX12_byteAt_16 5 rfl
theorem dX12_byteAt_22 : decode cX12_byteAt 22 = .ok (.ireturn, 1) := o172 ac_cX12_byteAt_16 6 rfl
def kb_cX12_token_0 : List Nat := [42, 180, 0, 20, 42, 180, 0, 169, 27, 79, 42, 180, 0, 24, 42, 180, 0, 169, 28, 79]
theorem ac_cX12_token_0 : AL cX12_token 0 kb_cX12_token_0 := AL.of (m := 20) (by decide +kernel)
theorem dX12_token_0 : decode cX12_token 0 = .ok (.aload_n 0, 1) := o42 ac_cX12_token_0 0 rfl
theorem dX12_token_1 : decode cX12_token 1 = .ok (.getfield 20, 3) := o180 ac_cX12_token_0 1 0 20 rfl
theorem dX12_token_4 : decode cX12_token 4 = .ok (.aload_n 0, 1) := o42 ac_cX12_token_0 4 rfl
theorem dX12_token_5 : decode cX12_token 5 = .ok (.getfield 169, 3) := o180 ac_cX12_token_0 5 0 169 rfl
theorem dX12_token_8 : decode cX12_token 8 = .ok (.iload_n 1, 1) := o27 ac_cX12_token_0 8 rfl
theorem dX12_token_9 : decode cX12_token 9 = .ok (.iastore, 1) := o79 ac_cX12_token_0 9 rfl
theorem dX12_token_10 : decode cX12_token 10 = .ok (.aload_n 0, 1) := o42 ac_cX12_token_0 10 rfl
theorem dX12_token_11 : decode cX12_token 11 = .ok (.getfield 24, 3) := o180 ac_cX12_token_0 11 0 24 rfl
theorem dX12_token_14 : decode cX12_token 14 = .ok (.aload_n 0, 1) := o42 ac_cX12_token_0 14 rfl
theorem dX12_token_15 : decode cX12_token 15 = .ok (.getfield 169, 3) := o180 ac_cX12_token_0 15 0 169 rfl
def kb_cX12_token_16 : List Nat := [0, 169, 28, 79, 42, 180, 0, 27, 42, 180, 0, 169, 29, 79, 42, 180, 0, 30, 42, 180]
theorem ac_cX12_token_16 : AL cX12_token 16 kb_cX12_token_16 := AL.of (m := 20) (by decide +kernel)
theorem dX12_token_18 : decode cX12_token 18 = .ok (.iload_n 2, 1) := o28 ac_cX12_token_16 2 rfl
theorem dX12_token_19 : decode cX12_token 19 = .ok (.iastore, 1) := o79 ac_cX12_token_16 3 rfl
theorem dX12_token_20 : decode cX12_token 20 = .ok (.aload_n 0, 1) := o42 ac_cX12_token_16 4 rfl
theorem dX12_token_21 : decode cX12_token 21 = .ok (.getfield 27, 3) := o180 ac_cX12_token_16 5 0 27 rfl
theorem dX12_token_24 : decode cX12_token 24 = .ok (.aload_n 0, 1) := o42 ac_cX12_token_16 8 rfl
theorem dX12_token_25 : decode cX12_token 25 = .ok (.getfield 169, 3) := o180 ac_cX12_token_16 9 0 169 rfl
theorem dX12_token_28 : decode cX12_token 28 = .ok (.iload_n 3, 1) := o29 ac_cX12_token_16 12 rfl
theorem dX12_token_29 : decode cX12_token 29 = .ok (.iastore, 1) := o79 ac_cX12_token_16 13 rfl
theorem dX12_token_30 : decode cX12_token 30 = .ok (.aload_n 0, 1) := o42 ac_cX12_token_16 14 rfl
theorem dX12_token_31 : decode cX12_token 31 = .ok (.getfield 30, 3) := o180 ac_cX12_token_16 15 0 30 rfl
def kb_cX12_token_32 : List Nat := [0, 30, 42, 180, 0, 169, 22, 4, 80, 42, 89, 180, 0, 169, 4, 96, 181, 0, 169, 177]
theorem ac_cX12_token_32 : AL cX12_token 32 kb_cX12_token_32 := AL.of (m := 20) (by decide +kernel)
theorem dX12_token_34 : decode cX12_token 34 = .ok (.aload_n 0, 1) := o42 ac_cX12_token_32 2 rfl
theorem dX12_token_35 : decode cX12_token 35 = .ok (.getfield 169, 3) := o180 ac_cX12_token_32 3 0 169 rfl
theorem dX12_token_38 : decode cX12_token 38 = .ok (.lload 4, 2) := o22 ac_cX12_token_32 6 4 rfl
theorem dX12_token_40 : decode cX12_token 40 = .ok (.lastore, 1) := o80 ac_cX12_token_32 8 rfl
theorem dX12_token_41 : decode cX12_token 41 = .ok (.aload_n 0, 1) := o42 ac_cX12_token_32 9 rfl
theorem dX12_token_42 : decode cX12_token 42 = .ok (.dup, 1) := o89 ac_cX12_token_32 10 rfl
theorem dX12_token_43 : decode cX12_token 43 = .ok (.getfield 169, 3) := o180 ac_cX12_token_32 11 0 169 rfl
theorem dX12_token_46 : decode cX12_token 46 = .ok (.iconst 1, 1) := o4 ac_cX12_token_32 14 rfl
theorem dX12_token_47 : decode cX12_token 47 = .ok (.iadd, 1) := o96 ac_cX12_token_32 15 rfl
def kb_cX12_token_48 : List Nat := [181, 0, 169, 177]
theorem ac_cX12_token_48 : AL cX12_token 48 kb_cX12_token_48 := AL.of (m := 4) (by decide +kernel)
theorem dX12_token_48 : decode cX12_token 48 = .ok (.putfield 169, 3) := o181 ac_cX12_token_48 0 0 169 rfl
theorem dX12_token_51 : decode cX12_token 51 = .ok (.return_, 1) := o177 ac_cX12_token_48 3 rfl
def kb_cX12_cut_0 : List Nat := [42, 3, 181, 0, 169, 3, 60, 42, 180, 0, 169, 17, 1, 144, 163, 1, 24, 42, 27, 182]
theorem ac_cX12_cut_0 : AL cX12_cut 0 kb_cX12_cut_0 := AL.of (m := 20) (by decide +kernel)
theorem dX12_cut_0 : decode cX12_cut 0 = .ok (.aload_n 0, 1) := o42 ac_cX12_cut_0 0 rfl
theorem dX12_cut_1 : decode cX12_cut 1 = .ok (.iconst 0, 1) := o3 ac_cX12_cut_0 1 rfl
theorem dX12_cut_2 : decode cX12_cut 2 = .ok (.putfield 169, 3) := o181 ac_cX12_cut_0 2 0 169 rfl
theorem dX12_cut_5 : decode cX12_cut 5 = .ok (.iconst 0, 1) := o3 ac_cX12_cut_0 5 rfl
theorem dX12_cut_6 : decode cX12_cut 6 = .ok (.istore_n 1, 1) := o60 ac_cX12_cut_0 6 rfl
theorem dX12_cut_7 : decode cX12_cut 7 = .ok (.aload_n 0, 1) := o42 ac_cX12_cut_0 7 rfl
theorem dX12_cut_8 : decode cX12_cut 8 = .ok (.getfield 169, 3) := o180 ac_cX12_cut_0 8 0 169 rfl
theorem dX12_cut_11 : decode cX12_cut 11 = .ok (.sipush 400, 3) := o17p ac_cX12_cut_0 11 1 144 rfl rfl
theorem dX12_cut_14 : decode cX12_cut 14 = .ok (.if_icmp .gt 280, 3) := o163p ac_cX12_cut_0 14 1 24 rfl rfl
def kb_cX12_cut_16 : List Nat := [24, 42, 27, 182, 0, 172, 61, 27, 42, 180, 0, 160, 161, 0, 15, 42, 3, 42, 180, 0]
theorem ac_cX12_cut_16 : AL cX12_cut 16 kb_cX12_cut_16 := AL.of (m := 20) (by decide +kernel)
theorem dX12_cut_17 : decode cX12_cut 17 = .ok (.aload_n 0, 1) := o42 ac_cX12_cut_16 1 rfl
theorem dX12_cut_18 : decode cX12_cut 18 = .ok (.iload_n 1, 1) := o27 ac_cX12_cut_16 2 rfl
theorem dX12_cut_19 : decode cX12_cut 19 = .ok (.invokevirtual 172, 3) := o182 ac_cX12_cut_16 3 0 172 rfl
theorem dX12_cut_22 : decode cX12_cut 22 = .ok (.istore_n 2, 1) := o61 ac_cX12_cut_16 6 rfl
theorem dX12_cut_23 : decode cX12_cut 23 = .ok (.iload_n 1, 1) := o27 ac_cX12_cut_16 7 rfl
theorem dX12_cut_24 : decode cX12_cut 24 = .ok (.aload_n 0, 1) := o42 ac_cX12_cut_16 8 rfl
theorem dX12_cut_25 : decode cX12_cut 25 = .ok (.getfield 160, 3) := o180 ac_cX12_cut_16 9 0 160 rfl
theorem dX12_cut_28 : decode cX12_cut 28 = .ok (.if_icmp .lt 15, 3) := o161p ac_cX12_cut_16 12 0 15 rfl rfl
theorem dX12_cut_31 : decode cX12_cut 31 = .ok (.aload_n 0, 1) := o42 ac_cX12_cut_16 15 rfl
def kb_cX12_cut_32 : List Nat := [3, 42, 180, 0, 160, 3, 9, 182, 0, 176, 177, 28, 16, 9, 159, 0, 21, 28, 16, 10]
theorem ac_cX12_cut_32 : AL cX12_cut 32 kb_cX12_cut_32 := AL.of (m := 20) (by decide +kernel)
theorem dX12_cut_32 : decode cX12_cut 32 = .ok (.iconst 0, 1) := o3 ac_cX12_cut_32 0 rfl
theorem dX12_cut_33 : decode cX12_cut 33 = .ok (.aload_n 0, 1) := o42 ac_cX12_cut_32 1 rfl
theorem dX12_cut_34 : decode cX12_cut 34 = .ok (.getfield 160, 3) := o180 ac_cX12_cut_32 2 0 160 rfl
theorem dX12_cut_37 : decode cX12_cut 37 = .ok (.iconst 0, 1) := o3 ac_cX12_cut_32 5 rfl
theorem dX12_cut_38 : decode cX12_cut 38 = .ok (.lconst 0, 1) := o9 ac_cX12_cut_32 6 rfl
theorem dX12_cut_39 : decode cX12_cut 39 = .ok (.invokevirtual 176, 3) := o182 ac_cX12_cut_32 7 0 176 rfl
theorem dX12_cut_42 : decode cX12_cut 42 = .ok (.return_, 1) := o177 ac_cX12_cut_32 10 rfl
def kb_cX12_is_0 : List Nat := [42, 180, 0, 191, 154, 0, 20, 42, 180, 0, 20, 42, 180, 0, 194, 46, 27, 160, 0, 7]
theorem ac_cX12_is_0 : AL cX12_is 0 kb_cX12_is_0 := AL.of (m := 20) (by decide +kernel)
theorem dX12_is_0 : decode cX12_is 0 = .ok (.aload_n 0, 1) := o42 ac_cX12_is_0 0 rfl
theorem dX12_is_1 : decode cX12_is 1 = .ok (.getfield 191, 3) := o180 ac_cX12_is_0 1 0 191 rfl
theorem dX12_is_4 : decode cX12_is 4 = .ok (.ifCond .ne 20, 3) := o154p ac_cX12_is_0 4 0 20 rfl rfl
theorem dX12_is_7 : decode cX12_is 7 = .ok (.aload_n 0, 1) := o42 ac_cX12_is_0 7 rfl
theorem dX12_is_8 : decode cX12_is 8 = .ok (.getfield 20, 3) := o180 ac_cX12_is_0 8 0 20 rfl
theorem dX12_is_11 : decode cX12_is 11 = .ok (.aload_n 0, 1) := o42 ac_cX12_is_0 11 rfl
theorem dX12_is_12 : decode cX12_is 12 = .ok (.getfield 194, 3) := o180 ac_cX12_is_0 12 0 194 rfl
theorem dX12_is_15 : decode cX12_is 15 = .ok (.iaload, 1) := o46 ac_cX12_is_0 15 rfl
def kb_cX12_is_16 : List Nat := [27, 160, 0, 7, 4, 167, 0, 4, 3, 172]
theorem ac_cX12_is_16 : AL cX12_is 16 kb_cX12_is_16 := AL.of (m := 10) (by decide +kernel)
theorem dX12_is_16 : decode cX12_is 16 = .ok (.iload_n 1, 1) := o27 ac_cX12_is_16 0 rfl
theorem dX12_is_17 : decode cX12_is 17 = .ok (.if_icmp .ne 7, 3) := o160p ac_cX12_is_16 1 0 7 rfl rfl
theorem dX12_is_20 : decode cX12_is 20 = .ok (.iconst 1, 1) := o4 ac_cX12_is_16 4 rfl
theorem dX12_is_21 : decode cX12_is 21 = .ok (.goto 4, 3) := o167p ac_cX12_is_16 5 0 4 rfl rfl
theorem dX12_is_25 : decode cX12_is 25 = .ok (.ireturn, 1) := o172 ac_cX12_is_16 9 rfl
def kb_cX12_plain_0 : List Nat := [42, 180, 0, 43, 27, 3, 79, 42, 180, 0, 55, 27, 3, 79, 42, 180, 0, 64, 27, 4]
theorem ac_cX12_plain_0 : AL cX12_plain 0 kb_cX12_plain_0 := AL.of (m := 20) (by decide +kernel)
theorem dX12_plain_0 : decode cX12_plain 0 = .ok (.aload_n 0, 1) := o42 ac_cX12_plain_0 0 rfl
theorem dX12_plain_1 : decode cX12_plain 1 = .ok (.getfield 43, 3) := o180 ac_cX12_plain_0 1 0 43 rfl
theorem dX12_plain_4 : decode cX12_plain 4 = .ok (.iload_n 1, 1) := o27 ac_cX12_plain_0 4 rfl
theorem dX12_plain_5 : decode cX12_plain 5 = .ok (.iconst 0, 1) := o3 ac_cX12_plain_0 5 rfl
theorem dX12_plain_6 : decode cX12_plain 6 = .ok (.iastore, 1) := o79 ac_cX12_plain_0 6 rfl
theorem dX12_plain_7 : decode cX12_plain 7 = .ok (.aload_n 0, 1) := o42 ac_cX12_plain_0 7 rfl
theorem dX12_plain_8 : decode cX12_plain 8 = .ok (.getfield 55, 3) := o180 ac_cX12_plain_0 8 0 55 rfl
theorem dX12_plain_11 : decode cX12_plain 11 = .ok (.iload_n 1, 1) := o27 ac_cX12_plain_0 11 rfl
theorem dX12_plain_12 : decode cX12_plain 12 = .ok (.iconst 0, 1) := o3 ac_cX12_plain_0 12 rfl
theorem dX12_plain_13 : decode cX12_plain 13 = .ok (.iastore, 1) := o79 ac_cX12_plain_0 13 rfl
theorem dX12_plain_14 : decode cX12_plain 14 = .ok (.aload_n 0, 1) := o42 ac_cX12_plain_0 14 rfl
theorem dX12_plain_15 : decode cX12_plain 15 = .ok (.getfield 64, 3) := o180 ac_cX12_plain_0 15 0 64 rfl
def kb_cX12_plain_16 : List Nat := [0, 64, 27, 4, 79, 42, 180, 0, 67, 27, 3, 79, 3, 61, 28, 7, 162, 0, 31, 42]
theorem ac_cX12_plain_16 : AL cX12_plain 16 kb_cX12_plain_16 := AL.of (m := 20) (by decide +kernel)
theorem dX12_plain_18 : decode cX12_plain 18 = .ok (.iload_n 1, 1) := o27 ac_cX12_plain_16 2 rfl
theorem dX12_plain_19 : decode cX12_plain 19 = .ok (.iconst 1, 1) := o4 ac_cX12_plain_16 3 rfl
theorem dX12_plain_20 : decode cX12_plain 20 = .ok (.iastore, 1) := o79 ac_cX12_plain_16 4 rfl
theorem dX12_plain_21 : decode cX12_plain 21 = .ok (.aload_n 0, 1) := o42 ac_cX12_plain_16 5 rfl
theorem dX12_plain_22 : decode cX12_plain 22 = .ok (.getfield 67, 3) := o180 ac_cX12_plain_16 6 0 67 rfl
theorem dX12_plain_25 : decode cX12_plain 25 = .ok (.iload_n 1, 1) := o27 ac_cX12_plain_16 9 rfl
theorem dX12_plain_26 : decode cX12_plain 26 = .ok (.iconst 0, 1) := o3 ac_cX12_plain_16 10 rfl
theorem dX12_plain_27 : decode cX12_plain 27 = .ok (.iastore, 1) := o79 ac_cX12_plain_16 11 rfl
theorem dX12_plain_28 : decode cX12_plain 28 = .ok (.iconst 0, 1) := o3 ac_cX12_plain_16 12 rfl
theorem dX12_plain_29 : decode cX12_plain 29 = .ok (.istore_n 2, 1) := o61 ac_cX12_plain_16 13 rfl
theorem dX12_plain_30 : decode cX12_plain 30 = .ok (.iload_n 2, 1) := o28 ac_cX12_plain_16 14 rfl
theorem dX12_plain_31 : decode cX12_plain 31 = .ok (.iconst 4, 1) := o7 ac_cX12_plain_16 15 rfl
def kb_cX12_plain_32 : List Nat := [162, 0, 31, 42, 180, 0, 70, 7, 27, 104, 28, 96, 3, 79, 42, 180, 0, 73, 7, 27]
theorem ac_cX12_plain_32 : AL cX12_plain 32 kb_cX12_plain_32 := AL.of (m := 20) (by decide +kernel)
theorem dX12_plain_32 : decode cX12_plain 32 = .ok (.if_icmp .ge 31, 3) := o162p ac_cX12_plain_32 0 0 31 rfl rfl
theorem dX12_plain_35 : decode cX12_plain 35 = .ok (.aload_n 0, 1) := o42 ac_cX12_plain_32 3 rfl
theorem dX12_plain_36 : decode cX12_plain 36 = .ok (.getfield 70, 3) := o180 ac_cX12_plain_32 4 0 70 rfl
theorem dX12_plain_39 : decode cX12_plain 39 = .ok (.iconst 4, 1) := o7 ac_cX12_plain_32 7 rfl
theorem dX12_plain_40 : decode cX12_plain 40 = .ok (.iload_n 1, 1) := o27 ac_cX12_plain_32 8 rfl
theorem dX12_plain_41 : decode cX12_plain 41 = .ok (.imul, 1) := o104 ac_cX12_plain_32 9 rfl
theorem dX12_plain_42 : decode cX12_plain 42 = .ok (.iload_n 2, 1) := o28 ac_cX12_plain_32 10 rfl
theorem dX12_plain_43 : decode cX12_plain 43 = .ok (.iadd, 1) := o96 ac_cX12_plain_32 11 rfl
theorem dX12_plain_44 : decode cX12_plain 44 = .ok (.iconst 0, 1) := o3 ac_cX12_plain_32 12 rfl
theorem dX12_plain_45 : decode cX12_plain 45 = .ok (.iastore, 1) := o79 ac_cX12_plain_32 13 rfl
theorem dX12_plain_46 : decode cX12_plain 46 = .ok (.aload_n 0, 1) := o42 ac_cX12_plain_32 14 rfl
theorem dX12_plain_47 : decode cX12_plain 47 = .ok (.getfield 73, 3) := o180 ac_cX12_plain_32 15 0 73 rfl
def kb_cX12_plain_48 : List Nat := [0, 73, 7, 27, 104, 28, 96, 3, 79, 132, 2, 1, 167, 255, 226, 177]
theorem ac_cX12_plain_48 : AL cX12_plain 48 kb_cX12_plain_48 := AL.of (m := 16) (by decide +kernel)
theorem dX12_plain_50 : decode cX12_plain 50 = .ok (.iconst 4, 1) := o7 ac_cX12_plain_48 2 rfl
theorem dX12_plain_51 : decode cX12_plain 51 = .ok (.iload_n 1, 1) := o27 ac_cX12_plain_48 3 rfl
theorem dX12_plain_52 : decode cX12_plain 52 = .ok (.imul, 1) := o104 ac_cX12_plain_48 4 rfl
theorem dX12_plain_53 : decode cX12_plain 53 = .ok (.iload_n 2, 1) := o28 ac_cX12_plain_48 5 rfl
theorem dX12_plain_54 : decode cX12_plain 54 = .ok (.iadd, 1) := o96 ac_cX12_plain_48 6 rfl
theorem dX12_plain_55 : decode cX12_plain 55 = .ok (.iconst 0, 1) := o3 ac_cX12_plain_48 7 rfl
theorem dX12_plain_56 : decode cX12_plain 56 = .ok (.iastore, 1) := o79 ac_cX12_plain_48 8 rfl
theorem dX12_plain_57 : decode cX12_plain 57 = .ok (.iinc 2 1, 3) := o132p ac_cX12_plain_48 9 2 1 rfl rfl
theorem dX12_plain_60 : decode cX12_plain 60 = .ok (.goto (-30), 3) := o167n ac_cX12_plain_48 12 255 226 29 rfl rfl rfl
theorem dX12_plain_63 : decode cX12_plain 63 = .ok (.return_, 1) := o177 ac_cX12_plain_48 15 rfl
def kb_cX12_begins_0 : List Nat := [3, 60, 27, 16, 29, 162, 0, 16, 42, 180, 0, 110, 27, 3, 79, 132, 1, 1, 167, 255]
theorem ac_cX12_begins_0 : AL cX12_begins 0 kb_cX12_begins_0 := AL.of (m := 20) (by decide +kernel)
theorem dX12_begins_0 : decode cX12_begins 0 = .ok (.iconst 0, 1) := o3 ac_cX12_begins_0 0 rfl
theorem dX12_begins_1 : decode cX12_begins 1 = .ok (.istore_n 1, 1) := o60 ac_cX12_begins_0 1 rfl
theorem dX12_begins_2 : decode cX12_begins 2 = .ok (.iload_n 1, 1) := o27 ac_cX12_begins_0 2 rfl
theorem dX12_begins_3 : decode cX12_begins 3 = .ok (.bipush 29, 2) := o16p ac_cX12_begins_0 3 29 rfl rfl
theorem dX12_begins_5 : decode cX12_begins 5 = .ok (.if_icmp .ge 16, 3) := o162p ac_cX12_begins_0 5 0 16 rfl rfl
theorem dX12_begins_8 : decode cX12_begins 8 = .ok (.aload_n 0, 1) := o42 ac_cX12_begins_0 8 rfl
theorem dX12_begins_9 : decode cX12_begins 9 = .ok (.getfield 110, 3) := o180 ac_cX12_begins_0 9 0 110 rfl
theorem dX12_begins_12 : decode cX12_begins 12 = .ok (.iload_n 1, 1) := o27 ac_cX12_begins_0 12 rfl
theorem dX12_begins_13 : decode cX12_begins 13 = .ok (.iconst 0, 1) := o3 ac_cX12_begins_0 13 rfl
theorem dX12_begins_14 : decode cX12_begins 14 = .ok (.iastore, 1) := o79 ac_cX12_begins_0 14 rfl
theorem dX12_begins_15 : decode cX12_begins 15 = .ok (.iinc 1 1, 3) := o132p ac_cX12_begins_0 15 1 1 rfl rfl
def kb_cX12_begins_16 : List Nat := [1, 1, 167, 255, 240, 3, 60, 27, 42, 180, 0, 43, 42, 180, 0, 221, 46, 162, 0, 32]
theorem ac_cX12_begins_16 : AL cX12_begins 16 kb_cX12_begins_16 := AL.of (m := 20) (by decide +kernel)
theorem dX12_begins_18 : decode cX12_begins 18 = .ok (.goto (-16), 3) := o167n ac_cX12_begins_16 2 255 240 15 rfl rfl rfl
theorem dX12_begins_21 : decode cX12_begins 21 = .ok (.iconst 0, 1) := o3 ac_cX12_begins_16 5 rfl
theorem dX12_begins_22 : decode cX12_begins 22 = .ok (.istore_n 1, 1) := o60 ac_cX12_begins_16 6 rfl
theorem dX12_begins_23 : decode cX12_begins 23 = .ok (.iload_n 1, 1) := o27 ac_cX12_begins_16 7 rfl
theorem dX12_begins_24 : decode cX12_begins 24 = .ok (.aload_n 0, 1) := o42 ac_cX12_begins_16 8 rfl
theorem dX12_begins_25 : decode cX12_begins 25 = .ok (.getfield 43, 3) := o180 ac_cX12_begins_16 9 0 43 rfl
theorem dX12_begins_28 : decode cX12_begins 28 = .ok (.aload_n 0, 1) := o42 ac_cX12_begins_16 12 rfl
theorem dX12_begins_29 : decode cX12_begins 29 = .ok (.getfield 221, 3) := o180 ac_cX12_begins_16 13 0 221 rfl
def kb_cX12_begins_32 : List Nat := [46, 162, 0, 32, 42, 180, 0, 110, 16, 7, 27, 96, 42, 180, 0, 52, 16, 7, 42, 180]
theorem ac_cX12_begins_32 : AL cX12_begins 32 kb_cX12_begins_32 := AL.of (m := 20) (by decide +kernel)
theorem dX12_begins_32 : decode cX12_begins 32 = .ok (.iaload, 1) := o46 ac_cX12_begins_32 0 rfl
theorem dX12_begins_33 : decode cX12_begins 33 = .ok (.if_icmp .ge 32, 3) := o162p ac_cX12_begins_32 1 0 32 rfl rfl
def kb_cX12_begins_64 : List Nat := [217, 42, 180, 0, 110, 16, 26, 42, 180, 0, 55, 42, 180, 0, 221, 46, 158, 0, 7, 3]
theorem ac_cX12_begins_64 : AL cX12_begins 64 kb_cX12_begins_64 := AL.of (m := 20) (by decide +kernel)
theorem dX12_begins_65 : decode cX12_begins 65 = .ok (.aload_n 0, 1) := o42 ac_cX12_begins_64 1 rfl
theorem dX12_begins_66 : decode cX12_begins 66 = .ok (.getfield 110, 3) := o180 ac_cX12_begins_64 2 0 110 rfl
theorem dX12_begins_69 : decode cX12_begins 69 = .ok (.bipush 26, 2) := o16p ac_cX12_begins_64 5 26 rfl rfl
theorem dX12_begins_71 : decode cX12_begins 71 = .ok (.aload_n 0, 1) := o42 ac_cX12_begins_64 7 rfl
theorem dX12_begins_72 : decode cX12_begins 72 = .ok (.getfield 55, 3) := o180 ac_cX12_begins_64 8 0 55 rfl
theorem dX12_begins_75 : decode cX12_begins 75 = .ok (.aload_n 0, 1) := o42 ac_cX12_begins_64 11 rfl
theorem dX12_begins_76 : decode cX12_begins 76 = .ok (.getfield 221, 3) := o180 ac_cX12_begins_64 12 0 221 rfl
theorem dX12_begins_79 : decode cX12_begins 79 = .ok (.iaload, 1) := o46 ac_cX12_begins_64 15 rfl
def kb_cX12_begins_80 : List Nat := [158, 0, 7, 3, 167, 0, 5, 16, 254, 79, 42, 180, 0, 110, 16, 28, 2, 79, 42, 42]
theorem ac_cX12_begins_80 : AL cX12_begins 80 kb_cX12_begins_80 := AL.of (m := 20) (by decide +kernel)
theorem dX12_begins_80 : decode cX12_begins 80 = .ok (.ifCond .le 7, 3) := o158p ac_cX12_begins_80 0 0 7 rfl rfl
theorem dX12_begins_87 : decode cX12_begins 87 = .ok (.bipush (-2), 2) := o16n ac_cX12_begins_80 7 254 1 rfl rfl rfl
theorem dX12_begins_89 : decode cX12_begins 89 = .ok (.iastore, 1) := o79 ac_cX12_begins_80 9 rfl
theorem dX12_begins_90 : decode cX12_begins 90 = .ok (.aload_n 0, 1) := o42 ac_cX12_begins_80 10 rfl
theorem dX12_begins_91 : decode cX12_begins 91 = .ok (.getfield 110, 3) := o180 ac_cX12_begins_80 11 0 110 rfl
theorem dX12_begins_94 : decode cX12_begins 94 = .ok (.bipush 28, 2) := o16p ac_cX12_begins_80 14 28 rfl rfl
def kb_cX12_begins_96 : List Nat := [2, 79, 42, 42, 180, 0, 67, 42, 180, 0, 221, 46, 181, 1, 49, 42, 3, 181, 1, 52]
theorem ac_cX12_begins_96 : AL cX12_begins 96 kb_cX12_begins_96 := AL.of (m := 20) (by decide +kernel)
theorem dX12_begins_96 : decode cX12_begins 96 = .ok (.iconst (-1), 1) := o2 ac_cX12_begins_96 0 rfl
theorem dX12_begins_97 : decode cX12_begins 97 = .ok (.iastore, 1) := o79 ac_cX12_begins_96 1 rfl
theorem dX12_begins_98 : decode cX12_begins 98 = .ok (.aload_n 0, 1) := o42 ac_cX12_begins_96 2 rfl
theorem dX12_begins_99 : decode cX12_begins 99 = .ok (.aload_n 0, 1) := o42 ac_cX12_begins_96 3 rfl
theorem dX12_begins_100 : decode cX12_begins 100 = .ok (.getfield 67, 3) := o180 ac_cX12_begins_96 4 0 67 rfl
theorem dX12_begins_103 : decode cX12_begins 103 = .ok (.aload_n 0, 1) := o42 ac_cX12_begins_96 7 rfl
theorem dX12_begins_104 : decode cX12_begins 104 = .ok (.getfield 221, 3) := o180 ac_cX12_begins_96 8 0 221 rfl
theorem dX12_begins_107 : decode cX12_begins 107 = .ok (.iaload, 1) := o46 ac_cX12_begins_96 11 rfl
theorem dX12_begins_108 : decode cX12_begins 108 = .ok (.putfield 305, 3) := o181 ac_cX12_begins_96 12 1 49 rfl
theorem dX12_begins_111 : decode cX12_begins 111 = .ok (.aload_n 0, 1) := o42 ac_cX12_begins_96 15 rfl
def kb_cX12_begins_112 : List Nat := [3, 181, 1, 52, 177]
theorem ac_cX12_begins_112 : AL cX12_begins 112 kb_cX12_begins_112 := AL.of (m := 5) (by decide +kernel)
theorem dX12_begins_112 : decode cX12_begins 112 = .ok (.iconst 0, 1) := o3 ac_cX12_begins_112 0 rfl
theorem dX12_begins_113 : decode cX12_begins 113 = .ok (.putfield 308, 3) := o181 ac_cX12_begins_112 1 1 52 rfl
theorem dX12_begins_116 : decode cX12_begins 116 = .ok (.return_, 1) := o177 ac_cX12_begins_112 4 rfl
def kb_cX12_read_0 : List Nat := [42, 42, 180, 0, 154, 181, 0, 160, 3, 60, 27, 42, 180, 0, 160, 162, 0, 21, 42, 180]
theorem ac_cX12_read_0 : AL cX12_read 0 kb_cX12_read_0 := AL.of (m := 20) (by decide +kernel)
theorem dX12_read_0 : decode cX12_read 0 = .ok (.aload_n 0, 1) := o42 ac_cX12_read_0 0 rfl
theorem dX12_read_1 : decode cX12_read 1 = .ok (.aload_n 0, 1) := o42 ac_cX12_read_0 1 rfl
theorem dX12_read_2 : decode cX12_read 2 = .ok (.getfield 154, 3) := o180 ac_cX12_read_0 2 0 154 rfl
theorem dX12_read_5 : decode cX12_read 5 = .ok (.putfield 160, 3) := o181 ac_cX12_read_0 5 0 160 rfl
theorem dX12_read_8 : decode cX12_read 8 = .ok (.iconst 0, 1) := o3 ac_cX12_read_0 8 rfl
theorem dX12_read_9 : decode cX12_read 9 = .ok (.istore_n 1, 1) := o60 ac_cX12_read_0 9 rfl
theorem dX12_read_10 : decode cX12_read 10 = .ok (.iload_n 1, 1) := o27 ac_cX12_read_0 10 rfl
theorem dX12_read_11 : decode cX12_read 11 = .ok (.aload_n 0, 1) := o42 ac_cX12_read_0 11 rfl
theorem dX12_read_12 : decode cX12_read 12 = .ok (.getfield 160, 3) := o180 ac_cX12_read_0 12 0 160 rfl
theorem dX12_read_15 : decode cX12_read 15 = .ok (.if_icmp .ge 21, 3) := o162p ac_cX12_read_0 15 0 21 rfl rfl
def kb_cX12_read_32 : List Nat := [1, 167, 255, 233, 42, 3, 181, 0, 154, 42, 182, 0, 215, 42, 3, 181, 0, 194, 42, 3]
theorem ac_cX12_read_32 : AL cX12_read 32 kb_cX12_read_32 := AL.of (m := 20) (by decide +kernel)
theorem dX12_read_36 : decode cX12_read 36 = .ok (.aload_n 0, 1) := o42 ac_cX12_read_32 4 rfl
theorem dX12_read_37 : decode cX12_read 37 = .ok (.iconst 0, 1) := o3 ac_cX12_read_32 5 rfl
theorem dX12_read_38 : decode cX12_read 38 = .ok (.putfield 154, 3) := o181 ac_cX12_read_32 6 0 154 rfl
theorem dX12_read_41 : decode cX12_read 41 = .ok (.aload_n 0, 1) := o42 ac_cX12_read_32 9 rfl
theorem dX12_read_42 : decode cX12_read 42 = .ok (.invokevirtual 215, 3) := o182 ac_cX12_read_32 10 0 215 rfl
theorem dX12_read_45 : decode cX12_read 45 = .ok (.aload_n 0, 1) := o42 ac_cX12_read_32 13 rfl
theorem dX12_read_46 : decode cX12_read 46 = .ok (.iconst 0, 1) := o3 ac_cX12_read_32 14 rfl
theorem dX12_read_47 : decode cX12_read 47 = .ok (.putfield 194, 3) := o181 ac_cX12_read_32 15 0 194 rfl
def kb_cX12_read_48 : List Nat := [0, 194, 42, 3, 181, 0, 218, 42, 3, 181, 0, 191, 42, 3, 181, 0, 200, 42, 4, 42]
theorem ac_cX12_read_48 : AL cX12_read 48 kb_cX12_read_48 := AL.of (m := 20) (by decide +kernel)
theorem dX12_read_50 : decode cX12_read 50 = .ok (.aload_n 0, 1) := o42 ac_cX12_read_48 2 rfl
theorem dX12_read_51 : decode cX12_read 51 = .ok (.iconst 0, 1) := o3 ac_cX12_read_48 3 rfl
theorem dX12_read_52 : decode cX12_read 52 = .ok (.putfield 218, 3) := o181 ac_cX12_read_48 4 0 218 rfl
theorem dX12_read_55 : decode cX12_read 55 = .ok (.aload_n 0, 1) := o42 ac_cX12_read_48 7 rfl
theorem dX12_read_56 : decode cX12_read 56 = .ok (.iconst 0, 1) := o3 ac_cX12_read_48 8 rfl
theorem dX12_read_57 : decode cX12_read 57 = .ok (.putfield 191, 3) := o181 ac_cX12_read_48 9 0 191 rfl
theorem dX12_read_60 : decode cX12_read 60 = .ok (.aload_n 0, 1) := o42 ac_cX12_read_48 12 rfl
theorem dX12_read_61 : decode cX12_read 61 = .ok (.iconst 0, 1) := o3 ac_cX12_read_48 13 rfl
theorem dX12_read_62 : decode cX12_read 62 = .ok (.putfield 200, 3) := o181 ac_cX12_read_48 14 0 200 rfl
def kb_cX12_read_64 : List Nat := [200, 42, 4, 42, 180, 0, 221, 100, 181, 0, 224, 42, 3, 181, 0, 227, 42, 42, 180, 0]
theorem ac_cX12_read_64 : AL cX12_read 64 kb_cX12_read_64 := AL.of (m := 20) (by decide +kernel)
theorem dX12_read_65 : decode cX12_read 65 = .ok (.aload_n 0, 1) := o42 ac_cX12_read_64 1 rfl
theorem dX12_read_66 : decode cX12_read 66 = .ok (.iconst 1, 1) := o4 ac_cX12_read_64 2 rfl
theorem dX12_read_67 : decode cX12_read 67 = .ok (.aload_n 0, 1) := o42 ac_cX12_read_64 3 rfl
theorem dX12_read_68 : decode cX12_read 68 = .ok (.getfield 221, 3) := o180 ac_cX12_read_64 4 0 221 rfl
theorem dX12_read_71 : decode cX12_read 71 = .ok (.isub, 1) := o100 ac_cX12_read_64 7 rfl
theorem dX12_read_72 : decode cX12_read 72 = .ok (.putfield 224, 3) := o181 ac_cX12_read_64 8 0 224 rfl
theorem dX12_read_75 : decode cX12_read 75 = .ok (.aload_n 0, 1) := o42 ac_cX12_read_64 11 rfl
theorem dX12_read_76 : decode cX12_read 76 = .ok (.iconst 0, 1) := o3 ac_cX12_read_64 12 rfl
theorem dX12_read_77 : decode cX12_read 77 = .ok (.putfield 227, 3) := o181 ac_cX12_read_64 13 0 227 rfl
def kb_cX12_read_80 : List Nat := [42, 42, 180, 0, 224, 182, 0, 140, 42, 17, 0, 130, 42, 180, 0, 224, 104, 181, 0, 230]
theorem ac_cX12_read_80 : AL cX12_read 80 kb_cX12_read_80 := AL.of (m := 20) (by decide +kernel)
theorem dX12_read_80 : decode cX12_read 80 = .ok (.aload_n 0, 1) := o42 ac_cX12_read_80 0 rfl
theorem dX12_read_81 : decode cX12_read 81 = .ok (.aload_n 0, 1) := o42 ac_cX12_read_80 1 rfl
theorem dX12_read_82 : decode cX12_read 82 = .ok (.getfield 224, 3) := o180 ac_cX12_read_80 2 0 224 rfl
theorem dX12_read_85 : decode cX12_read 85 = .ok (.invokevirtual 140, 3) := o182 ac_cX12_read_80 5 0 140 rfl
theorem dX12_read_88 : decode cX12_read 88 = .ok (.aload_n 0, 1) := o42 ac_cX12_read_80 8 rfl
theorem dX12_read_89 : decode cX12_read 89 = .ok (.sipush 130, 3) := o17p ac_cX12_read_80 9 0 130 rfl rfl
theorem dX12_read_92 : decode cX12_read 92 = .ok (.aload_n 0, 1) := o42 ac_cX12_read_80 12 rfl
theorem dX12_read_93 : decode cX12_read 93 = .ok (.getfield 224, 3) := o180 ac_cX12_read_80 13 0 224 rfl
def kb_cX12_read_96 : List Nat := [104, 181, 0, 230, 42, 17, 1, 164, 42, 180, 0, 224, 104, 181, 0, 233, 42, 180, 0, 191]
theorem ac_cX12_read_96 : AL cX12_read 96 kb_cX12_read_96 := AL.of (m := 20) (by decide +kernel)
theorem dX12_read_96 : decode cX12_read 96 = .ok (.imul, 1) := o104 ac_cX12_read_96 0 rfl
theorem dX12_read_97 : decode cX12_read 97 = .ok (.putfield 230, 3) := o181 ac_cX12_read_96 1 0 230 rfl
theorem dX12_read_100 : decode cX12_read 100 = .ok (.aload_n 0, 1) := o42 ac_cX12_read_96 4 rfl
theorem dX12_read_101 : decode cX12_read 101 = .ok (.sipush 420, 3) := o17p ac_cX12_read_96 5 1 164 rfl rfl
theorem dX12_read_104 : decode cX12_read 104 = .ok (.aload_n 0, 1) := o42 ac_cX12_read_96 8 rfl
theorem dX12_read_105 : decode cX12_read 105 = .ok (.getfield 224, 3) := o180 ac_cX12_read_96 9 0 224 rfl
theorem dX12_read_108 : decode cX12_read 108 = .ok (.imul, 1) := o104 ac_cX12_read_96 12 rfl
theorem dX12_read_109 : decode cX12_read 109 = .ok (.putfield 233, 3) := o181 ac_cX12_read_96 13 0 233 rfl
def kb_cX12_read_112 : List Nat := [42, 180, 0, 191, 154, 0, 18, 42, 3, 182, 0, 209, 154, 0, 10, 42, 182, 0, 236, 167]
theorem ac_cX12_read_112 : AL cX12_read 112 kb_cX12_read_112 := AL.of (m := 20) (by decide +kernel)
theorem dX12_read_112 : decode cX12_read 112 = .ok (.aload_n 0, 1) := o42 ac_cX12_read_112 0 rfl
theorem dX12_read_113 : decode cX12_read 113 = .ok (.getfield 191, 3) := o180 ac_cX12_read_112 1 0 191 rfl
theorem dX12_read_116 : decode cX12_read 116 = .ok (.ifCond .ne 18, 3) := o154p ac_cX12_read_112 4 0 18 rfl rfl
theorem dX12_read_119 : decode cX12_read 119 = .ok (.aload_n 0, 1) := o42 ac_cX12_read_112 7 rfl
theorem dX12_read_120 : decode cX12_read 120 = .ok (.iconst 0, 1) := o3 ac_cX12_read_112 8 rfl
theorem dX12_read_121 : decode cX12_read 121 = .ok (.invokevirtual 209, 3) := o182 ac_cX12_read_112 9 0 209 rfl
theorem dX12_read_124 : decode cX12_read 124 = .ok (.ifCond .ne 10, 3) := o154p ac_cX12_read_112 12 0 10 rfl rfl
def kb_cX12_read_128 : List Nat := [182, 0, 236, 167, 255, 237, 42, 42, 180, 0, 191, 158, 0, 10, 42, 180, 0, 197, 167, 0]
theorem ac_cX12_read_128 : AL cX12_read 128 kb_cX12_read_128 := AL.of (m := 20) (by decide +kernel)
theorem dX12_read_134 : decode cX12_read 134 = .ok (.aload_n 0, 1) := o42 ac_cX12_read_128 6 rfl
theorem dX12_read_135 : decode cX12_read 135 = .ok (.aload_n 0, 1) := o42 ac_cX12_read_128 7 rfl
theorem dX12_read_136 : decode cX12_read 136 = .ok (.getfield 191, 3) := o180 ac_cX12_read_128 8 0 191 rfl
theorem dX12_read_139 : decode cX12_read 139 = .ok (.ifCond .le 10, 3) := o158p ac_cX12_read_128 11 0 10 rfl rfl
def kb_cX12_read_144 : List Nat := [0, 197, 167, 0, 18, 42, 180, 0, 200, 158, 0, 10, 42, 180, 0, 203, 167, 0, 4, 2]
theorem ac_cX12_read_144 : AL cX12_read 144 kb_cX12_read_144 := AL.of (m := 20) (by decide +kernel)
theorem dX12_read_149 : decode cX12_read 149 = .ok (.aload_n 0, 1) := o42 ac_cX12_read_144 5 rfl
theorem dX12_read_150 : decode cX12_read 150 = .ok (.getfield 200, 3) := o180 ac_cX12_read_144 6 0 200 rfl
theorem dX12_read_153 : decode cX12_read 153 = .ok (.ifCond .le 10, 3) := o158p ac_cX12_read_144 9 0 10 rfl rfl
def kb_cX12_read_160 : List Nat := [167, 0, 4, 2, 181, 0, 37, 42, 180, 0, 191, 158, 0, 8, 42, 180, 0, 191, 172, 42]
theorem ac_cX12_read_160 : AL cX12_read 160 kb_cX12_read_160 := AL.of (m := 20) (by decide +kernel)
theorem dX12_read_163 : decode cX12_read 163 = .ok (.iconst (-1), 1) := o2 ac_cX12_read_160 3 rfl
theorem dX12_read_164 : decode cX12_read 164 = .ok (.putfield 37, 3) := o181 ac_cX12_read_160 4 0 37 rfl
theorem dX12_read_167 : decode cX12_read 167 = .ok (.aload_n 0, 1) := o42 ac_cX12_read_160 7 rfl
theorem dX12_read_168 : decode cX12_read 168 = .ok (.getfield 191, 3) := o180 ac_cX12_read_160 8 0 191 rfl
theorem dX12_read_171 : decode cX12_read 171 = .ok (.ifCond .le 8, 3) := o158p ac_cX12_read_160 11 0 8 rfl rfl
def kb_cX12_read_176 : List Nat := [0, 191, 172, 42, 180, 0, 200, 158, 0, 8, 42, 180, 0, 200, 172, 42, 42, 180, 0, 224]
theorem ac_cX12_read_176 : AL cX12_read 176 kb_cX12_read_176 := AL.of (m := 20) (by decide +kernel)
theorem dX12_read_179 : decode cX12_read 179 = .ok (.aload_n 0, 1) := o42 ac_cX12_read_176 3 rfl
theorem dX12_read_180 : decode cX12_read 180 = .ok (.getfield 200, 3) := o180 ac_cX12_read_176 4 0 200 rfl
theorem dX12_read_183 : decode cX12_read 183 = .ok (.ifCond .le 8, 3) := o158p ac_cX12_read_176 7 0 8 rfl rfl
theorem dX12_read_191 : decode cX12_read 191 = .ok (.aload_n 0, 1) := o42 ac_cX12_read_176 15 rfl
def kb_cX12_read_192 : List Nat := [42, 180, 0, 224, 181, 0, 221, 42, 182, 0, 148, 42, 182, 0, 151, 42, 3, 181, 0, 239]
theorem ac_cX12_read_192 : AL cX12_read 192 kb_cX12_read_192 := AL.of (m := 20) (by decide +kernel)
theorem dX12_read_192 : decode cX12_read 192 = .ok (.aload_n 0, 1) := o42 ac_cX12_read_192 0 rfl
theorem dX12_read_193 : decode cX12_read 193 = .ok (.getfield 224, 3) := o180 ac_cX12_read_192 1 0 224 rfl
theorem dX12_read_196 : decode cX12_read 196 = .ok (.putfield 221, 3) := o181 ac_cX12_read_192 4 0 221 rfl
theorem dX12_read_199 : decode cX12_read 199 = .ok (.aload_n 0, 1) := o42 ac_cX12_read_192 7 rfl
theorem dX12_read_200 : decode cX12_read 200 = .ok (.invokevirtual 148, 3) := o182 ac_cX12_read_192 8 0 148 rfl
theorem dX12_read_203 : decode cX12_read 203 = .ok (.aload_n 0, 1) := o42 ac_cX12_read_192 11 rfl
theorem dX12_read_204 : decode cX12_read 204 = .ok (.invokevirtual 151, 3) := o182 ac_cX12_read_192 12 0 151 rfl
theorem dX12_read_207 : decode cX12_read 207 = .ok (.aload_n 0, 1) := o42 ac_cX12_read_192 15 rfl
def kb_cX12_read_208 : List Nat := [3, 181, 0, 239, 42, 3, 181, 0, 242, 3, 60, 27, 6, 162, 0, 16, 42, 180, 0, 134]
theorem ac_cX12_read_208 : AL cX12_read 208 kb_cX12_read_208 := AL.of (m := 20) (by decide +kernel)
theorem dX12_read_208 : decode cX12_read 208 = .ok (.iconst 0, 1) := o3 ac_cX12_read_208 0 rfl
theorem dX12_read_209 : decode cX12_read 209 = .ok (.putfield 239, 3) := o181 ac_cX12_read_208 1 0 239 rfl
theorem dX12_read_212 : decode cX12_read 212 = .ok (.aload_n 0, 1) := o42 ac_cX12_read_208 4 rfl
theorem dX12_read_213 : decode cX12_read 213 = .ok (.iconst 0, 1) := o3 ac_cX12_read_208 5 rfl
theorem dX12_read_214 : decode cX12_read 214 = .ok (.putfield 242, 3) := o181 ac_cX12_read_208 6 0 242 rfl
theorem dX12_read_217 : decode cX12_read 217 = .ok (.iconst 0, 1) := o3 ac_cX12_read_208 9 rfl
theorem dX12_read_218 : decode cX12_read 218 = .ok (.istore_n 1, 1) := o60 ac_cX12_read_208 10 rfl
theorem dX12_read_219 : decode cX12_read 219 = .ok (.iload_n 1, 1) := o27 ac_cX12_read_208 11 rfl
theorem dX12_read_220 : decode cX12_read 220 = .ok (.iconst 3, 1) := o6 ac_cX12_read_208 12 rfl
theorem dX12_read_221 : decode cX12_read 221 = .ok (.if_icmp .ge 16, 3) := o162p ac_cX12_read_208 13 0 16 rfl rfl
def kb_cX12_read_224 : List Nat := [42, 180, 0, 134, 27, 3, 84, 132, 1, 1, 167, 255, 241, 3, 172]
theorem ac_cX12_read_224 : AL cX12_read 224 kb_cX12_read_224 := AL.of (m := 15) (by decide +kernel)
theorem dX12_read_224 : decode cX12_read 224 = .ok (.aload_n 0, 1) := o42 ac_cX12_read_224 0 rfl
theorem dX12_read_225 : decode cX12_read 225 = .ok (.getfield 134, 3) := o180 ac_cX12_read_224 1 0 134 rfl
theorem dX12_read_228 : decode cX12_read 228 = .ok (.iload_n 1, 1) := o27 ac_cX12_read_224 4 rfl
theorem dX12_read_229 : decode cX12_read 229 = .ok (.iconst 0, 1) := o3 ac_cX12_read_224 5 rfl
theorem dX12_read_230 : decode cX12_read 230 = .ok (.bastore, 1) := o84 ac_cX12_read_224 6 rfl
theorem dX12_read_231 : decode cX12_read 231 = .ok (.iinc 1 1, 3) := o132p ac_cX12_read_224 7 1 1 rfl rfl
theorem dX12_read_234 : decode cX12_read 234 = .ok (.goto (-15), 3) := o167n ac_cX12_read_224 10 255 241 14 rfl rfl rfl
theorem dX12_read_237 : decode cX12_read 237 = .ok (.iconst 0, 1) := o3 ac_cX12_read_224 13 rfl
theorem dX12_read_238 : decode cX12_read 238 = .ok (.ireturn, 1) := o172 ac_cX12_read_224 14 rfl
