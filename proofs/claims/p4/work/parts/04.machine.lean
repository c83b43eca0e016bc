/-! the world as a list: what stands at a number, and what a store makes of it -/
theorem mw_get {ids : List Nat} {ad : Nat → Nat} {ca : Nat → ClassId} {i : Nat} (h : i ∈ ids) : ∃ p : Nat, ids[p]? = some i ∧ ∀ σ : HS, (mw ids ad ca σ)[p]? = some (ad i, ceK ad ca (kd i) i (σ.1 i) (σ.2.1 i) σ.2.2) := by
  obtain ⟨p, hp⟩ := List.mem_iff_getElem?.mp h
  refine ⟨p, hp, fun σ => ?_⟩
  unfold mw
  rw [List.getElem?_map, hp]
  rfl
theorem mw_len {ids : List Nat} {ad : Nat → Nat} {ca : Nat → ClassId} {σ : HS} : (mw ids ad ca σ).length = ids.length := by
  unfold mw
  rw [List.length_map]
theorem mw_at {ids : List Nat} {ad : Nat → Nat} {ca : Nat → ClassId} {σ : HS} {k : Nat} {q : Nat × va_E} (h : (mw ids ad ca σ)[k]? = some q) : ∃ i : Nat, ids[k]? = some i ∧ q = (ad i, ceK ad ca (kd i) i (σ.1 i) (σ.2.1 i) σ.2.2) := by
  unfold mw at h
  rw [List.getElem?_map] at h
  cases hi : ids[k]? with
  | none => rw [hi] at h; cases h
  | some i => rw [hi] at h; exact ⟨i, rfl, (Option.some.inj h).symm⟩
theorem mw_ats {ids : List Nat} {ad : Nat → Nat} {ca : Nat → ClassId} {k i : Nat} (h : ids[k]? = some i) (σ : HS) : (mw ids ad ca σ)[k]? = some (ad i, ceK ad ca (kd i) i (σ.1 i) (σ.2.1 i) σ.2.2) := by
  unfold mw
  rw [List.getElem?_map, h]
  rfl
theorem mw_set {ids : List Nat} {A : Nat → Prop} {ad : Nat → Nat} {ca : Nat → ClassId} {σ σ' : HS} {i p : Nat} {X : va_E} (hD : va_D A (mw ids ad ca σ)) (hp : ids[p]? = some i) (hX : ceK ad ca (kd i) i (σ'.1 i) (σ'.2.1 i) σ'.2.2 = X)
    (ho : ∀ j, j ≠ i → ceK ad ca (kd j) j (σ'.1 j) (σ'.2.1 j) σ'.2.2 = ceK ad ca (kd j) j (σ.1 j) (σ.2.1 j) σ.2.2) : (mw ids ad ca σ).set p (ad i, X) = mw ids ad ca σ' := by
  apply List.ext_getElem?
  intro j
  rw [List.getElem?_set]
  by_cases e : p = j
  · subst e
    rw [if_pos rfl, mw_ats hp σ', hX, mw_len, if_pos (List.getElem?_eq_some_iff.mp hp).1]
  · rw [if_neg e]
    cases hj : ids[j]? with
    | none =>
      have h1 : ids.length ≤ j := List.getElem?_eq_none_iff.mp hj
      rw [List.getElem?_eq_none (by rw [mw_len]; exact h1), List.getElem?_eq_none (by rw [mw_len]; exact h1)]
    | some j1 =>
      rw [mw_ats hj σ, mw_ats hj σ', ho j1 (fun h => e (by
        subst h
        exact hD.1 p j _ _ (mw_ats hp σ) (mw_ats hj σ) rfl))]
theorem mw_setI {ids : List Nat} {A : Nat → Prop} {ad : Nat → Nat} {ca : Nat → ClassId} {σ : HS} {i k p : Nat} {v : Int32} {X : va_E} (hD : va_D A (mw ids ad ca σ)) (hp : ids[p]? = some i) (hX : ceK ad ca (kd i) i (upd (σ.1 i) k v) (σ.2.1 i) σ.2.2 = X) : (mw ids ad ca σ).set p (ad i, X) = mw ids ad ca (hI σ i k v) := by
  refine mw_set hD hp ?_ ?_
  · show ceK ad ca (kd i) i (va_up σ.1 i (upd (σ.1 i) k v) i) (σ.2.1 i) σ.2.2 = X
    rw [va_up_self]
    exact hX
  · intro j hj
    show ceK ad ca (kd j) j (va_up σ.1 i (upd (σ.1 i) k v) j) (σ.2.1 j) σ.2.2 = _
    rw [va_up_ne _ _ hj]
theorem mw_setA {ids : List Nat} {A : Nat → Prop} {ad : Nat → Nat} {ca : Nat → ClassId} {σ : HS} {i p : Nat} {f : Nat → Int32} {X : va_E} (hD : va_D A (mw ids ad ca σ)) (hp : ids[p]? = some i) (hX : ceK ad ca (kd i) i f (σ.2.1 i) σ.2.2 = X) : (mw ids ad ca σ).set p (ad i, X) = mw ids ad ca (hA σ i f) := by
  refine mw_set hD hp ?_ ?_
  · show ceK ad ca (kd i) i (va_up σ.1 i f i) (σ.2.1 i) σ.2.2 = X
    rw [va_up_self]
    exact hX
  · intro j hj
    show ceK ad ca (kd j) j (va_up σ.1 i f j) (σ.2.1 j) σ.2.2 = _
    rw [va_up_ne _ _ hj]
theorem mw_setL {ids : List Nat} {A : Nat → Prop} {ad : Nat → Nat} {ca : Nat → ClassId} {σ : HS} {i k p : Nat} {v : Int64} {X : va_E} (hD : va_D A (mw ids ad ca σ)) (hp : ids[p]? = some i) (hX : ceK ad ca (kd i) i (σ.1 i) (vp_updL (σ.2.1 i) k v) σ.2.2 = X) : (mw ids ad ca σ).set p (ad i, X) = mw ids ad ca (hL σ i k v) := by
  refine mw_set hD hp ?_ ?_
  · show ceK ad ca (kd i) i (σ.1 i) (va_up σ.2.1 i (vp_updL (σ.2.1 i) k v) i) σ.2.2 = X
    rw [va_up_self]
    exact hX
  · intro j hj
    show ceK ad ca (kd j) j (σ.1 j) (va_up σ.2.1 i (vp_updL (σ.2.1 i) k v) j) σ.2.2 = _
    rw [va_up_ne _ _ hj]
theorem mw_D {ids : List Nat} {ad : Nat → Nat} {ca : Nat → ClassId} {A : Nat → Prop} {σ : HS} (h : va_D A (mw ids ad ca σ)) (σ' : HS) : va_D A (mw ids ad ca σ') := by
  refine ⟨fun i j p q hp hq e => ?_, fun k q hq => ?_⟩
  · obtain ⟨i1, hi, rfl⟩ := mw_at hp
    obtain ⟨j1, hj, rfl⟩ := mw_at hq
    exact h.1 i j _ _ (mw_ats hi σ) (mw_ats hj σ) e
  · obtain ⟨i1, hk, rfl⟩ := mw_at hq
    have := h.2 k _ (mw_ats hk σ)
    exact this
theorem tys_get {ids : List Nat} {ca : Nat → ClassId} {i : Nat} (hi : i ∈ ids) (h : 12 ≤ kd i) : ∃ t : Nat, (tys ids ca)[t]? = some (ca i, aty (kd i)) := by
  have hm : i ∈ arL ids := List.mem_filter.mpr ⟨hi, by simp [h]⟩
  obtain ⟨t, ht⟩ := List.mem_iff_getElem?.mp hm
  exact ⟨t, by unfold tys; rw [List.getElem?_map, ht]; rfl⟩
/-! locals by their places -/
def LV (ls : Array Slot) (nL : Nat) (vs : List (Option Value)) : Prop := ls.size = nL ∧ lv_wf ls ∧ ∀ (i : Nat) (v : Value), vs[i]? = some (some v) → ls[i]? = some (.val v)
def lvL (vs : List (Option Value)) : List (Nat × Value) := (List.range vs.length).filterMap (fun i => (vs.getD i none).map (fun v => (i, v)))
theorem lvL_mem {vs : List (Option Value)} {q : Nat × Value} : q ∈ lvL vs ↔ vs[q.1]? = some (some q.2) := by
  unfold lvL
  rw [List.mem_filterMap]
  constructor
  · rintro ⟨i, hi, h⟩
    have hi := List.mem_range.mp hi
    have hg : vs[i]? = some vs[i] := List.getElem?_eq_getElem hi
    simp only [List.getD, hg, Option.getD_some] at h
    cases hv : vs[i] with
    | none => rw [hv] at h; simp at h
    | some v => rw [hv] at h hg; simp at h; subst h; exact hg
  · intro h
    have hi : q.1 < vs.length := (List.getElem?_eq_some_iff.mp h).1
    refine ⟨q.1, List.mem_range.mpr hi, ?_⟩
    simp [List.getD, h]
theorem LV.has {ls : Array Slot} {nL : Nat} {vs : List (Option Value)} (h : LV ls nL vs) : lv_has ls nL (lvL vs) := ⟨h.1, h.2.1, fun q hq => h.2.2 q.1 q.2 (lvL_mem.mp hq)⟩
def catOk (vs : List (Option Value)) (i : Nat) : Bool := match i with
  | 0 => true
  | j + 1 => match vs[j]? with
    | some (some v) => !(v.category == 2)
    | _ => true
theorem catOk_use {vs : List (Option Value)} {i j : Nat} {v : Value} (h : catOk vs i = true) (e : j + 1 = i) (hv : vs[j]? = some (some v)) : (v.category == 2) = false := by
  subst e
  simp only [catOk, hv] at h
  simpa using h
theorem LV.store1 {ls : Array Slot} {nL i : Nat} {x : Value} {vs : List (Option Value)} (hc : catOk vs i = true) (h : lv_has ls nL ((i, x) :: (lvL vs).filter (fun q => !(q.1 == i) && !(q.1 + 1 == i && q.2.category == 2)))) : LV ls nL (vs.set i (some x)) := by
  refine ⟨h.1, h.2.1, fun j v hj => ?_⟩
  rw [List.getElem?_set] at hj
  by_cases e : i = j
  · subst e
    rw [if_pos rfl] at hj
    split at hj
    · cases hj
      exact h.2.2 (i, x) List.mem_cons_self
    · cases hj
  · rw [if_neg e] at hj
    refine h.2.2 (j, v) (List.mem_cons_of_mem _ (List.mem_filter.mpr ⟨lvL_mem.mpr hj, ?_⟩))
    have e1 : (j == i) = false := by simp; exact fun h => e h.symm
    by_cases e2 : j + 1 = i
    · have := catOk_use hc e2 hj
      simp [e1, this]
    · have e3 : (j + 1 == i) = false := by simpa using e2
      simp [e1, e3]
theorem LV.store2 {ls : Array Slot} {nL i : Nat} {x : Value} {vs : List (Option Value)} (hc : catOk vs i = true) (h : lv_has ls nL ((i, x) :: (lvL vs).filter (fun q => !(q.1 == i) && (!(q.1 == i + 1) && !(q.1 + 1 == i && q.2.category == 2))))) : LV ls nL ((vs.set (i + 1) none).set i (some x)) := by
  refine ⟨h.1, h.2.1, fun j v hj => ?_⟩
  rw [List.getElem?_set] at hj
  by_cases e : i = j
  · subst e
    rw [if_pos rfl] at hj
    split at hj
    · cases hj
      exact h.2.2 (i, x) List.mem_cons_self
    · cases hj
  · rw [if_neg e, List.getElem?_set] at hj
    by_cases e4 : i + 1 = j
    · rw [if_pos e4] at hj
      split at hj <;> cases hj
    · rw [if_neg e4] at hj
      refine h.2.2 (j, v) (List.mem_cons_of_mem _ (List.mem_filter.mpr ⟨lvL_mem.mpr hj, ?_⟩))
      have e1 : (j == i) = false := by simp; exact fun h => e h.symm
      have e5 : (j == i + 1) = false := by simp; exact fun h => e4 h.symm
      by_cases e2 : j + 1 = i
      · have := catOk_use hc e2 hj
        simp [e1, e5, this]
      · have e3 : (j + 1 == i) = false := by simpa using e2
        simp [e1, e3, e5]
def entL (av : List Value) : List (Option Value) := av.flatMap (fun v => if v.category = 2 then [some v, none] else [some v])
theorem entL_args : ∀ (av : List Value) (k i : Nat) (v : Value), (entL av)[i]? = some (some v) → (k + i, v) ∈ lv_args k av
  | [], k, i, v, h => by simp [entL] at h
  | a :: av, k, i, v, h => by
    have he : entL (a :: av) = (if a.category = 2 then [some a, none] else [some a]) ++ entL av := rfl
    rw [he] at h
    unfold lv_args
    by_cases c : a.category = 2
    · rw [if_pos c] at h ⊢
      match i, h with
      | 0, h => simp at h; subst h; simp
      | 1, h => simp at h
      | i + 2, h =>
        have h' : (entL av)[i]? = some (some v) := by simpa using h
        have := entL_args av (k + 2) i v h'
        rw [show k + (i + 2) = k + 2 + i by omega]
        exact List.mem_cons_of_mem _ this
    · rw [if_neg c] at h ⊢
      match i, h with
      | 0, h => simp at h; subst h; simp
      | i + 1, h =>
        have h' : (entL av)[i]? = some (some v) := by simpa using h
        have := entL_args av (k + 1) i v h'
        rw [show k + (i + 1) = k + 1 + i by omega]
        exact List.mem_cons_of_mem _ this
theorem LV.entry (av : List Value) {n : Nat} (h : (lg_sl av).length ≤ n) (z : Nat) : LV ((lg_sl av ++ List.replicate (n - (lg_sl av).length) Slot.unset).toArray) n (entL av ++ List.replicate z none) := by
  have h0 := lv_entry av h
  refine ⟨h0.1, h0.2.1, fun i v hv => ?_⟩
  rw [List.getElem?_append] at hv
  split at hv
  · have := entL_args av 0 i v hv
    rw [Nat.zero_add] at this
    exact h0.2.2 (i, v) this
  · rw [List.getElem?_replicate] at hv
    split at hv <;> cases hv
theorem LV.sub {ls : Array Slot} {nL : Nat} {vs vs' : List (Option Value)} (h : LV ls nL vs) (hs : ∀ (i : Nat) (v : Value), vs'[i]? = some (some v) → vs[i]? = some (some v)) : LV ls nL vs' := ⟨h.1, h.2.1, fun i v hv => h.2.2 i v (hs i v hv)⟩

