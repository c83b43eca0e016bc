/-! what a function of the state answers, goal first -/
def Ok {α : Type} (x : Option (α × HS)) (Q : α → HS → Prop) : Prop := ∃ r s, x = some (r, s) ∧ Q r s
def Okv (x : Option HS) (Q : HS → Prop) : Prop := ∃ s, x = some s ∧ Q s
theorem Ok.ret {α : Type} {r : α} {s : HS} {Q : α → HS → Prop} (h : Q r s) : Ok (some (r, s)) Q := ⟨r, s, rfl, h⟩
theorem Okv.ret {s : HS} {Q : HS → Prop} (h : Q s) : Okv (some s) Q := ⟨s, rfl, h⟩
theorem Ok.bd {α β : Type} {x : α} {f : α → Option (β × HS)} {Q : β → HS → Prop} (h : Ok (f x) Q) : Ok (Bd x f) Q := h
theorem Okv.bd {α : Type} {x : α} {f : α → Option HS} {Q : HS → Prop} (h : Okv (f x) Q) : Okv (Bd x f) Q := h
theorem Ok.cl {α β : Type} {x : Option (α × HS)} {f : α → HS → Option (β × HS)} {P : α → HS → Prop} {Q : β → HS → Prop} (h : Ok x P) (k : ∀ r s, P r s → Ok (f r s) Q) : Ok (Cl x f) Q := by
  obtain ⟨r, s, rfl, h⟩ := h
  exact k r s h
theorem Okv.cl {α : Type} {x : Option (α × HS)} {f : α → HS → Option HS} {P : α → HS → Prop} {Q : HS → Prop} (h : Ok x P) (k : ∀ r s, P r s → Okv (f r s) Q) : Okv (Cl x f) Q := by
  obtain ⟨r, s, rfl, h⟩ := h
  exact k r s h
theorem Ok.cv {β : Type} {x : Option HS} {f : HS → Option (β × HS)} {P : HS → Prop} {Q : β → HS → Prop} (h : Okv x P) (k : ∀ s, P s → Ok (f s) Q) : Ok (Cv x f) Q := by
  obtain ⟨s, rfl, h⟩ := h
  exact k s h
theorem Okv.cv {x : Option HS} {f : HS → Option HS} {P : HS → Prop} {Q : HS → Prop} (h : Okv x P) (k : ∀ s, P s → Okv (f s) Q) : Okv (Cv x f) Q := by
  obtain ⟨s, rfl, h⟩ := h
  exact k s h
/-- a call of which the answer is known exactly -/
theorem Ok.cle {α β : Type} {x : Option (α × HS)} {f : α → HS → Option (β × HS)} {r : α} {s : HS} {Q : β → HS → Prop} (e : x = some (r, s)) (k : Ok (f r s) Q) : Ok (Cl x f) Q := by subst e; exact k
theorem Okv.cle {α : Type} {x : Option (α × HS)} {f : α → HS → Option HS} {r : α} {s : HS} {Q : HS → Prop} (e : x = some (r, s)) (k : Okv (f r s) Q) : Okv (Cl x f) Q := by subst e; exact k
theorem Ok.cve {β : Type} {x : Option HS} {f : HS → Option (β × HS)} {s : HS} {Q : β → HS → Prop} (e : x = some s) (k : Ok (f s) Q) : Ok (Cv x f) Q := by subst e; exact k
theorem Okv.cve {x : Option HS} {f : HS → Option HS} {s : HS} {Q : HS → Prop} (e : x = some s) (k : Okv (f s) Q) : Okv (Cv x f) Q := by subst e; exact k
theorem Ok.t {α : Type} {P : Prop} {dP : Decidable P} {A B : Option (α × HS)} {Q : α → HS → Prop} (c : P) (k : Ok A Q) : Ok (if P then A else B) Q := by rw [if_pos c]; exact k
theorem Ok.f {α : Type} {P : Prop} {dP : Decidable P} {A B : Option (α × HS)} {Q : α → HS → Prop} (c : ¬ P) (k : Ok B Q) : Ok (if P then A else B) Q := by rw [if_neg c]; exact k
theorem Okv.t {P : Prop} {dP : Decidable P} {A B : Option HS} {Q : HS → Prop} (c : P) (k : Okv A Q) : Okv (if P then A else B) Q := by rw [if_pos c]; exact k
theorem Okv.f {P : Prop} {dP : Decidable P} {A B : Option HS} {Q : HS → Prop} (c : ¬ P) (k : Okv B Q) : Okv (if P then A else B) Q := by rw [if_neg c]; exact k
theorem Ok.i {α : Type} {P : Prop} {dP : Decidable P} {A B : Option (α × HS)} {Q : α → HS → Prop} (k1 : P → Ok A Q) (k2 : ¬ P → Ok B Q) : Ok (if P then A else B) Q := by
  by_cases c : P
  · rw [if_pos c]; exact k1 c
  · rw [if_neg c]; exact k2 c
theorem Okv.i {P : Prop} {dP : Decidable P} {A B : Option HS} {Q : HS → Prop} (k1 : P → Okv A Q) (k2 : ¬ P → Okv B Q) : Okv (if P then A else B) Q := by
  by_cases c : P
  · rw [if_pos c]; exact k1 c
  · rw [if_neg c]; exact k2 c
theorem Ok.mono {α : Type} {x : Option (α × HS)} {P Q : α → HS → Prop} (h : Ok x P) (k : ∀ r s, P r s → Q r s) : Ok x Q := by
  obtain ⟨r, s, e, h⟩ := h
  exact ⟨r, s, e, k r s h⟩
theorem Okv.mono {x : Option HS} {P Q : HS → Prop} (h : Okv x P) (k : ∀ s, P s → Q s) : Okv x Q := by
  obtain ⟨s, e, h⟩ := h
  exact ⟨s, e, k s h⟩
/-! reads behind stores -/
theorem rI_s {σ : HS} {i k : Nat} {v : Int32} : (hI σ i k v).1 i k = v := hI_s
theorem rI_k {σ : HS} {i k j : Nat} {v : Int32} (h : j ≠ k) : (hI σ i k v).1 i j = σ.1 i j := hI_n h
theorem rI_i {σ : HS} {i k a j : Nat} {v : Int32} (h : a ≠ i) : (hI σ i k v).1 a j = σ.1 a j := congrFun (hI_o h) j
theorem rL_1 {σ : HS} {i k : Nat} {v : Int64} : (hL σ i k v).1 = σ.1 := rfl
theorem rL_i {σ : HS} {i k a : Nat} {v : Int64} (h : a ≠ i) : (hL σ i k v).2.1 a = σ.2.1 a := va_up_ne _ _ h
theorem rL_s {σ : HS} {i k : Nat} {v : Int64} : (hL σ i k v).2.1 i k = v := by
  show va_up σ.2.1 i (vp_updL (σ.2.1 i) k v) i k = v
  rw [va_up_self]
  exact if_pos rfl
theorem rL_k {σ : HS} {i k j : Nat} {v : Int64} (h : j ≠ k) : (hL σ i k v).2.1 i j = σ.2.1 i j := by
  show va_up σ.2.1 i (vp_updL (σ.2.1 i) k v) i j = _
  rw [va_up_self]
  exact if_neg h
theorem rA_s {σ : HS} {i j : Nat} {f : Nat → Int32} : (hA σ i f).1 i j = f j := congrFun hA_s j
theorem rA_i {σ : HS} {i a j : Nat} {f : Nat → Int32} (h : a ≠ i) : (hA σ i f).1 a j = σ.1 a j := congrFun (hA_o h) j
theorem rR_s {σ : HS} {k v : Nat} : (hR σ k v).2.2 k = v := va_up_self _ _ _
theorem rR_k {σ : HS} {k j v : Nat} (h : j ≠ k) : (hR σ k v).2.2 j = σ.2.2 j := va_up_ne _ _ h

