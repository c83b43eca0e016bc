/-! from a world that grew to a world by numbers -/
def toGT (Γ : GQ) (kc ks : Nat) : GT := match Γ with
  | (p, l, e, R, s, m, args, below, meth, c, Q, D, A, H0, nL) => (p, l, e, R, s, m, args, below, meth, c, kc, ks, Q, D, A, H0, nL)
theorem g_aw {Γ : GQ} {cc : ByteArray} {own : String} {l0 : Launch} {D0 : va_G} {fr lo mc ms nL0 : Nat} {pc : Nat} {vs : List (Option Value)} {st : List Value} {ws : va_W} {ts : List (ClassId × FieldType)} {kc ks : Nat} {ids : List Nat} {ad : Nat → Nat} {ca : Nat → ClassId} {σ : HS} (C : CG Γ cc own l0 D0 fr lo mc ms nL0) (h1 : kc ≤ mc) (h2 : ks ≤ ms) (hws : ws = mw ids ad ca σ) (hT : ∀ q ∈ tys ids ca, q ∈ ts)
    (k : CT ids ad ca (toGT Γ kc ks) cc own l0 D0 fr lo nL0 → AW ids ad ca (toGT Γ kc ks) pc vs st σ) : GW Γ pc vs st ws ts kc ks := by
  obtain ⟨p, l, e, R, s, m, args, below, meth, c, Q, D, A, H0, nL⟩ := Γ
  obtain ⟨⟨hx, hb, hml, hown, hts⟩, hE, hA0, rfl, rfl, hfr, hlo, hmc, hms, rfl⟩ := C
  intro H locs ls hK hP hD hS hl
  subst hws
  exact k ⟨⟨hx, hb, hml, hown, hts⟩, K_mem hK hT, hE, fun σ' => mw_D hD σ', hA0, rfl, rfl, hfr, hlo, Nat.le_trans h1 hmc, Nat.le_trans h2 hms, rfl⟩ H locs ls hP hS hl
/-- two states are alike in the cells of ids -/
def agree (ids : List Nat) (σ σ1 : HS) : Prop := (∀ i ∈ ids, ∀ j, j < (if kd i < 12 then 66 else al i) → σ.1 i j = σ1.1 i j ∧ σ.2.1 i j = σ1.2.1 i j) ∧ (0 ∈ ids → σ.2.2 = σ1.2.2)
theorem arrV_ext {c : ClassId} {n : Nat} {f g : Nat → Value} (h : ∀ j, j < n → f j = g j) : arrV c n f = arrV c n g := by
  unfold arrV
  congr 1
  apply Array.ext
  · simp
  · intro i h1 h2
    simp at h1
    simp [h i h1]
theorem fsK_ext {ad : Nat → Nat} {n i : Nat} {g g1 : Nat → Int32} {tx : Nat → Nat} (h : ∀ j, j < 66 → g j = g1 j) : fsK ad n i g tx = fsK ad n i g1 tx := by
  unfold fsK
  split <;> simp [h]
theorem mw_ext {D : va_G} {ids : List Nat} {ad : Nat → Nat} {ca : Nat → ClassId} {σ σ1 : HS} {H : Heap} (h : agree ids σ σ1) (hP : va_P D vwCl (mw ids ad ca σ) H) : va_P D vwCl (mw ids ad ca σ1) H := by
  intro k q hq
  obtain ⟨i, hi, rfl⟩ := mw_at hq
  have h0 := hP k _ (mw_ats hi σ)
  have hm : i ∈ ids := List.mem_of_getElem? hi
  have ha := h.1 i hm
  by_cases hk : kd i < 12
  · rw [if_pos hk] at ha
    have e : ceK ad ca (kd i) i (σ1.1 i) (σ1.2.1 i) σ1.2.2 = ceK ad ca (kd i) i (σ.1 i) (σ.2.1 i) σ.2.2 := by
      rw [ceK_ob hk, ceK_ob hk, fsK_ext (g1 := σ1.1 i) (fun j hj => (ha j hj).1)]
      by_cases h10 : kd i = 10
      · have : i = 0 := kd_sj i h10
        subst this
        rw [h.2 hm]
      · rw [fsK_tx (tx := σ.2.2) (tx1 := σ1.2.2) h10]
    rw [e]
    exact h0
  · rw [if_neg hk] at ha
    unfold ceK at h0 ⊢
    rw [if_neg hk] at h0 ⊢
    by_cases h23 : kd i = 23
    · rw [if_pos h23] at h0 ⊢
      show H[ad i]? = some (arrV (ca i) (al i) (fun j => .long (σ1.2.1 i j)))
      rw [← arrV_ext (c := ca i) (f := fun j => .long (σ.2.1 i j)) (fun j hj => by rw [(ha j hj).2])]
      exact h0
    · rw [if_neg h23] at h0 ⊢
      by_cases h22 : kd i < 23
      · rw [if_pos h22] at h0 ⊢
        show H[ad i]? = some (arrV (ca i) (al i) (fun j => .int (σ1.1 i j)))
        rw [← arrV_ext (c := ca i) (f := fun j => .int (σ.1 i j)) (fun j hj => by rw [(ha j hj).1])]
        exact h0
      · rw [if_neg h22] at h0 ⊢
        exact h0
theorem rv_of_rn {Γ : GQ} {cc : ByteArray} {own : String} {l0 : Launch} {D0 : va_G} {fr lo mc ms nL0 : Nat} {kc ks : Nat} {ids : List Nat} {ad : Nat → Nat} {ca : Nat → ClassId} {post : UU → Prop} (C : CT ids ad ca (toGT Γ kc ks) cc own l0 D0 fr lo nL0) (Rt : RN Γ cc mc ms (fun u : UU => mw ids u.1 u.2 s0) (fun u => tys ids u.2) post) (h1 : kc ≤ mc) (h2 : ks ≤ ms) (hp : post (ad, ca)) : RV ids ad ca (toGT Γ kc ks) cc (fun σ => agree ids σ s0) := by
  obtain ⟨p, l, e, R, s, m, args, below, meth, c, Q, D, A, H0, nL⟩ := Γ
  obtain ⟨-, hK, -, hD, -⟩ := C
  intro H locs ls pc σ hP hS ha hd
  exact W.widen h1 h2 (Rt (ad, ca) H locs ls pc hK (mw_ext ha hP) (hD s0) hS hp hd)

