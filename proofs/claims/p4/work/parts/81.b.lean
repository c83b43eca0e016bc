/-! the class begins anew -/
section CBG
variable {σ s : HS}
theorem w_fill {p N : Nat} {v : Int32} (hN : (Int32.ofNat (al p)).toInt = N) (hN2 : (al p : Int) = N) (h1 : N ≤ 1000) : Okv (f_J7_fill_53178 p v σ) (fun s => frm (fun a _ => a == p) wl0 σ s ∧ ∀ i, i < N → s.1 p i = v) := by
  unfold f_J7_fill_53178
  refine Okv.bd ?_
  have loop : ∀ (d k M : Nat) (s : HS), k + d = N → d < M → frm (fun a _ => a == p) wl0 σ s → (∀ i, i < k → s.1 p i = v) → Okv (f_J7_fill_53178_5 p M v (nI k) (Int32.ofNat (al p)) s) (fun s => frm (fun a _ => a == p) wl0 σ s ∧ ∀ i, i < N → s.1 p i = v) := by
    intro d
    induction d with
    | zero =>
      intro k M s hk hM hf hz
      obtain ⟨M, rfl⟩ : ∃ q, M = q + 1 := ⟨M - 1, by omega⟩
      show Okv (b_J7_fill_53178_5 p (f_J7_fill_53178_5 p M) v (nI k) (Int32.ofNat (al p)) s) _
      unfold b_J7_fill_53178_5
      rw [nIt (by omega), hN]
      exact Okv.f (by omega) (Okv.ret ⟨hf, fun i hi => hz i (by omega)⟩)
    | succ d ih =>
      intro k M s hk hM hf hz
      obtain ⟨M, rfl⟩ : ∃ q, M = q + 1 := ⟨M - 1, by omega⟩
      show Okv (b_J7_fill_53178_5 p (f_J7_fill_53178_5 p M) v (nI k) (Int32.ofNat (al p)) s) _
      unfold b_J7_fill_53178_5
      rw [nIt (by omega), hN, hN2, Int.toNat_natCast]
      refine Okv.t (by omega) (Okv.t (by omega) (Okv.bd (Okv.bd ?_)))
      rw [nI_1]
      refine ih (k + 1) M _ (by omega) (by omega) (hf.I (by simp)) (fun i hi => ?_)
      by_cases c : i = k
      · rw [c, rI_s]
      · rw [rI_k c]; exact hz i (by omega)
  rw [nI0]
  exact loop N 0 5000 σ (by omega) (by omega) frm.rf (fun i hi => absurd hi (by omega))
def wAir (a _k : Nat) : Bool := a == 56 || a == 57 || a == 58 || a == 59
/-- the row that the class begins a text with -/
def ARc (tx : Nat) (s : HS) : Prop := s.1 56 0 = s.1 tx 0 ∧ (∀ i, i < 7 → s.1 57 i = 0 ∧ s.1 58 i = s.1 (tx + 3) i ∧ s.1 59 i = 0) ∧ (∀ k, 4 ≤ k → k ≤ 8 → s.1 56 k = 0) ∧ s.1 56 9 = (if 0 < (s.1 tx 4).toInt then 0 else -1) ∧ s.1 56 10 = 0 ∧ s.1 56 11 = -1
theorem w_airBegin {tx : Nat} (htx : txk tx) : Okv (f_X0_begin 56 tx σ) (fun s => frm wAir wl0 σ s ∧ ARc tx s) := by
  have lo := htx.lo
  have hi : tx + 12 < 56 := by rcases htx with rfl | rfl <;> decide
  unfold f_X0_begin
  refine Okv.bd ?_
  generalize hs1 : hI σ 56 0 (σ.1 tx 0) = s1
  have f1 : frm wAir wl0 σ s1 := by rw [← hs1]; exact frm.rf.I rfl
  refine Okv.cv (w_fill (p := 57) (N := 7) (v := 0) rfl rfl (by decide)) (fun s2 h2 => ?_)
  obtain ⟨f2, z2⟩ := h2
  refine Okv.cv (w_fill (p := 59) (N := 7) (v := 0) rfl rfl (by decide)) (fun s4 h4 => ?_)
  obtain ⟨f4, z4⟩ := h4
  have F4 : frm wAir wl0 σ s4 := (f1.tr (f2.mono (fun a k e => by unfold wAir at e; simp only [Bool.or_eq_false_iff] at e; exact e.1.1.2) (fun _ e => e))).tr (f4.mono (fun a k e => by unfold wAir at e; simp only [Bool.or_eq_false_iff] at e; exact e.2) (fun _ e => e))
  refine Okv.t (by decide) (Okv.bd (Okv.bd (Okv.bd (Okv.bd (Okv.bd (Okv.bd ?_))))))
  generalize hs6 : hA s4 (56 + 2) (va_cpy (s4.1 (tx + 3)) (s4.1 (56 + 2)) (0 : Int).toNat (0 : Int).toNat (7 : Int).toNat) = s6
  have F6 : frm wAir wl0 σ s6 := by rw [← hs6]; exact F4.A (fun _ => rfl)
  generalize hs11 : hI (hI (hI (hI (hI s6 56 4 0) 56 5 0) 56 6 0) 56 7 0) 56 8 0 = s11
  have F11 : frm wAir wl0 σ s11 := by rw [← hs11]; exact ((((F6.I rfl).I rfl).I rfl).I rfl).I rfl
  have o11 : ∀ a k, a ≠ 56 → s11.1 a k = s6.1 a k := fun a k ha => by rw [← hs11, rI_i ha, rI_i ha, rI_i ha, rI_i ha, rI_i ha]
  have wt : ∀ k j, k ≤ 12 → wAir (tx + k) j = false := fun k j hk => by unfold wAir; simp; omega
  have et : ∀ {s' : HS} (k j : Nat), k ≤ 12 → frm wAir wl0 σ s' → s'.1 (tx + k) j = σ.1 (tx + k) j := fun k j hk hf => hf.1 _ _ (wt k j hk)
  have fin : ∀ v : Int32, v = (if 0 < (s11.1 tx 4).toInt then 0 else -1) → Okv (f_X0_begin_77 56 tx v s11) (fun s => frm wAir wl0 σ s ∧ ARc tx s) := by
    intro v hv
    unfold f_X0_begin_77
    refine Okv.bd (Okv.bd (Okv.bd (Okv.ret ⟨((F11.I rfl).I rfl).I rfl, ?_, fun i hi => ⟨?_, ?_, ?_⟩, fun k h4 h8 => ?_, ?_, ?_, ?_⟩)))
    · rw [rI_k (by decide), rI_k (by decide), rI_k (by decide), rI_i (by omega), rI_i (by omega), rI_i (by omega), ← hs11, rI_k (by decide), rI_k (by decide), rI_k (by decide), rI_k (by decide), rI_k (by decide), rI_i (a := tx) (by omega), rI_i (a := tx) (by omega), rI_i (a := tx) (by omega), rI_i (a := tx) (by omega), rI_i (a := tx) (by omega), F6.1 tx 0 (wt 0 0 (by omega)), ← hs6, rA_i (by decide), f4.1 56 0 rfl, f2.1 56 0 rfl, ← hs1, rI_s]
    · rw [rI_i (by decide), rI_i (by decide), rI_i (by decide), o11 _ _ (by decide), ← hs6, rA_i (by decide), f4.1 57 i rfl, z2 i hi]
    · rw [rI_i (by decide), rI_i (by decide), rI_i (by decide), o11 _ _ (by decide), rI_i (by omega), rI_i (by omega), rI_i (by omega), o11 _ _ (by omega), ← hs6, rA_i (a := tx + 3) (by omega)]
      refine (rA_s (i := 58)).trans ?_
      show (if 0 ≤ i ∧ i < 0 + 7 then s4.1 (tx + 3) (0 + (i - 0)) else _) = _
      rw [if_pos (by omega), show 0 + (i - 0) = i by omega]
    · rw [rI_i (by decide), rI_i (by decide), rI_i (by decide), o11 _ _ (by decide), ← hs6, rA_i (by decide), z4 i hi]
    · rw [rI_k (by omega), rI_k (by omega), rI_k (by omega), ← hs11]
      rcases (show k = 4 ∨ k = 5 ∨ k = 6 ∨ k = 7 ∨ k = 8 by omega) with rfl | rfl | rfl | rfl | rfl
      · rw [rI_k (by decide), rI_k (by decide), rI_k (by decide), rI_k (by decide), rI_s]
      · rw [rI_k (by decide), rI_k (by decide), rI_k (by decide), rI_s]
      · rw [rI_k (by decide), rI_k (by decide), rI_s]
      · rw [rI_k (by decide), rI_s]
      · rw [rI_s]
    · rw [rI_k (by decide), rI_k (by decide), rI_s, rI_i (by omega), rI_i (by omega), rI_i (by omega)]; exact hv
    · rw [rI_k (by decide), rI_s]
    · rw [rI_s]
  exact Okv.i (fun c => fin 0 (by rw [if_pos c])) (fun c => fin (-1) (by rw [if_neg c]))
def wBA (a k : Nat) : Bool := wAir a k || (a == 12 && k == 2) || (a == 14 && k == 2) || a == 26
/-- the class has begun anew -/
def ACc (tx : Nat) (s : HS) : Prop := ARc tx s ∧ s.1 12 2 = 0 ∧ s.1 14 2 = 0 ∧ ∀ i, i < 3 → s.1 26 i = 0
theorem w_r26 : ∀ (d k N : Nat) (s : HS), k + d = 3 → d < N → frm (fun a _ => a == 26) wl0 σ s → (∀ i, i < k → s.1 26 i = 0) → Okv (f_X11_beginAnew_46 N (nI k) s) (fun s1 => frm (fun a _ => a == 26) wl0 σ s1 ∧ ∀ i, i < 3 → s1.1 26 i = 0) := by
  intro d
  induction d with
  | zero =>
    intro k N s hk hN hf hz
    obtain ⟨N, rfl⟩ : ∃ q, N = q + 1 := ⟨N - 1, by omega⟩
    show Okv (b_X11_beginAnew_46 (f_X11_beginAnew_46 N) (nI k) s) _
    unfold b_X11_beginAnew_46
    rw [nIt (by omega)]
    exact Okv.f (by omega) (Okv.ret ⟨hf, fun i hi => hz i (by omega)⟩)
  | succ d ih =>
    intro k N s hk hN hf hz
    obtain ⟨N, rfl⟩ : ∃ q, N = q + 1 := ⟨N - 1, by omega⟩
    show Okv (b_X11_beginAnew_46 (f_X11_beginAnew_46 N) (nI k) s) _
    unfold b_X11_beginAnew_46
    rw [nIt (by omega), Int.toNat_natCast]
    refine Okv.t (by omega) (Okv.t (by omega) (Okv.bd (Okv.bd ?_)))
    rw [nI_1]
    refine ih (k + 1) N _ (by omega) (by omega) (hf.I rfl) (fun i hi => ?_)
    by_cases c : i = k
    · rw [c, rI_s]
    · rw [rI_k c]; exact hz i (by omega)
/-- which text is in force (t), which is spare (u) -/
def TXr (t u : Nat) (s : HS) : Prop := s.2.2 0 = t ∧ s.2.2 1 = u
theorem w_beginAnew {t u : Nat} (ht : txk t) (hu : txk u) (h : TXr t u σ) : Okv (f_X11_beginAnew σ) (fun s => TXr u t s ∧ (∀ j, j ≠ 0 → j ≠ 1 → s.2.2 j = σ.2.2 j) ∧ s.2.1 = σ.2.1 ∧ (∀ a k, wBA a k = false → s.1 a k = σ.1 a k) ∧ ACc u s) := by
  have hi : u + 12 < 56 := by rcases hu with rfl | rfl <;> decide
  have lo := hu.lo
  unfold f_X11_beginAnew
  rw [h.1, h.2]
  refine Okv.t hu (Okv.t ht (Okv.bd (Okv.bd ?_)))
  generalize hs4 : hR (hR σ 1 t) 0 u = s4
  have e0 : s4.2.2 0 = u := by rw [← hs4, rR_s]
  have e1 : s4.2.2 1 = t := by rw [← hs4, rR_k (by decide), rR_s]
  have ej : ∀ j, j ≠ 0 → j ≠ 1 → s4.2.2 j = σ.2.2 j := fun j h0 h1 => by rw [← hs4, rR_k h0, rR_k h1]
  have ei : s4.1 = σ.1 := by rw [← hs4]; rfl
  have el : s4.2.1 = σ.2.1 := by rw [← hs4]; rfl
  rw [e0]
  refine Okv.t hu (Okv.cv (w_airBegin (σ := s4) hu) (fun s6 h6 => ?_))
  obtain ⟨f6, a6⟩ := h6
  unfold f_X5_clear
  refine Okv.cv (P := fun s => s = hI s6 12 2 0) (Okv.bd (Okv.ret rfl)) (fun s8 h8 => ?_)
  subst h8
  refine Okv.bd ?_
  generalize hs10 : hI (hI s6 12 2 0) 14 2 0 = s10
  rw [nI0]
  refine (w_r26 (σ := s10) 3 0 5000 s10 (by omega) (by omega) frm.rf (fun i hi => absurd hi (by omega))).mono (fun s hs => ?_)
  obtain ⟨f, z⟩ := hs
  have all : ∀ a k, a ≠ 26 → (a ≠ 12 ∨ k ≠ 2) → (a ≠ 14 ∨ k ≠ 2) → s.1 a k = s6.1 a k := fun a k h1 h2 h3 => by
    rw [f.1 a k (by simpa using h1), ← hs10]
    have x1 : (hI (hI s6 12 2 0) 14 2 0).1 a k = (hI s6 12 2 0).1 a k := by
      by_cases c : a = 14
      · subst c; rw [rI_k (by omega)]
      · rw [rI_i c]
    rw [x1]
    by_cases c : a = 12
    · subst c; rw [rI_k (by omega)]
    · rw [rI_i c]
  have r2 : s.2.2 = s4.2.2 := by rw [f.2.2, ← hs10]; show s6.2.2 = _; exact f6.2.2
  refine ⟨⟨by rw [r2]; exact e0, by rw [r2]; exact e1⟩, fun j h0 h1 => by rw [r2]; exact ej j h0 h1, ?_, fun a k e => ?_, ?_, ?_, ?_, z⟩
  · rw [← el]
    refine funext fun a => ?_
    rw [f.2.1 a rfl, ← hs10]
    show s6.2.1 a = _
    exact f6.2.1 a rfl
  · unfold wBA at e
    simp only [Bool.or_eq_false_iff, Bool.and_eq_false_iff, beq_eq_false_iff_ne, ne_eq] at e
    rw [all a k e.2 e.1.1.2 e.1.2, f6.1 a k e.1.1.1, ei]
  · obtain ⟨b1, b2, b3, b4, b5, b6⟩ := a6
    unfold ARc
    rw [all 56 0 (by decide) (by decide) (by decide), all u 0 (by omega) (by omega) (by omega), all u 4 (by omega) (by omega) (by omega), all 56 9 (by decide) (by decide) (by decide), all 56 10 (by decide) (by decide) (by decide), all 56 11 (by decide) (by decide) (by decide)]
    refine ⟨b1, fun i hi => ?_, fun k h4 h8 => ?_, b4, b5, b6⟩
    · rw [all 57 i (by decide) (Or.inl (by decide)) (Or.inl (by decide)), all 58 i (by decide) (Or.inl (by decide)) (Or.inl (by decide)), all 59 i (by decide) (Or.inl (by decide)) (Or.inl (by decide)), all (u + 3) i (by omega) (by omega) (by omega)]; exact b2 i hi
    · rw [all 56 k (by decide) (Or.inl (by decide)) (Or.inl (by decide))]; exact b3 k h4 h8
  · rw [f.1 12 2 rfl, ← hs10, rI_i (by decide), rI_s]
  · rw [f.1 14 2 rfl, ← hs10, rI_s]
end CBG
