/-! records kept and given back -/
section RECS
variable {σ s s2 : HS} {n t u sd k nx m T : Nat} {ρ ρ' : Nat → Int32} {d : DAT} {b : Int} {H H' G : Nat → Nat → Int32} {tb9 : Nat → Nat} {x y z : Int32}
def PSc (d : DAT) (k nx : Nat) (H : Nat → Nat → Int32) (s : HS) : Prop := s.1 12 1 = nI nx ∧ nx < 40 ∧ s.1 12 2 = nI k ∧ k ≤ 40 ∧ ∀ j, j < k → AR (76 + 4 * ((nx + 40 + j - k) % 40)) d.1.1.1 (H j) s
def PSm (k : Nat) (H : Nat → Nat → Int32) (s : HS) : Prop := s.1 236 54 = nI k ∧ k ≤ 40 ∧ ∀ j, j < k → ∀ i, i < 29 → s.1 268 (29 * j + i) = H j i
theorem PAS.c (h : PAS d b k nx H σ) : PSc d k nx H σ := ⟨h.1, h.2.1, h.2.2.1, h.2.2.2.1, fun j hj => (h.2.2.2.2.2 j hj).1⟩
theorem PAS.mm (h : PAS d b k nx H σ) : PSm k H σ := ⟨h.2.2.2.2.1, h.2.2.2.1, fun j hj => (h.2.2.2.2.2 j hj).2.1⟩
theorem PAS.w (h : PAS d b k nx H σ) : ∀ j, j < k → RW d b (H j) := fun j hj => (h.2.2.2.2.2 j hj).2.2
theorem PSc.fr {w : Nat → Nat → Bool} {wl : Nat → Bool} (h : PSc d k nx H σ) (hf : frm w wl σ s) (h1 : ∀ i k, 76 ≤ i → i ≤ 235 → w i k = false) (h3 : ∀ k, w 12 k = false) : PSc d k nx H s := by
  obtain ⟨a1, a2, a3, a4, a6⟩ := h
  refine ⟨by rw [hf.1 _ _ (h3 1)]; exact a1, a2, by rw [hf.1 _ _ (h3 2)]; exact a3, a4, fun j hj => ?_⟩
  have hm : (nx + 40 + j - k) % 40 < 40 := Nat.mod_lt _ (by decide)
  exact (a6 j hj).fr hf (fun i k x y => h1 i k (by omega) (by omega))
theorem PSm.fr {w : Nat → Nat → Bool} {wl : Nat → Bool} (h : PSm k H σ) (hf : frm w wl σ s) (h1 : ∀ k, w 268 k = false) (h3 : w 236 54 = false) : PSm k H s :=
  ⟨by rw [hf.1 _ _ h3]; exact h.1, h.2.1, fun j hj i hi => by rw [hf.1 _ _ (h1 _)]; exact h.2.2 j hj i hi⟩
def kpK (k : Nat) : Nat := if k < 40 then k + 1 else 40
def kpH (k : Nat) (H : Nat → Nat → Int32) (ρ : Nat → Int32) (j : Nat) : Nat → Int32 := if j + 1 = kpK k then ρ else if k < 40 then H j else H (j + 1)
theorem kpK_le : kpK k ≤ 40 := by unfold kpK; split <;> omega
theorem kpH_w (hH : ∀ j, j < k → RW d b (H j)) (hW : RW d b ρ) (hk : k ≤ 40) : ∀ j, j < kpK k → RW d b (kpH k H ρ j) := by
  intro j hj
  unfold kpH
  by_cases c : j + 1 = kpK k
  · rw [if_pos c]; exact hW
  · rw [if_neg c]
    unfold kpK at hj c
    by_cases c2 : k < 40
    · rw [if_pos c2] at hj c ⊢; exact hH j (by omega)
    · rw [if_neg c2] at hj c ⊢; exact hH (j + 1) (by omega)
def wKp (a k : Nat) : Bool := (decide (76 ≤ a) && decide (a ≤ 235)) || (a == 12 && (k == 1 || k == 2))
theorem wKp_no {a k : Nat} (h : a < 12 ∨ 12 < a ∧ a < 76 ∨ 235 < a) : wKp a k = false := by
  unfold wKp
  simp only [Bool.or_eq_false_iff, Bool.and_eq_false_iff, beq_eq_false_iff_ne, decide_eq_false_iff_not, ne_eq]
  omega
theorem wKp_ai {a i k : Nat} (h1 : 76 ≤ a) (h2 : a + 3 ≤ 235) (h : wAi a i k = true) : wKp i k = true := by
  unfold wAi at h
  simp only [Bool.or_eq_true, beq_iff_eq] at h
  unfold wKp
  rw [decide_eq_true (show 76 ≤ i by omega), decide_eq_true (show i ≤ 235 by omega)]
  rfl
theorem rem40 {q : Nat} (h : q ≤ 1000) : nI q - nI q / (40 : Int32) * (40 : Int32) = nI (q % 40) := pk_rem (a := q) (d := 40) (by omega) (by omega) (by omega)
theorem w_keep (hP : PSc d k nx H σ) (hA : AR 56 d.1.1.1 ρ σ) (hT : d.1.1.1 ≤ 7) : Okv (f_X5_keep 56 σ) (fun s => PSc d (kpK k) ((nx + 1) % 40) (kpH k H ρ) s ∧ frm wKp wl0 σ s) := by
  obtain ⟨a1, a2, a3, a4, a5⟩ := hP
  unfold f_X5_keep
  rw [a1, nIt (n := nx) (by omega), Int.toNat_natCast]
  refine Okv.t (by omega) (Okv.cv (w_copy (a := 76 + 4 * nx) hA hT (by omega)) (fun s1 h1 => ?_))
  obtain ⟨A1, f1⟩ := h1
  have w1 : ∀ i k, i < 76 + 4 * nx ∨ 76 + 4 * nx + 3 < i → wAi (76 + 4 * nx) i k = false := fun i k h => wAi_no (by omega)
  have e1 : s1.1 12 1 = nI nx := by rw [f1.1 12 1 (w1 _ _ (by omega))]; exact a1
  have e2 : s1.1 12 2 = nI k := by rw [f1.1 12 2 (w1 _ _ (by omega))]; exact a3
  have F1 : frm wKp wl0 σ s1 := f1.sub (fun i k h => wKp_ai (by omega) (by omega) h)
  have E1 : (((s1.1 12 1) + (1 : Int32)) - ((s1.1 12 1) + (1 : Int32)) / (40 : Int32) * (40 : Int32)) = nI ((nx + 1) % 40) := by
    rw [e1, nI_1, rem40 (by omega)]
  refine Okv.bd (Okv.bd ?_)
  rw [E1]
  generalize hs2 : hI s1 12 1 (nI ((nx + 1) % 40)) = s2
  have e3 : s2.1 12 2 = nI k := by rw [← hs2, rI_k (by decide)]; exact e2
  have F2 : frm wKp wl0 σ s2 := by rw [← hs2]; exact F1.I (by decide)
  have E2 : (if ((s2.1 12 2) + (1 : Int32)) < (40 : Int32) then ((s2.1 12 2) + (1 : Int32)) else 40) = nI (kpK k) := by
    rw [e3, nI_1]
    unfold kpK
    by_cases c : k + 1 < 40
    · rw [if_pos (Int32.lt_iff_toInt_lt.mpr (by rw [nIt (n := k + 1) (by omega)]; show ((k + 1 : Nat) : Int) < 40; omega)), if_pos (show k < 40 by omega)]
    · rw [if_neg (fun h => by have := Int32.lt_iff_toInt_lt.mp h; rw [nIt (n := k + 1) (by omega)] at this; have : ((k + 1 : Nat) : Int) < 40 := this; omega)]
      by_cases c2 : k < 40
      · rw [if_pos c2, show k + 1 = 40 by omega]; rfl
      · rw [if_neg c2]; rfl
  rw [E2]
  refine Okv.ret ⟨⟨?_, by omega, rI_s, kpK_le, fun j hj => ?_⟩, F2.I (by decide)⟩
  · rw [rI_k (by decide), ← hs2, rI_s]
  have hm : ((nx + 1) % 40 + 40 + j - kpK k) % 40 < 40 := Nat.mod_lt _ (by decide)
  -- the rows are as they were after the copy
  have fin : ∀ (p : Nat) (r : Nat → Int32), 76 ≤ p → AR p d.1.1.1 r s1 → AR p d.1.1.1 r (hI s2 12 2 (nI (kpK k))) := by
    intro p r hp hr
    have : frm (fun a _ => a == 12) wl0 s1 (hI s2 12 2 (nI (kpK k))) := by rw [← hs2]; exact (frm.rf.I (by decide)).I (by decide)
    exact hr.fr this (fun i k x y => by simp; omega)
  refine fin _ _ (by omega) ?_
  unfold kpH
  by_cases c : j + 1 = kpK k
  · rw [if_pos c, show ((nx + 1) % 40 + 40 + j - kpK k) % 40 = nx by omega]; exact A1
  · rw [if_neg c]
    unfold kpK at hj c ⊢
    by_cases c2 : k < 40
    · rw [if_pos c2] at hj c ⊢
      rw [if_pos c2]
      have ei : ((nx + 1) % 40 + 40 + j - (k + 1)) % 40 = (nx + 40 + j - k) % 40 := by omega
      have en : (nx + 40 + j - k) % 40 ≠ nx := by omega
      rw [ei]
      exact (a5 j (by omega)).fr f1 (fun i k' x y => w1 i k' (by omega))
    · rw [if_neg c2] at hj c ⊢
      rw [if_neg c2]
      obtain rfl : k = 40 := by omega
      have ei : ((nx + 1) % 40 + 40 + j - 40) % 40 = (nx + 40 + (j + 1) - 40) % 40 := by omega
      have en : (nx + 40 + (j + 1) - 40) % 40 ≠ nx := by omega
      rw [ei]
      exact (a5 (j + 1) (by omega)).fr f1 (fun i k' x y => w1 i k' (by omega))
def wRs (a k : Nat) : Bool := a == 266 || a == 268 || (a == 236 && k == 54)
theorem nI_29 {q : Nat} (hq : q ≤ 100) : (29 : Int32) * nI q = nI (29 * q) := Int32.toInt_inj.mp (by
  rw [Int32.toInt_mul, nIt (n := q) (by omega), nIt (n := 29 * q) (by omega)]
  show Int.bmod (29 * (q : Int)) (2 ^ 32) = _
  rw [Int.bmod_def]
  omega)
theorem rs268 : ∀ i k, ((fun (a _ : Nat) => a == 268) i k) = true → wRs i k = true := fun i k h => by
  have : i = 268 := by simpa using h
  subst this
  rfl
theorem rs266 : ∀ i k, ((fun (a _ : Nat) => a == 266) i k) = true → wRs i k = true := fun i k h => by
  have : i = 266 := by simpa using h
  subst this
  rfl
theorem w_records (hP : PSm k H σ) (hNw : NWm ρ σ) (hR : RRm ρ' σ) : Okv (f_X12_records σ) (fun s => PSm (kpK k) (kpH k H ρ) s ∧ NWm ρ' s ∧ frm wRs wl0 σ s) := by
  obtain ⟨a1, a2, a3⟩ := hP
  -- the last row written, the new one kept
  have put : ∀ (q : Nat) (L : Nat → Nat → Int32) (s : HS), q < 40 → frm wRs wl0 σ s → NWm ρ s → s.1 236 54 = nI q → (∀ j, j < q → ∀ i, i < 29 → s.1 268 (29 * j + i) = L j i) → Okv (f_X12_records_49 s) (fun s2 => (s2.1 236 54 = nI (q + 1) ∧ (∀ j, j < q → ∀ i, i < 29 → s2.1 268 (29 * j + i) = L j i) ∧ ∀ i, i < 29 → s2.1 268 (29 * q + i) = ρ i) ∧ NWm ρ' s2 ∧ frm wRs wl0 σ s2) := by
    intro q L s hq hf hn h5 hL
    have loop : ∀ (dd i N : Nat) (s1 : HS), i + dd = 29 → dd < N → frm (fun a _ => a == 268) wl0 s s1 → (∀ j, j < q → ∀ i, i < 29 → s1.1 268 (29 * j + i) = L j i) → (∀ j, j < i → s1.1 268 (29 * q + j) = ρ j) → Okv (f_X12_records_51 N (nI i) s1) (fun s2 => (s2.1 236 54 = nI (q + 1) ∧ (∀ j, j < q → ∀ i, i < 29 → s2.1 268 (29 * j + i) = L j i) ∧ ∀ i, i < 29 → s2.1 268 (29 * q + i) = ρ i) ∧ NWm ρ' s2 ∧ frm wRs wl0 σ s2) := by
      intro dd
      induction dd with
      | zero =>
        intro i N s1 hi hN h1 h2 h3
        obtain ⟨N, rfl⟩ : ∃ q, N = q + 1 := ⟨N - 1, by omega⟩
        obtain rfl : i = 29 := by omega
        have e5 : s1.1 236 54 = nI q := by rw [h1.1 236 54 rfl]; exact h5
        have F1 : frm wRs wl0 σ s1 := hf.tr (h1.sub rs268)
        show Okv (b_X12_records_51 (f_X12_records_51 N) (nI 29) s1) _
        unfold b_X12_records_51
        rw [e5, show nI q + (1 : Int32) = nI (q + 1) from nI_1 q]
        generalize hs2 : hI s1 236 54 (nI (q + 1)) = s2
        have F2 : frm wRs wl0 σ s2 := by rw [← hs2]; exact F1.I rfl
        have R2 : RRm ρ' s2 := hR.fr F2 (fun _ => rfl)
        refine Okv.f (by decide) (Okv.bd ?_)
        refine Okv.cv (w_keepsRow R2) (fun s3 h3' => Okv.ret ⟨⟨?_, fun j hj i hi => ?_, fun i hi => ?_⟩, h3'.1, F2.tr (h3'.2.sub rs266)⟩)
        · rw [h3'.2.1 236 54 rfl, ← hs2, rI_s]
        · rw [h3'.2.1 268 _ rfl, ← hs2, rI_i (by decide)]; exact h2 j hj i hi
        · rw [h3'.2.1 268 _ rfl, ← hs2, rI_i (by decide)]; exact h3 i hi
      | succ dd ih =>
        intro i N s1 hi hN h1 h2 h3
        obtain ⟨N, rfl⟩ : ∃ q, N = q + 1 := ⟨N - 1, by omega⟩
        have e5 : s1.1 236 54 = nI q := by rw [h1.1 236 54 rfl]; exact h5
        have e6 : s1.1 266 i = ρ i := by rw [h1.1 266 i rfl]; exact hn i (by omega)
        show Okv (b_X12_records_51 (f_X12_records_51 N) (nI i) s1) _
        unfold b_X12_records_51
        rw [e5, nI_29 (by omega), nI_add, nIt (n := i) (by omega), nIt (n := 29 * q + i) (by omega), Int.toNat_natCast, Int.toNat_natCast, e6]
        refine Okv.t (by omega) (Okv.t (by omega) (Okv.t (by omega) (Okv.bd (Okv.bd ?_))))
        rw [nI_1]
        refine ih (i + 1) N _ (by omega) (by omega) (h1.I rfl) (fun j hj i' hi' => ?_) (fun j hj => ?_)
        · rw [rI_k (by omega)]; exact h2 j hj i' hi'
        · by_cases c : j = i
          · rw [c, rI_s]
          · rw [rI_k (by omega)]; exact h3 j (by omega)
    unfold f_X12_records_49
    exact loop 29 0 5000 s (by omega) (by omega) frm.rf hL (fun j hj => absurd hj (by omega))
  unfold f_X12_records
  rw [a1, nIt (n := k) (by omega)]
  by_cases c : k = 40
  · subst c
    refine Okv.t rfl ?_
    -- the rows moved down by one
    have loop : ∀ (dd i N : Nat) (s1 : HS), i + dd = 1131 → dd < N → frm (fun a _ => a == 268) wl0 σ s1 → (∀ j, j < i → s1.1 268 j = σ.1 268 (j + 29)) → (∀ j, i ≤ j → s1.1 268 j = σ.1 268 j) → Okv (f_X12_records_11 N (nI i) s1) (fun s => PSm (kpK 40) (kpH 40 H ρ) s ∧ NWm ρ' s ∧ frm wRs wl0 σ s) := by
      intro dd
      induction dd with
      | zero =>
        intro i N s1 hi hN h1 h2 h3
        obtain ⟨N, rfl⟩ : ∃ q, N = q + 1 := ⟨N - 1, by omega⟩
        obtain rfl : i = 1131 := by omega
        have e5 : s1.1 236 54 = nI 40 := by rw [h1.1 236 54 rfl]; exact a1
        have F1 : frm wRs wl0 σ s1 := h1.sub rs268
        show Okv (b_X12_records_11 (f_X12_records_11 N) (nI 1131) s1) _
        unfold b_X12_records_11
        rw [e5, show nI 40 - (1 : Int32) = nI 39 from rfl]
        refine Okv.f (by decide) (Okv.bd ((put 39 (fun j => H (j + 1)) _ (by omega) (F1.I rfl) (fun i hi => by rw [rI_i (by decide), h1.1 266 i rfl]; exact hNw i hi) rI_s (fun j hj i hi => ?_)).mono (fun s2 h2' => ?_)))
        · rw [rI_i (by decide), h2 _ (by omega), show 29 * j + i + 29 = 29 * (j + 1) + i by omega]
          exact a3 (j + 1) (by omega) i hi
        · obtain ⟨⟨q1, q2, q3⟩, q4, q5⟩ := h2'
          refine ⟨⟨q1, by decide, fun j hj i hi => ?_⟩, q4, q5⟩
          have hj2 : j < 40 := hj
          unfold kpH
          show _ = (if j + 1 = 40 then ρ else if 40 < 40 then H j else H (j + 1)) i
          by_cases c : j + 1 = 40
          · obtain rfl : j = 39 := by omega
            rw [if_pos c]; exact q3 i hi
          · rw [if_neg c, if_neg (Nat.lt_irrefl 40)]; exact q2 j (by omega) i hi
      | succ dd ih =>
        intro i N s1 hi hN h1 h2 h3
        obtain ⟨N, rfl⟩ : ∃ q, N = q + 1 := ⟨N - 1, by omega⟩
        show Okv (b_X12_records_11 (f_X12_records_11 N) (nI i) s1) _
        unfold b_X12_records_11
        rw [show nI i + (29 : Int32) = nI (i + 29) from nI_add i 29, nIt (n := i) (by omega), nIt (n := i + 29) (by omega), Int.toNat_natCast, Int.toNat_natCast]
        refine Okv.t (by omega) (Okv.t (by omega) (Okv.t (by omega) (Okv.bd (Okv.bd ?_))))
        rw [nI_1]
        refine ih (i + 1) N _ (by omega) (by omega) (h1.I rfl) (fun j hj => ?_) (fun j hj => ?_)
        · by_cases c : j = i
          · rw [c, rI_s]; exact h3 _ (by omega)
          · rw [rI_k (by omega)]; exact h2 j (by omega)
        · rw [rI_k (by omega)]; exact h3 j (by omega)
    exact loop 1131 0 5000 σ (by omega) (by omega) frm.rf (fun j hj => absurd hj (by omega)) (fun j _ => rfl)
  · refine Okv.f (by omega) ((put k H σ (by omega) frm.rf hNw a1 a3).mono (fun s2 h2' => ?_))
    obtain ⟨⟨q1, q2, q3⟩, q4, q5⟩ := h2'
    have ek : kpK k = k + 1 := if_pos (by omega)
    refine ⟨⟨by rw [ek]; exact q1, kpK_le, fun j hj i hi => ?_⟩, q4, q5⟩
    unfold kpH
    rw [ek] at hj ⊢
    by_cases c : j + 1 = k + 1
    · obtain rfl : j = k := by omega
      rw [if_pos c]; exact q3 i hi
    · rw [if_neg c, if_pos (show k < 40 by omega)]; exact q2 j (by omega) i hi
end RECS
