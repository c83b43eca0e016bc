/-! what every call keeps -/
def LI (n : Nat) (σ : HS) : Prop := GIc σ ∧ TX σ ∧ GIm σ ∧ RKm (60 * (n : Int)) σ ∧ (σ.1 2 1).toInt = (σ.1 236 2).toInt
def keepC (σ σ1 : HS) : Prop := (∀ k, k < 236 → σ1.1 k = σ.1 k ∧ σ1.2.1 k = σ.2.1 k) ∧ σ1.2.2 = σ.2.2
theorem GIc.keepC {σ σ1 : HS} (h : GIc σ) (k : keepC σ σ1) : GIc σ1 := by
  have bF : ∀ q ∈ bdF, q.1 < 236 := by decide
  have bA : ∀ q ∈ bdA, q.1 < 236 := by decide
  refine ⟨fun q hq => ?_, fun q hq j => ?_, fun a ha => ?_, fun j hj h21 => ?_⟩
  · rw [(k.1 _ (bF q hq)).1]; exact h.1 q hq
  · rw [(k.1 _ (bA q hq)).1]; exact h.2.1 q hq j
  · rw [(k.1 (56 + 4 * a) (by omega)).1]; exact h.2.2.1 a ha
  · rw [(k.1 4 (by decide)).1] at h21
    rw [(k.1 6 (by decide)).2]
    exact h.2.2.2 j hj h21
theorem TX.keepC {σ σ1 : HS} (h : TX σ) (k : keepC σ σ1) : TX σ1 := by unfold TX; rw [k.2]; exact h
theorem GIm.keepM {σ σ1 : HS} (h : GIm σ) (k : keepM σ σ1) : GIm σ1 := by
  have bF : ∀ q ∈ bdFm, 236 ≤ q.1 := by decide
  have bA : ∀ q ∈ bdAm, 236 ≤ q.1 := by decide
  refine ⟨fun q hq => ?_, fun q hq j => ?_⟩
  · rw [(k _ (bF q hq)).1]; exact h.1 q hq
  · rw [(k _ (bA q hq)).1]; exact h.2 q hq j
theorem RKm.keepM {b : Int} {σ σ1 : HS} (h : RKm b σ) (k : keepM σ σ1) : RKm b σ1 := by
  unfold RKm
  rw [(k 236 (by decide)).1, (k 249 (by decide)).1, (k 250 (by decide)).1, (k 266 (by decide)).1, (k 267 (by decide)).1, (k 268 (by decide)).1, (k 275 (by decide)).1, (k 276 (by decide)).1, (k 254 (by decide)).1, (k 255 (by decide)).1, (k 256 (by decide)).1, (k 257 (by decide)).1, (k 258 (by decide)).1, (k 259 (by decide)).1, (k 260 (by decide)).1, (k 261 (by decide)).1, (k 262 (by decide)).1]
  exact h
theorem ony_keepMd {L : List Nat} {σ σ1 : HS} (h : ony L σ σ1) (hL : L.all (fun i => decide (i < 236)) = true) : keepM σ σ1 := fun k hk => h.1 k (fun e => by
  have := of_decide_eq_true (List.all_eq_true.mp hL k e)
  omega)
theorem onm.keepC {L : List Nat} {σ σ1 : HS} (h : onm L σ σ1) (hL : L.all (fun i => decide (236 ≤ i)) = true) : keepC σ σ1 := by
  have c : ∀ k, k < 236 → L.contains k = false := fun k hk => by
    cases e : L.contains k with
    | false => rfl
    | true =>
      have := of_decide_eq_true (List.all_eq_true.mp hL k (List.contains_iff_mem.mp e))
      omega
  refine ⟨fun k hk => ⟨funext fun j => h.1 k j ?_, h.2.1 k (c k hk)⟩, h.2.2⟩
  unfold wr
  rw [if_neg (by omega), if_neg (by omega)]
  exact c k hk
theorem LI.keepM {n : Nat} {σ σ1 : HS} (h : LI n σ) (hG : GIc σ1) (hT : TX σ1) (k : keepM σ σ1) (e : (σ1.1 2 1).toInt = (σ.1 2 1).toInt) : LI n σ1 := ⟨hG, hT, h.2.2.1.keepM k, h.2.2.2.1.keepM k, by rw [e, (k 236 (by decide)).1]; exact h.2.2.2.2⟩
theorem LI.cls {n : Nat} {L : List Nat} {σ σ1 : HS} (h : LI n σ) (hG : GIc σ1) (ho : ony L σ σ1) (hL : L.all (fun i => decide (i < 236)) = true) (h2 : L.contains 2 = false) : LI n σ1 := h.keepM hG (by unfold TX; rw [ho.2]; exact h.2.1) (ony_keepMd ho hL) (by rw [(ho.1 2 (fun e => by rw [List.contains_iff_mem.mpr e] at h2; exact Bool.noConfusion h2)).1])
theorem LI.mod {n : Nat} {L : List Nat} {σ σ1 : HS} (h : LI n σ) (hG : GIm σ1) (ho : onm L σ σ1) (hR : RKm (60 * ((n + 1 : Nat) : Int)) σ1) (hL : L.all (fun i => decide (236 ≤ i)) = true) (h2 : L.contains 1002 = false) : LI (n + 1) σ1 := by
  have k := ho.keepC hL
  refine ⟨h.1.keepC k, h.2.1.keepC k, hG, hR, ?_⟩
  rw [(k.1 2 (by decide)).1, ho.1 236 2 (by unfold wr; rw [if_pos rfl]; exact h2)]
  exact h.2.2.2.2
theorem LI.next {n : Nat} {σ : HS} (h : LI n σ) (hn : n ≤ 511) : LI (n + 1) σ := ⟨h.1, h.2.1, h.2.2.1, h.2.2.2.1.mono (by omega) (by omega), h.2.2.2.2⟩
theorem MT.onm {σ σ1 : HS} (h : MT σ σ1) : onm [236, 237, 1002] σ σ1 := by
  refine ⟨fun i k hw => ?_, fun i hi => (h.1.1 i (fun e2 => ?_)).2, h.1.2⟩
  · by_cases e : i = 236
    · subst e
      unfold wr at hw
      rw [if_pos rfl] at hw
      exact h.2 k (fun e => by subst e; exact Bool.noConfusion hw)
    · by_cases e7 : i = 237
      · subst e7
        unfold wr at hw
        rw [if_neg (by decide), if_neg (by decide)] at hw
        exact Bool.noConfusion hw
      · rw [(h.1.1 i (by simp [e, e7])).1]
  · simp only [List.mem_cons, List.not_mem_nil, or_false] at e2
    rcases e2 with e2 | e2
    · subst e2; exact Bool.noConfusion hi
    · subst e2; exact Bool.noConfusion hi
theorem MT.GIm {σ σ1 : HS} (h : MT σ σ1) (hG : GIm σ) (h2 : 0 ≤ (σ1.1 236 2).toInt ∧ (σ1.1 236 2).toInt ≤ 2000) : GIm σ1 := by
  have bF : ∀ q ∈ bdFm, q.1 = 236 ∧ (q.2.1 = 2 → q.2.2.1 = 0 ∧ q.2.2.2 = 2000) := by decide
  have bA : ∀ q ∈ bdAm, q.1 ∉ [236, 237] := by decide
  refine ⟨fun q hq => ?_, fun q hq j => ?_⟩
  · obtain ⟨a, c⟩ := bF q hq
    rw [a]
    by_cases e : q.2.1 = 2
    · rw [e, (c e).1, (c e).2]; exact h2
    · rw [h.2 _ e]
      have := hG.1 q hq
      rw [a] at this
      exact this
  · rw [(h.1.1 _ (bA q hq)).1]; exact hG.2 q hq j
theorem FD.rg {a b r : Int32} (h : FD a b r) (ha : 0 ≤ a.toInt ∧ a.toInt ≤ 2000) : 0 ≤ b.toInt ∧ b.toInt ≤ 2000 := by
  by_cases c : a.toInt + 20 ≤ 2000
  · have := (h.1 c).1; omega
  · rw [(h.2 (by omega)).1]; exact ha
theorem BD.rg {n a b r : Int32} (h : BD n a b r) (ha : 0 ≤ a.toInt ∧ a.toInt ≤ 2000) : 0 ≤ b.toInt ∧ b.toInt ≤ 2000 := by
  by_cases c : 0 ≤ n.toInt ∧ n.toInt ≤ a.toInt
  · have := (h.1 c).1; omega
  · rw [(h.2 c).1]; exact ha
/-- the tape of both: sizes alike before, alike after -/
theorem LI.tape {n : Nat} {σ σ1 σ2 : HS} (h : LI n σ) (hn : n ≤ 511) (hG : GIc σ1) (ho : ony [2, 3] σ σ1) (hM : MT σ1 σ2) (h2 : 0 ≤ (σ2.1 236 2).toInt ∧ (σ2.1 236 2).toInt ≤ 2000) (e : σ1.1 2 1 = σ2.1 236 2) : LI (n + 1) σ2 := by
  have kM := ony_keepMd ho (by decide)
  have kC := hM.onm.keepC (by decide)
  refine ⟨hG.keepC kC, TX.keepC (by unfold TX; rw [ho.2]; exact h.2.1) kC, hM.GIm (h.2.2.1.keepM kM) h2, ((h.2.2.2.1.keepM kM).ony hM.onm (by decide)).mono (by omega) (by omega), ?_⟩
  rw [(kC.1 2 (by decide)).1, e]
/-! the fresh state -/
theorem s0I_zero {i : Nat} (h : (decide (20 ≤ kd i) && !([41, 42, 54, 55, 252, 266, 267].contains i)) = true) (j : Nat) : s0I i j = 0 := by
  simp only [Bool.and_eq_true, decide_eq_true_eq, Bool.not_eq_true', List.contains_cons, List.contains_nil, Bool.or_false, Bool.or_eq_false_iff, beq_eq_false_iff_ne] at h
  obtain ⟨h1, h2, h3, h4, h5, h6, h7, h8⟩ := h
  unfold s0I
  split
  · omega
  · omega
  · omega
  · omega
  · rw [if_neg (by omega), if_neg (by omega), if_neg (by omega), if_neg (by omega)]
  · rfl
theorem s0_c : GIc s0 := by
  refine ⟨by decide, fun q hq j => ?_, by decide +kernel, fun j hj h => ?_⟩
  · have a : ∀ q ∈ bdA, (decide (20 ≤ kd q.1) && !([41, 42, 54, 55, 252, 266, 267].contains q.1)) = true ∧ q.2.1 ≤ 0 ∧ 0 ≤ q.2.2 := by decide
    obtain ⟨a1, a2, a3⟩ := a q hq
    show q.2.1 ≤ (s0I q.1 j).toInt ∧ (s0I q.1 j).toInt ≤ q.2.2
    rw [s0I_zero a1]
    exact ⟨a2, a3⟩
  · exfalso
    have e : s0I 4 j = 0 := s0I_zero (by decide) j
    have h1 : (s0I 4 j).toInt = 21 := h
    rw [e] at h1
    exact absurd h1 (by decide)
theorem s0_m : GIm s0 := by
  refine ⟨by decide, fun q hq j => ?_⟩
  have a : ∀ q ∈ bdAm, (decide (20 ≤ kd q.1) && !([41, 42, 54, 55, 252, 266, 267].contains q.1)) = true ∧ q.2.1 ≤ 0 ∧ 0 ≤ q.2.2 := by decide
  obtain ⟨a1, a2, a3⟩ := a q hq
  show q.2.1 ≤ (s0I q.1 j).toInt ∧ (s0I q.1 j).toInt ≤ q.2.2
  rw [s0I_zero a1]
  exact ⟨a2, a3⟩
theorem s0_r : RKm 0 s0 := by
  have p0 : (s0.1 249 (s0.1 236 18).toInt.toNat).toInt = 0 := by decide
  refine ⟨⟨by decide, ?_, ?_, fun u hu => absurd hu ?_, fun s hs h => absurd ?_ h, fun p hp => absurd hp ?_⟩, fun k hk => ?_⟩
  · rw [p0]; exact ⟨by decide, by decide, by decide, by decide⟩
  · rw [p0]; exact ⟨by decide, by decide, by decide, by decide⟩
  · have : (s0.1 236 54).toInt = 0 := by decide
    omega
  · show (s0I 275 s).toInt = 0
    rw [s0I_zero (by decide)]
    rfl
  · rw [p0]; omega
  · have f : ∀ j, s0.1 254 j = 0 := fun j => s0I_zero (i := 254) (by decide) j
    have g : ∀ j, s0.1 255 j = 0 := fun j => s0I_zero (i := 255) (by decide) j
    rw [f, g]
    refine ⟨⟨by decide, by decide⟩, by decide, fun q h1 h2 => ?_⟩
    exfalso
    have : (0 : Int32).toInt = 0 := rfl
    omega
theorem s0_li : LI 0 s0 := ⟨s0_c, Or.inl ⟨rfl, rfl⟩, s0_m, s0_r, by decide⟩
