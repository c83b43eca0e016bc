/-! into: that the class answers -/
section INTOC
variable {σ s s2 : HS} {n t u sd k nx m T : Nat} {ρ : Nat → Int32} {d : DAT} {b : Int} {H G : Nat → Nat → Int32} {tb9 : Nat → Nat} {x y z : Int32}
def flV (x y : Int32) : Int32 := if (x ^^^ y).toInt < 0 then (if (x - x / y * y).toInt = 0 then x - x / y * y else x - x / y * y + y) else x - x / y * y
theorem e_flV (hy : y.toInt ≠ 0) : f_J9_floorMod_7cf53 x y σ = some (flV x y, σ) := by
  unfold f_J9_floorMod_7cf53 flV
  rw [if_neg hy]
  simp only [Bd]
  split
  · split <;> rfl
  · rfl
theorem flV_rg : ∀ q, q < 10 → ∀ L, L < 16 → 0 < L → 0 ≤ (flV (-(nI q)) (nI L)).toInt ∧ (flV (-(nI q)) (nI L)).toInt < (L : Int) := by decide +kernel
theorem w_land3 {p L : Nat} (hL : 1 ≤ L ∧ L ≤ 8) (ha : (L : Int) ≤ al p) : Ok (f_X3_landingBits p (nI L) σ) (fun _ s => s = σ) := by
  have loop : ∀ (dd q N : Nat) (y : Int32), q + dd = 10 → dd < N → Ok (f_X3_landingBits_4 p N (nI L) y (nI q) σ) (fun _ s => s = σ) := by
    intro dd
    induction dd with
    | zero =>
      intro q N y hq hN
      obtain ⟨N, rfl⟩ : ∃ q, N = q + 1 := ⟨N - 1, by omega⟩
      show Ok (b_X3_landingBits_4 p (f_X3_landingBits_4 p N) (nI L) y (nI q) σ) _
      unfold b_X3_landingBits_4
      rw [nIt (n := q) (by omega)]
      exact Ok.t (by omega) (Ok.ret rfl)
    | succ dd ih =>
      intro q N y hq hN
      obtain ⟨N, rfl⟩ : ∃ q, N = q + 1 := ⟨N - 1, by omega⟩
      show Ok (b_X3_landingBits_4 p (f_X3_landingBits_4 p N) (nI L) y (nI q) σ) _
      unfold b_X3_landingBits_4 f_X3_landingBits_38
      have fr := flV_rg q (by omega) L (by omega) (by omega)
      rw [nIt (n := q) (by omega), nIt (n := L) (by omega)]
      refine Ok.f (by omega) (Ok.t (by omega) (Ok.cle (e_flV (by rw [nIt (by omega)]; omega)) (Ok.t (by omega) (Ok.bd (Ok.i (fun _ => Ok.bd ?_) (fun _ => Ok.bd (Ok.bd ?_)))))))
      · rw [nI_1]; exact ih (q + 1) N _ (by omega) (by omega)
      · rw [nI_1]; exact ih (q + 1) N _ (by omega) (by omega)
  exact loop 9 1 5000 0 (by omega) (by omega)
theorem e_two (h : RELx n d t u sd ρ k nx H m tb9 G σ) : Ok (f_X0_twoLandAlike 56 σ) (fun _ s => s = σ) := by
  have hT := h.tc.T7
  unfold f_X0_twoLandAlike
  exact Ok.cle (e_landingBits h.ar.1 hT) (Ok.cle e_bitCount (Ok.cle (e_howManyUp h.ar.1 hT) (Ok.i (fun _ => Ok.ret rfl) (fun _ => Ok.ret rfl))))
theorem w_fill2 {p N : Nat} {v : Int32} (hN : (Int32.ofNat (al p)).toInt = N) (hN2 : (al p : Int) = N) (h1 : N ≤ 2000) : Okv (f_J7_fill_53178 p v σ) (fun s => frm (fun a _ => a == p) wl0 σ s ∧ ∀ i, i < N → s.1 p i = v) := by
  unfold f_J7_fill_53178
  refine Okv.bd ?_
  have loop : ∀ (d k M : Nat) (s : HS), k + d = N → d < M → frm (fun a _ => a == p) wl0 σ s → (∀ i, i < k → s.1 p i = v) → Okv (f_J7_fill_53178_5 p M v (nI k) (Int32.ofNat (al p)) s) (fun s => frm (fun a _ => a == p) wl0 σ s ∧ ∀ i, i < N → s.1 p i = v) := by
    intro d
    induction d with
    | zero =>
      intro k M s hk hM hf hz
      obtain ⟨M, rfl⟩ : ∃ q, M = q + 1 := ⟨M - 1, by omega⟩
      show Okv (b_J7_fill_53178_5 p (f_J7_fill_53178_5 p M) v (nI k) (Int32.ofNat (al p)) s) _
      unfold b_J7_fill_53178_5
      rw [nIt (by omega), hN]
      exact Okv.f (by omega) (Okv.ret ⟨hf, fun i hi => hz i (by omega)⟩)
    | succ d ih =>
      intro k M s hk hM hf hz
      obtain ⟨M, rfl⟩ : ∃ q, M = q + 1 := ⟨M - 1, by omega⟩
      show Okv (b_J7_fill_53178_5 p (f_J7_fill_53178_5 p M) v (nI k) (Int32.ofNat (al p)) s) _
      unfold b_J7_fill_53178_5
      rw [nIt (by omega), hN, hN2, Int.toNat_natCast]
      refine Okv.t (by omega) (Okv.t (by omega) (Okv.bd (Okv.bd ?_)))
      rw [nI_1]
      refine ih (k + 1) M _ (by omega) (by omega) (hf.I (by simp)) (fun i hi => ?_)
      by_cases c : i = k
      · rw [c, rI_s]
      · rw [rI_k c]; exact hz i (by omega)
  rw [nI0]
  exact loop N 0 5000 σ (by omega) (by omega) frm.rf (fun i hi => absurd hi (by omega))
/-- what the search holds: c met, each with one it came from -/
def wFi (a k : Nat) : Bool := (a == 17 && (k == 1 || k == 5)) || a == 18 || a == 19 || a == 20 || a == 21
theorem fi_wQ (i k : Nat) (h : wFi i k = true) : wQ i k = true := by
  unfold wFi at h
  simp only [Bool.or_eq_true, Bool.and_eq_true, beq_iff_eq] at h
  rcases h with (((⟨h, h2⟩ | h) | h) | h) | h <;> subst h <;> rfl
def MET (s : HS) : Prop := ∀ i, i < 1024 → s.1 19 i = -1 ∨ ∃ j, j < 1024 ∧ s.1 19 i = nI j ∧ s.1 19 j ≠ -1
def FI (c : Nat) (s : HS) : Prop := s.1 17 1 = nI c ∧ c ≤ 1024 ∧ MET s ∧ ∀ i, i < c → ∃ j, j < 1024 ∧ s.1 18 i = nI j ∧ s.1 19 j ≠ -1
theorem m1_nI {j : Nat} (h : j < 1024) : nI j ≠ -1 := fun e => by
  have := congrArg Int32.toInt e
  rw [nIt (by omega)] at this
  exact absurd this (by show ¬ ((j : Int) = -1); omega)
theorem w_meet {c a p : Nat} {v : Int32} (h : FI c s) (ha : a < 1024) (hp : p < 1024) (hx : p = a ∨ s.1 19 p ≠ -1) : Okv (f_X7_meet (nI a) (nI p) v s) (fun s2 => ∃ c', c ≤ c' ∧ FI c' s2 ∧ frm wFi wl0 s s2 ∧ s2.1 17 5 = s.1 17 5 ∧ ∀ i, s.1 19 i ≠ -1 → s2.1 19 i ≠ -1) := by
  obtain ⟨h1, h2, h3, h4⟩ := h
  unfold f_X7_meet
  rw [nIt (n := a) (by omega), Int.toNat_natCast, h1, nIt (n := c) (by omega)]
  refine Okv.t (by omega) (Okv.i (fun e => ?_) (fun _ => Okv.ret ⟨c, Nat.le_refl _, ⟨h1, h2, h3, h4⟩, frm.rf, rfl, fun i hi => hi⟩))
  have e1 : s.1 19 a = -1 := Int32.toInt_inj.mp e
  refine Okv.i (fun hc => ?_) (fun _ => Okv.ret ⟨c, Nat.le_refl _, ⟨h1, h2, h3, h4⟩, frm.rf, rfl, fun i hi => hi⟩)
  refine Okv.t (by omega) (Okv.bd (Okv.t (by omega) (Okv.bd ?_)))
  have e17 : (hI (hI s 19 a (nI p)) 20 a v).1 17 1 = nI c := by rw [rI_i (by decide), rI_i (by decide)]; exact h1
  rw [e17, nIt (n := c) (by omega), Int.toNat_natCast]
  refine Okv.t (by omega) (Okv.bd (Okv.bd ?_))
  have e17b : (hI (hI (hI s 19 a (nI p)) 20 a v) 18 c (nI a)).1 17 1 = nI c := by rw [rI_i (by decide)]; exact e17
  rw [e17b, nI_1]
  have k19 : ∀ i, (hI (hI (hI (hI s 19 a (nI p)) 20 a v) 18 c (nI a)) 17 1 (nI (c + 1))).1 19 i = if i = a then nI p else s.1 19 i := fun i => by
    rw [rI_i (by decide), rI_i (by decide), rI_i (by decide)]
    by_cases ci : i = a
    · rw [ci, rI_s, if_pos rfl]
    · rw [rI_k ci, if_neg ci]
  have k19' : ∀ i, s.1 19 i ≠ -1 → (hI (hI (hI (hI s 19 a (nI p)) 20 a v) 18 c (nI a)) 17 1 (nI (c + 1))).1 19 i ≠ -1 := fun i hi => by
    rw [k19]
    by_cases ci : i = a
    · rw [if_pos ci]; exact m1_nI hp
    · rw [if_neg ci]; exact hi
  refine Okv.ret ⟨c + 1, by omega, ⟨rI_s, by omega, fun i hi => ?_, fun i hi => ?_⟩, (((frm.rf.I rfl).I rfl).I rfl).I rfl, ?_, k19'⟩
  · rw [k19 i]
    by_cases ci : i = a
    · rw [if_pos ci]
      refine Or.inr ⟨p, hp, rfl, ?_⟩
      rcases hx with hx | hx
      · rw [k19, if_pos hx]; exact m1_nI hp
      · exact k19' p hx
    · rw [if_neg ci]
      rcases h3 i hi with g | ⟨j, g1, g2, g3⟩
      · exact Or.inl g
      · exact Or.inr ⟨j, g1, g2, k19' j g3⟩
  · rw [rI_i (by decide)]
    by_cases ci : i = c
    · rw [ci, rI_s]
      exact ⟨a, ha, rfl, by rw [k19, if_pos rfl]; exact m1_nI hp⟩
    · rw [rI_k ci, rI_i (by decide), rI_i (by decide)]
      obtain ⟨j, g1, g2, g3⟩ := h4 i (by omega)
      exact ⟨j, g1, g2, k19' j g3⟩
  · rw [rI_k (by decide), rI_i (by decide), rI_i (by decide), rI_i (by decide)]
theorem sh1_rg : ∀ a, a < 1024 → ∃ q, q < 512 ∧ (nI a) >>> ((1 : Int32) &&& 31) = nI q := by
  intro a ha
  have : ∀ a, a < 1024 → (nI a) >>> ((1 : Int32) &&& 31) = nI (a / 2) := by decide +kernel
  exact ⟨a / 2, by omega, this a ha⟩
theorem or_rg : ∀ q, q < 512 → ∀ y, y < 9 → (0 ≤ ((nI q) ||| ((1 : Int32) <<< ((nI (y + 1) - (1 : Int32)) &&& 31))).toInt ∧ ((nI q) ||| ((1 : Int32) <<< ((nI (y + 1) - (1 : Int32)) &&& 31))).toInt < 1024) := by decide +kernel
def FIq (σ : HS) (c : Nat) (s : HS) : Prop := ∃ c', c ≤ c' ∧ FI c' s ∧ frm wFi wl0 σ s ∧ s.1 17 5 = σ.1 17 5 ∧ ∀ i, σ.1 19 i ≠ -1 → s.1 19 i ≠ -1
theorem FIq.tr {c : Nat} {s1 : HS} {c1 : Nat} (h : FIq σ c s) (hc : FI c1 s) (k : ∀ c2, FI c2 s → FIq s c2 s1) : FIq σ c s1 := by
  obtain ⟨c', g1, g2, g3, g4, g5⟩ := h
  obtain ⟨c3, f1, f2, f3, f4, f5⟩ := k c' g2
  exact ⟨c3, by omega, f2, g3.tr f3, f4.trans g4, fun i hi => f5 i (g5 i hi)⟩
theorem w_goOnFrom {c a : Nat} (h : FI c s) (ha : a < 1024) (hx : s.1 19 a ≠ -1) : Okv (f_X7_goOnFrom (nI a) s) (FIq s c) := by
  unfold f_X7_goOnFrom
  obtain ⟨q, hq, eq⟩ := sh1_rg a ha
  refine Okv.bd ?_
  rw [eq]
  refine Okv.i (fun _ => Okv.cv (w_meet h (by omega) ha (Or.inr hx)) (fun s1 h1 => Okv.ret h1)) (fun _ => ?_)
  have loop : ∀ (dd y N : Nat) (s1 : HS), y + dd = 9 → dd < N → FIq s c s1 → Okv (f_X7_goOnFrom_20 N (nI a) (nI q) (nI (y + 1)) s1) (FIq s c) := by
    intro dd
    induction dd with
    | zero =>
      intro y N s1 hy hN h1
      obtain ⟨N, rfl⟩ : ∃ q, N = q + 1 := ⟨N - 1, by omega⟩
      show Okv (b_X7_goOnFrom_20 (f_X7_goOnFrom_20 N) (nI a) (nI q) (nI (y + 1)) s1) _
      unfold b_X7_goOnFrom_20
      rw [nIt (n := y + 1) (by omega)]
      exact Okv.t (by omega) (Okv.ret h1)
    | succ dd ih =>
      intro y N s1 hy hN h1
      obtain ⟨N, rfl⟩ : ∃ q, N = q + 1 := ⟨N - 1, by omega⟩
      show Okv (b_X7_goOnFrom_20 (f_X7_goOnFrom_20 N) (nI a) (nI q) (nI (y + 1)) s1) _
      unfold b_X7_goOnFrom_20 f_X7_goOnFrom_50
      rw [nIt (n := y + 1) (by omega)]
      refine Okv.f (by omega) (Okv.bd (Okv.i (fun _ => ?_) (fun _ => Okv.bd ?_)))
      · have rg := or_rg q hq y (by omega)
        generalize hv : ((nI q) ||| ((1 : Int32) <<< ((nI (y + 1) - (1 : Int32)) &&& 31))) = v at rg
        obtain ⟨w, hw, rfl⟩ : ∃ w : Nat, w < 1024 ∧ v = nI w := ⟨v.toInt.toNat, by omega, nI_tn rg.1 (by omega)⟩
        obtain ⟨c1, g1, g2, g3, g4, g5⟩ := h1
        refine Okv.cv (w_meet (v := nI (y + 1)) g2 (by omega) ha (Or.inr (g5 a hx))) (fun s3 h3 => Okv.bd ?_)
        rw [nI_1]
        exact ih (y + 1) N s3 (by omega) (by omega) (FIq.tr ⟨c1, g1, g2, g3, g4, g5⟩ g2 (fun c2 h2 => by
          obtain ⟨c3, f1, f2, f3, f4, f5⟩ := h3
          have : c2 = c1 := by
            have e := h2.1.symm.trans g2.1
            have e2 := congrArg Int32.toInt e
            rw [nIt (by have := h2.2.1; omega), nIt (by have := g2.2.1; omega)] at e2
            omega
          subst this
          exact ⟨c3, f1, f2, f3, f4, f5⟩))
      · rw [nI_1]; exact ih (y + 1) N s1 (by omega) (by omega) h1
  exact loop 9 0 5000 s (by omega) (by omega) ⟨c, Nat.le_refl _, h, frm.rf, rfl, fun i hi => hi⟩
end INTOC
