/-! the reference's read, from its call on -/
section MHD
variable {b : Nat → Int32} {n sd : Nat} {σc σ s : HS}
def bT (σ : HS) (i : Nat) : Int32 := (vp_nar .byte (σ.1 237 i)) &&& 255
def nT2 (σ : HS) : Nat := (σ.1 236 2).toInt.toNat
theorem mr_plain (hsd : sd ≤ 1) : Okv (f_X12_plain (nI sd) σ) (fun s => frm (wPm sd) wl0 σ s ∧ (∀ k, s.1 236 k = σ.1 236 k) ∧ s.1 245 sd = 0 ∧ s.1 249 sd = 0 ∧ s.1 252 sd = 1 ∧ s.1 253 sd = 0 ∧ ∀ k, k < 4 → s.1 254 (4 * sd + k) = 0 ∧ s.1 255 (4 * sd + k) = 0) := by
  unfold f_X12_plain
  rw [nIt (by omega), Int.toNat_natCast]
  refine Okv.t (by omega) (Okv.bd (Okv.t (by omega) (Okv.bd (Okv.t (by omega) (Okv.bd (Okv.t (by omega) (Okv.bd ?_)))))))
  generalize hs4 : hI (hI (hI (hI σ 245 sd 0) 249 sd 0) 252 sd 1) 253 sd 0 = s4
  have f4 : frm (wPm sd) wl0 σ s4 := by
    rw [← hs4]
    exact (((frm.rf.I (by unfold wPm; simp)).I (by unfold wPm; simp)).I (by unfold wPm; simp)).I (by unfold wPm; simp)
  have loop : ∀ (d k N : Nat) (s : HS), k + d = 4 → d < N → frm (wPm sd) wl0 σ s → (∀ k, s.1 236 k = σ.1 236 k) → s.1 245 sd = 0 → s.1 249 sd = 0 → s.1 252 sd = 1 → s.1 253 sd = 0 → (∀ j, j < k → s.1 254 (4 * sd + j) = 0 ∧ s.1 255 (4 * sd + j) = 0) → Okv (f_X12_plain_30 N (nI sd) (nI k) s) (fun s => frm (wPm sd) wl0 σ s ∧ (∀ k, s.1 236 k = σ.1 236 k) ∧ s.1 245 sd = 0 ∧ s.1 249 sd = 0 ∧ s.1 252 sd = 1 ∧ s.1 253 sd = 0 ∧ ∀ k, k < 4 → s.1 254 (4 * sd + k) = 0 ∧ s.1 255 (4 * sd + k) = 0) := by
    intro d
    induction d with
    | zero =>
      intro k N s hk hN hf h36 h1 h2 h3 h4 hz
      obtain ⟨N, rfl⟩ : ∃ q, N = q + 1 := ⟨N - 1, by omega⟩
      show Okv (b_X12_plain_30 (f_X12_plain_30 N) (nI sd) (nI k) s) _
      unfold b_X12_plain_30
      rw [nIt (n := k) (by omega)]
      exact Okv.f (by omega) (Okv.ret ⟨hf, h36, h1, h2, h3, h4, fun j hj => hz j (by omega)⟩)
    | succ d ih =>
      intro k N s hk hN hf h36 h1 h2 h3 h4 hz
      obtain ⟨N, rfl⟩ : ∃ q, N = q + 1 := ⟨N - 1, by omega⟩
      show Okv (b_X12_plain_30 (f_X12_plain_30 N) (nI sd) (nI k) s) _
      unfold b_X12_plain_30
      rw [z4m sd (by omega), nI_add, nIt (n := k) (by omega), nIt (by omega), Int.toNat_natCast]
      refine Okv.t (by omega) (Okv.t (by omega) (Okv.bd (Okv.t (by omega) (Okv.bd (Okv.bd ?_)))))
      rw [nI_1]
      refine ih (k + 1) N _ (by omega) (by omega) ((hf.I (by unfold wPm; simp; omega)).I (by unfold wPm; simp; omega)) (fun k => by rw [rI_i (by decide), rI_i (by decide)]; exact h36 k) (by rw [rI_i (by decide), rI_i (by decide)]; exact h1) (by rw [rI_i (by decide), rI_i (by decide)]; exact h2) (by rw [rI_i (by decide), rI_i (by decide)]; exact h3) (by rw [rI_i (by decide), rI_i (by decide)]; exact h4) (fun j hj => ?_)
      by_cases c : j = k
      · subst c
        exact ⟨by rw [rI_i (by decide), rI_s], rI_s⟩
      · exact ⟨by rw [rI_i (by decide), rI_k (by omega)]; exact (hz j (by omega)).1, by rw [rI_k (by omega), rI_i (by decide)]; exact (hz j (by omega)).2⟩
  rw [nI0]
  refine loop 4 0 5000 s4 (by omega) (by omega) f4 (fun k => ?_) ?_ ?_ ?_ ?_ (fun j hj => absurd hj (by omega)) <;> rw [← hs4]
  · rw [rI_i (by decide), rI_i (by decide), rI_i (by decide), rI_i (by decide)]
  · rw [rI_i (by decide), rI_i (by decide), rI_i (by decide), rI_s]
  · rw [rI_i (by decide), rI_i (by decide), rI_s]
  · rw [rI_i (by decide), rI_s]
  · rw [rI_s]
/-- what a read may write: one that accepts, one that refuses -/
def wRM (sd a k : Nat) : Bool := wRd1 sd a k || a == 238 || wr LC a k || (a == 236 && (k == 2 || k == 4 || k == 19))
def wRMr (sd a k : Nat) : Bool := wRd0 sd a k || a == 238 || wr LC a k || (a == 236 && (k == 2 || k == 4 || k == 19))
def wlRM (a : Nat) : Bool := a == 244 || LC.contains a
theorem wRd1_0 {a k : Nat} (e : wRd1 sd a k = false) : wRd0 sd a k = false := by
  have h2 := e
  unfold wRd1 at h2
  unfold wRd0
  simp only [Bool.or_eq_false_iff] at h2 ⊢
  refine ⟨h2.1.1.1.1, ?_⟩
  have h2 := h2.1.1.1.2
  cases c : (a == 236) with
  | false => rfl
  | true => rw [c] at h2; simp at h2 ⊢; omega
theorem wRM_r {a k : Nat} (e : wRM sd a k = false) : wRMr sd a k = false := by
  unfold wRM at e
  unfold wRMr
  simp only [Bool.or_eq_false_iff] at e ⊢
  exact ⟨⟨⟨wRd1_0 e.1.1.1, e.1.1.2⟩, e.1.2⟩, e.2⟩
theorem wRM_1 {a k : Nat} (e : wRM sd a k = false) : wRd1 sd a k = false := by
  unfold wRM at e
  simp only [Bool.or_eq_false_iff] at e
  exact e.1.1.1
theorem wRMr_x {a k : Nat} (e : wRMr sd a k = false) : wRd0 sd a k = false ∧ wPm sd a k = false ∧ wr LC a k = false ∧ a ≠ 238 ∧ (a ≠ 236 ∨ (k ≠ 2 ∧ k ≠ 4 ∧ k ≠ 19)) := by
  unfold wRMr at e
  simp only [Bool.or_eq_false_iff, beq_eq_false_iff_ne, ne_eq] at e
  obtain ⟨⟨⟨e0, e1⟩, e2⟩, e3⟩ := e
  refine ⟨e0, ?_, e2, e1, ?_⟩
  · unfold wRd0 at e0
    simp only [Bool.or_eq_false_iff] at e0
    exact e0.1
  · by_cases c : a = 236
    · subst c; simp at e3; omega
    · exact Or.inl c
theorem onm_frm {L : List Nat} {σ1 : HS} (h : onm L σ σ1) : frm (wr L) (fun a => L.contains a) σ σ1 := h
theorem z130 : ∀ z, z < 2 → (130 : Int32) * nI z = nI (130 * z) := by decide +kernel
theorem z420 : ∀ z, z < 2 → (420 : Int32) * nI z = nI (420 * z) := by decide +kernel
def rdT (σ : HS) : Option (Int32 × HS) :=
    Bd (hI σ 236 2 0) fun σ1 =>
    Cv (f_X12_cut σ1) fun σ2 =>
    Bd (hI σ2 236 11 0) fun σ4 =>
    Bd (hI σ4 236 12 0) fun σ5 =>
    Bd (hI σ5 236 13 0) fun σ6 =>
    Bd (hI σ6 236 15 0) fun σ7 =>
    Bd (hI σ7 236 19 ((1 : Int32) - (σ7.1 236 18))) fun σ8 =>
    Bd (hI σ8 236 20 0) fun σ9 =>
    Cv (f_X12_plain (σ9.1 236 19) σ9) fun σ10 =>
    Bd (hI σ10 236 33 ((130 : Int32) * (σ10.1 236 19))) fun σ12 =>
    Bd (hI σ12 236 39 ((420 : Int32) * (σ12.1 236 19))) fun σ13 =>
    f_X12_read_112 5000 σ13
theorem mr_copy {m : Nat} {Q : Int32 → HS → Prop} (hm : m ≤ 2000) (e4 : σ.1 236 4 = nI m) (cont : ∀ s2, frm (fun a _ => a == 238) wl0 σ s2 → (∀ i, i < m → s2.1 238 i = vp_nar .byte (σ.1 237 i)) → Ok (rdT s2) Q) : ∀ (d k N : Nat) (s : HS), k + d = m → d < N → frm (fun a _ => a == 238) wl0 σ s → (∀ i, i < k → s.1 238 i = vp_nar .byte (σ.1 237 i)) → Ok (f_X12_read_10 N (nI k) s) Q := by
  intro d
  induction d with
  | zero =>
    intro k N s hk hN hf hz
    obtain ⟨N, rfl⟩ : ∃ q, N = q + 1 := ⟨N - 1, by omega⟩
    show Ok (b_X12_read_10 (f_X12_read_10 N) (nI k) s) _
    unfold b_X12_read_10
    rw [hf.1 236 4 rfl, e4, nIt (by omega), nIt (by omega)]
    exact Ok.f (by omega) (cont s hf (fun i hi => hz i (by omega)))
  | succ d ih =>
    intro k N s hk hN hf hz
    obtain ⟨N, rfl⟩ : ∃ q, N = q + 1 := ⟨N - 1, by omega⟩
    show Ok (b_X12_read_10 (f_X12_read_10 N) (nI k) s) _
    unfold b_X12_read_10
    rw [hf.1 236 4 rfl, e4, nIt (n := k) (by omega), nIt (n := m) (by omega), Int.toNat_natCast]
    refine Ok.t (by omega) (Ok.t (by omega) (Ok.t (by omega) (Ok.bd (Ok.bd ?_))))
    rw [nI_1, hf.1 237 k rfl]
    refine ih (k + 1) N _ (by omega) (by omega) (hf.I rfl) (fun i hi => ?_)
    by_cases c : i = k
    · rw [c, rI_s]
    · rw [rI_k c]; exact hz i (by omega)
theorem TKA.same {b : Nat → Int32} {n : Nat} {s : HS} (h : TKA b n σ) (e : ∀ a k, 239 ≤ a → a ≤ 241 → s.1 a k = σ.1 a k) (e2 : s.2.1 242 = σ.2.1 242) : TKA b n s := fun q h4 hp => by
  rw [e 239 q (by omega) (by omega), e 240 q (by omega) (by omega), e 241 q (by omega) (by omega), e2]
  exact h q h4 hp
theorem mr_tail {m : Nat} (hsd : sd ≤ 1) (hm : m ≤ 2000) (e4 : σ.1 236 4 = nI m) (hlv : σ.1 236 18 = nI (1 - sd)) (hK : KEY σ) : Ok (rdT σ) (fun r s => s.1 236 2 = 0 ∧ frm (wRM sd) wlRM σ s ∧ (r.toInt ≠ 0 → frm (wRMr sd) wlRM σ s) ∧ ∃ σb, RDm sd σb (readS (kdT (bM σ) m) (vlT (bM σ) m) (plI (bM σ) m) (nmT (bM σ) m)) r s) := by
  unfold rdT
  refine Ok.bd ?_
  generalize hs1 : hI σ 236 2 0 = s1
  have c1 : CM s1 := by
    unfold CM
    rw [← hs1, rI_k (by decide), e4, nIt (by omega)]; omega
  have k1 : KEY s1 := by rw [← hs1]; exact hK
  refine Ok.cv (w_X12_cut c1 k1) (fun s2 h2 => ?_)
  obtain ⟨on2, hT2⟩ := h2
  have eb : bM s1 = bM σ := by rw [← hs1]; exact funext fun i => by unfold bM; rw [rI_i (by decide)]
  have en : nM s1 = m := by unfold nM; rw [← hs1, rI_k (by decide), e4, nIt (by omega), Int.toNat_natCast]
  rw [eb, en] at hT2
  have F2 := onm_frm on2
  have q2 : ∀ k, k ≠ 10 → k ≠ 2 → s2.1 236 k = σ.1 236 k := fun k h1 h2 => by
    rw [F2.1 236 k (by unfold wr; rw [if_pos rfl]; simp [LC]; omega), ← hs1, rI_k h2]
  refine Ok.bd (Ok.bd (Ok.bd (Ok.bd ?_)))
  rw [rI_k (show (18 : Nat) ≠ 15 by decide), rI_k (show (18 : Nat) ≠ 13 by decide), rI_k (show (18 : Nat) ≠ 12 by decide), rI_k (show (18 : Nat) ≠ 11 by decide), q2 18 (by decide) (by decide), hlv, show (1 : Int32) - nI (1 - sd) = nI sd from (nI_sub (a := 1 - sd) (b := 1) (by omega) (by omega)).trans (congrArg nI (by omega))]
  refine Ok.bd (Ok.bd ?_)
  generalize hs9 : hI (hI (hI (hI (hI (hI s2 236 11 0) 236 12 0) 236 13 0) 236 15 0) 236 19 (nI sd)) 236 20 0 = s9
  have F9 : frm (fun a k => a == 236 && (k == 11 || k == 12 || k == 13 || k == 15 || k == 19 || k == 20)) wl0 s2 s9 := by
    rw [← hs9]
    exact (((((frm.rf.I rfl).I rfl).I rfl).I rfl).I rfl).I rfl
  have e11 : s9.1 236 11 = 0 := by rw [← hs9, rI_k (by decide), rI_k (by decide), rI_k (by decide), rI_k (by decide), rI_k (by decide), rI_s]
  have e12 : s9.1 236 12 = 0 := by rw [← hs9, rI_k (by decide), rI_k (by decide), rI_k (by decide), rI_k (by decide), rI_s]
  have e13 : s9.1 236 13 = 0 := by rw [← hs9, rI_k (by decide), rI_k (by decide), rI_k (by decide), rI_s]
  have e15 : s9.1 236 15 = 0 := by rw [← hs9, rI_k (by decide), rI_k (by decide), rI_s]
  have e19 : s9.1 236 19 = nI sd := by rw [← hs9, rI_k (by decide), rI_s]
  have e20 : s9.1 236 20 = 0 := by rw [← hs9, rI_s]
  rw [e19]
  refine Ok.cv (mr_plain (σ := s9) hsd) (fun s10 h10 => ?_)
  obtain ⟨F10, g10, p245, p249, p252, p253, p254⟩ := h10
  refine Ok.bd ?_
  rw [g10 19, e19, z130 sd (by omega)]
  refine Ok.bd ?_
  rw [rI_k (show (19 : Nat) ≠ 33 by decide), g10 19, e19, z420 sd (by omega)]
  generalize hs13 : hI (hI s10 236 33 (nI (130 * sd))) 236 39 (nI (420 * sd)) = s13
  have F13 : frm (wPm sd) wl0 s10 s13 := by rw [← hs13]; exact (frm.rf.I (by unfold wPm; simp)).I (by unfold wPm; simp)
  have o13 : ∀ a k, a ≠ 236 → s13.1 a k = s10.1 a k := fun a k ha => by rw [← hs13, rI_i ha, rI_i ha]
  have q13 : ∀ k, k ≠ 33 → k ≠ 39 → s13.1 236 k = s9.1 236 k := fun k h1 h2 => by rw [← hs13, rI_k h2, rI_k h1, g10 k]
  have hT13 : TKA (bM σ) m s13 := hT2.same (fun a k h1 h2 => by
    rw [o13 a k (by omega), F10.1 a k (by unfold wPm; simp; omega), F9.1 a k (by simp; omega)]) (by
    rw [F13.2.1 242 rfl, F10.2.1 242 rfl, F9.2.1 242 rfl])
  have T0 : TMs (bM σ) m sd s13 (0, (0, fun _ => 0), (0, -1), dat0) s13 := by
    refine ⟨⟨frm.rf, by show (0 : Nat) ≤ 400; omega, fun p hp => absurd hp (by show ¬ p < 0; omega), ?_, ?_⟩, ⟨?_, by show (0 : Nat) ≤ 12; omega, fun i hi => absurd hi (by show ¬ i < 0; omega)⟩, ⟨?_, fun h => absurd rfl h⟩, rfl, ⟨?_, by show (0 : Nat) ≤ 7; omega, fun e he => absurd he (by show ¬ e < 0; omega)⟩, ⟨?_, by show (0 : Nat) ≤ 5; omega, fun e he => absurd he (by show ¬ e < 0; omega)⟩, ⟨?_, ?_⟩, ⟨130 * sd, 420 * sd, ?_, Nat.le_refl _, by show 4 * (130 * sd) ≤ 520 * sd + 0; omega, ?_, Nat.le_refl _, by show 420 * sd ≤ 420 * sd + 0; omega, fun k hk => ⟨?_, ?_⟩⟩, ?_, ?_⟩
    · rw [q13 11 (by decide) (by decide), e11]; rfl
    · rw [q13 13 (by decide) (by decide), e13]; rfl
    · rw [q13 20 (by decide) (by decide), e20]; rfl
    · rw [q13 15 (by decide) (by decide), e15]; rfl
    · rw [o13 _ _ (by decide), p245]; rfl
    · rw [o13 _ _ (by decide), p249]; rfl
    · rw [o13 _ _ (by decide), p252]; rfl
    · rw [o13 _ _ (by decide), p253]; rfl
    · rw [← hs13, rI_k (by decide), rI_s]
    · rw [← hs13, rI_s]
    · rw [o13 _ _ (by decide)]; exact (p254 k hk).1
    · rw [o13 _ _ (by decide)]; exact (p254 k hk).2
    · rw [q13 12 (by decide) (by decide), e12]
    · rw [q13 19 (by decide) (by decide), e19]
  have base : frm (wRMr sd) wlRM σ s13 := by
    refine (((frm.tr (?_ : frm (wRMr sd) wlRM σ s1) (F2.mono (fun a k e => (wRMr_x e).2.2.1) (fun a e => ?_))).tr (F9.mono (fun a k e => ?_) (fun _ _ => rfl))).tr (F10.mono (fun a k e => (wRMr_x e).2.1) (fun _ _ => rfl))).tr (F13.mono (fun a k e => (wRMr_x e).2.1) (fun _ _ => rfl))
    · rw [← hs1]; exact frm.rf.I (by unfold wRMr; simp)
    · unfold wlRM at e
      simp only [Bool.or_eq_false_iff] at e
      exact e.2
    · have h1 := (wRMr_x e).2.1
      have h2 := (wRMr_x e).2.2.2.2
      unfold wPm at h1
      simp only [Bool.or_eq_false_iff] at h1
      have h1 := h1.1.1.1.1.1.1.1.1
      cases c : (a == 236) with
      | false => rfl
      | true =>
        rw [c] at h1
        have ca : a = 236 := by simpa using c
        simp at h1 ⊢
        omega
  refine (mr_top hT13 hsd 402 5000 _ s13 (by show 401 - 0 < 402; omega) (by omega) (by show (0 : Int) ≤ 0; omega) T0).mono (fun r s hr => ?_)
  have z2 : s13.1 236 2 = 0 := by
    rw [q13 2 (by decide) (by decide), F9.1 236 2 rfl, F2.1 236 2 rfl, ← hs1, rI_s]
  have hr4 := hr
  obtain ⟨r1, r2, r3, r4⟩ := hr
  by_cases c : r.toInt = 0
  · have f := (r4 c).1
    refine ⟨?_, (base.mono (fun _ _ => wRM_r) (fun _ e => e)).tr (f.mono (fun _ _ => wRM_1) (fun a e => ?_)), fun h => absurd c h, s13, hr4⟩
    · rw [f.1 236 2 (by unfold wRd1 wPm; simp)]; exact z2
    · unfold wlRM at e
      simp only [Bool.or_eq_false_iff] at e
      exact e.1
  · have f := r3 c
    have ff : frm (wRMr sd) wlRM σ s := base.tr (f.mono (fun _ _ e => (wRMr_x e).1) (fun a e => by
      unfold wlRM at e
      simp only [Bool.or_eq_false_iff] at e
      exact e.1))
    refine ⟨?_, ff.mono (fun _ _ => wRM_r) (fun _ e => e), fun _ => ff, s13, hr4⟩
    rw [f.1 236 2 (by unfold wRd0 wPm; simp)]; exact z2
/-- the reference's read, wholly -/
theorem mr_read (hsd : sd ≤ 1) (hlv : σ.1 236 18 = nI (1 - sd)) (h2 : 0 ≤ (σ.1 236 2).toInt ∧ (σ.1 236 2).toInt ≤ 2000) (hK : KEY σ) : Ok (f_X12_read σ) (fun r s => s.1 236 2 = 0 ∧ frm (wRM sd) wlRM σ s ∧ (r.toInt ≠ 0 → frm (wRMr sd) wlRM σ s) ∧ ∃ σb, RDm sd σb (readS (kdT (bT σ) (nT2 σ)) (vlT (bT σ) (nT2 σ)) (plI (bT σ) (nT2 σ)) (nmT (bT σ) (nT2 σ))) r s) := by
  obtain ⟨m, hm, hm2⟩ : ∃ m : Nat, σ.1 236 2 = nI m ∧ m ≤ 2000 := ⟨(σ.1 236 2).toInt.toNat, Int32.toInt_inj.mp (by rw [nIt (by omega)]; omega), by omega⟩
  have en : nT2 σ = m := by unfold nT2; rw [hm, nIt (by omega), Int.toNat_natCast]
  rw [en]
  unfold f_X12_read
  refine Ok.bd ?_
  rw [hm, nI0]
  generalize hs0 : hI σ 236 4 (nI m) = s0
  have f0 : frm (wRMr sd) wlRM σ s0 := by rw [← hs0]; exact frm.rf.I (by unfold wRMr; simp)
  refine mr_copy (σ := s0) (m := m) hm2 (by rw [← hs0, rI_s]) (fun s2 hf hz => ?_) m 0 5000 s0 (by omega) (by omega) frm.rf (fun i hi => absurd hi (by omega))
  have q2 : ∀ k, k ≠ 4 → s2.1 236 k = σ.1 236 k := fun k hk => by rw [hf.1 236 k rfl, ← hs0, rI_k hk]
  refine (mr_tail (m := m) hsd hm2 (by rw [hf.1 236 4 rfl, ← hs0, rI_s]) (by rw [q2 18 (by decide)]; exact hlv) (fun k hk => by rw [hf.2.1 243 rfl, ← hs0]; exact hK k hk)).mono (fun r s h => ?_)
  obtain ⟨a1, a2, a3, σb, a4⟩ := h
  have f2 : frm (wRMr sd) wlRM σ s2 := f0.tr (hf.mono (fun a k e => by simpa using (wRMr_x e).2.2.2.1) (fun _ _ => rfl))
  have ec := readS_cg (b := bM s2) (b' := bT σ) (n := m) (fun i hi => by
    unfold bM bT
    rw [hz i hi, ← hs0, rI_i (by decide)])
  rw [ec] at a4
  exact ⟨a1, (f2.mono (fun _ _ => wRM_r) (fun _ e => e)).tr a2, fun h => f2.tr (a3 h), σb, a4⟩
end MHD
