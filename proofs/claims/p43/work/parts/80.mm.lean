/-! the reference's read, from its call on -/
section MHD
variable {b : Nat → Int32} {n sd : Nat} {σc σ s : HS}
def bT (σ : HS) (i : Nat) : Int32 := (vp_nar .byte (σ.1 237 i)) &&& 255
def nT2 (σ : HS) : Nat := (σ.1 236 2).toInt.toNat
theorem mr_plain (hsd : sd ≤ 1) : Okv (f_X12_plain (nI sd) σ) (fun s => frm (wPm sd) wl0 σ s ∧ (∀ k, s.1 236 k = σ.1 236 k) ∧ s.1 245 sd = 0 ∧ s.1 249 sd = 0 ∧ s.1 252 sd = 1 ∧ s.1 253 sd = 0 ∧ ∀ k, k < 4 → s.1 254 (4 * sd + k) = 0 ∧ s.1 255 (4 * sd + k) = 0) := by
  unfold f_X12_plain
  rw [nIt (by omega), Int.toNat_natCast]
  refine Okv.t (by omega) (Okv.bd (Okv.t (by omega) (Okv.bd (Okv.t (by omega) (Okv.bd (Okv.t (by omega) (Okv.bd ?_)))))))
  generalize hs4 : hI (hI (hI (hI σ 245 sd 0) 249 sd 0) 252 sd 1) 253 sd 0 = s4
  have f4 : frm (wPm sd) wl0 σ s4 := by
    rw [← hs4]
    exact (((frm.rf.I (by unfold wPm; simp)).I (by unfold wPm; simp)).I (by unfold wPm; simp)).I (by unfold wPm; simp)
  have loop : ∀ (d k N : Nat) (s : HS), k + d = 4 → d < N → frm (wPm sd) wl0 σ s → (∀ k, s.1 236 k = σ.1 236 k) → s.1 245 sd = 0 → s.1 249 sd = 0 → s.1 252 sd = 1 → s.1 253 sd = 0 → (∀ j, j < k → s.1 254 (4 * sd + j) = 0 ∧ s.1 255 (4 * sd + j) = 0) → Okv (f_X12_plain_30 N (nI sd) (nI k) s) (fun s => frm (wPm sd) wl0 σ s ∧ (∀ k, s.1 236 k = σ.1 236 k) ∧ s.1 245 sd = 0 ∧ s.1 249 sd = 0 ∧ s.1 252 sd = 1 ∧ s.1 253 sd = 0 ∧ ∀ k, k < 4 → s.1 254 (4 * sd + k) = 0 ∧ s.1 255 (4 * sd + k) = 0) := by
    intro d
    induction d with
    | zero =>
      intro k N s hk hN hf h36 h1 h2 h3 h4 hz
      obtain ⟨N, rfl⟩ : ∃ q, N = q + 1 := ⟨N - 1, by omega⟩
      show Okv (b_X12_plain_30 (f_X12_plain_30 N) (nI sd) (nI k) s) _
      unfold b_X12_plain_30
      rw [nIt (n := k) (by omega)]
      exact Okv.f (by omega) (Okv.ret ⟨hf, h36, h1, h2, h3, h4, fun j hj => hz j (by omega)⟩)
    | succ d ih =>
      intro k N s hk hN hf h36 h1 h2 h3 h4 hz
      obtain ⟨N, rfl⟩ : ∃ q, N = q + 1 := ⟨N - 1, by omega⟩
      show Okv (b_X12_plain_30 (f_X12_plain_30 N) (nI sd) (nI k) s) _
      unfold b_X12_plain_30
      rw [z4m sd (by omega), nI_add, nIt (n := k) (by omega), nIt (by omega), Int.toNat_natCast]
      refine Okv.t (by omega) (Okv.t (by omega) (Okv.bd (Okv.t (by omega) (Okv.bd (Okv.bd ?_)))))
      rw [nI_1]
      refine ih (k + 1) N _ (by omega) (by omega) ((hf.I (by unfold wPm; simp; omega)).I (by unfold wPm; simp; omega)) (fun k => by rw [rI_i (by decide), rI_i (by decide)]; exact h36 k) (by rw [rI_i (by decide), rI_i (by decide)]; exact h1) (by rw [rI_i (by decide), rI_i (by decide)]; exact h2) (by rw [rI_i (by decide), rI_i (by decide)]; exact h3) (by rw [rI_i (by decide), rI_i (by decide)]; exact h4) (fun j hj => ?_)
      by_cases c : j = k
      · subst c
        exact ⟨by rw [rI_i (by decide), rI_s], rI_s⟩
      · exact ⟨by rw [rI_i (by decide), rI_k (by omega)]; exact (hz j (by omega)).1, by rw [rI_k (by omega), rI_i (by decide)]; exact (hz j (by omega)).2⟩
  rw [nI0]
  refine loop 4 0 5000 s4 (by omega) (by omega) f4 (fun k => ?_) ?_ ?_ ?_ ?_ (fun j hj => absurd hj (by omega)) <;> rw [← hs4]
  · rw [rI_i (by decide), rI_i (by decide), rI_i (by decide), rI_i (by decide)]
  · rw [rI_i (by decide), rI_i (by decide), rI_i (by decide), rI_s]
  · rw [rI_i (by decide), rI_i (by decide), rI_s]
  · rw [rI_i (by decide), rI_s]
  · rw [rI_s]
/-- what a read may write: one that accepts, one that refuses -/
def wRM (sd a k : Nat) : Bool := wRd1 sd a k || a == 238 || wr LC a k || (a == 236 && (k == 2 || k == 4 || k == 19))
def wRMr (sd a k : Nat) : Bool := wRd0 sd a k || a == 238 || wr LC a k || (a == 236 && (k == 2 || k == 4 || k == 19))
def wlRM (a : Nat) : Bool := a == 244 || LC.contains a
theorem wRd1_0 {a k : Nat} (e : wRd1 sd a k = false) : wRd0 sd a k = false := by
  have h2 := e
  unfold wRd1 at h2
  unfold wRd0
  simp only [Bool.or_eq_false_iff] at h2 ⊢
  refine ⟨h2.1.1.1.1, ?_⟩
  have h2 := h2.1.1.1.2
  cases c : (a == 236) with
  | false => rfl
  | true => rw [c] at h2; simp at h2 ⊢; omega
theorem wRM_r {a k : Nat} (e : wRM sd a k = false) : wRMr sd a k = false := by
  unfold wRM at e
  unfold wRMr
  simp only [Bool.or_eq_false_iff] at e ⊢
  exact ⟨⟨⟨wRd1_0 e.1.1.1, e.1.1.2⟩, e.1.2⟩, e.2⟩
theorem wRM_1 {a k : Nat} (e : wRM sd a k = false) : wRd1 sd a k = false := by
  unfold wRM at e
  simp only [Bool.or_eq_false_iff] at e
  exact e.1.1.1
theorem wRMr_x {a k : Nat} (e : wRMr sd a k = false) : wRd0 sd a k = false ∧ wPm sd a k = false ∧ wr LC a k = false ∧ a ≠ 238 ∧ (a ≠ 236 ∨ (k ≠ 2 ∧ k ≠ 4 ∧ k ≠ 19)) := by
  unfold wRMr at e
  simp only [Bool.or_eq_false_iff, beq_eq_false_iff_ne, ne_eq] at e
  obtain ⟨⟨⟨e0, e1⟩, e2⟩, e3⟩ := e
  refine ⟨e0, ?_, e2, e1, ?_⟩
  · unfold wRd0 at e0
    simp only [Bool.or_eq_false_iff] at e0
    exact e0.1
  · by_cases c : a = 236
    · subst c; simp at e3; omega
    · exact Or.inl c
theorem onm_frm {L : List Nat} {σ1 : HS} (h : onm L σ σ1) : frm (wr L) (fun a => L.contains a) σ σ1 := h
theorem z130 : ∀ z, z < 2 → (130 : Int32) * nI z = nI (130 * z) := by decide +kernel
theorem z420 : ∀ z, z < 2 → (420 : Int32) * nI z = nI (420 * z) := by decide +kernel
def rdT (σ : HS) : Option (Int32 × HS) :=
    Bd (hI σ 236 2 0) fun σ1 =>
    Cv (f_X12_cut σ1) fun σ2 =>
    Bd (hI σ2 236 11 0) fun σ4 =>
    Bd (hI σ4 236 12 0) fun σ5 =>
    Bd (hI σ5 236 13 0) fun σ6 =>
    Bd (hI σ6 236 15 0) fun σ7 =>
    Bd (hI σ7 236 19 ((1 : Int32) - (σ7.1 236 18))) fun σ8 =>
    Bd (hI σ8 236 20 0) fun σ9 =>
    Cv (f_X12_plain (σ9.1 236 19) σ9) fun σ10 =>
    Bd (hI σ10 236 33 ((130 : Int32) * (σ10.1 236 19))) fun σ12 =>
    Bd (hI σ12 236 39 ((420 : Int32) * (σ12.1 236 19))) fun σ13 =>
    f_X12_read_112 5000 σ13
theorem mr_copy {m : Nat} {Q : Int32 → HS → Prop} (hm : m ≤ 2000) (e4 : σ.1 236 4 = nI m) (cont : ∀ s2, frm (fun a _ => a == 238) wl0 σ s2 → (∀ i, i < m → s2.1 238 i = vp_nar .byte (σ.1 237 i)) → Ok (rdT s2) Q) : ∀ (d k N : Nat) (s : HS), k + d = m → d < N → frm (fun a _ => a == 238) wl0 σ s → (∀ i, i < k → s.1 238 i = vp_nar .byte (σ.1 237 i)) → Ok (f_X12_read_10 N (nI k) s) Q := by
  intro d
  induction d with
  | zero =>
    intro k N s hk hN hf hz
    obtain ⟨N, rfl⟩ : ∃ q, N = q + 1 := ⟨N - 1, by omega⟩
    show Ok (b_X12_read_10 (f_X12_read_10 N) (nI k) s) _
    unfold b_X12_read_10
    rw [hf.1 236 4 rfl, e4, nIt (by omega), nIt (by omega)]
    exact Ok.f (by omega) (cont s hf (fun i hi => hz i (by omega)))
  | succ d ih =>
    intro k N s hk hN hf hz
    obtain ⟨N, rfl⟩ : ∃ q, N = q + 1 := ⟨N - 1, by omega⟩
    show Ok (b_X12_read_10 (f_X12_read_10 N) (nI k) s) _
    unfold b_X12_read_10
    rw [hf.1 236 4 rfl, e4, nIt (n := k) (by omega), nIt (n := m) (by omega), Int.toNat_natCast]
    refine Ok.t (by omega) (Ok.t (by omega) (Ok.t (by omega) (Ok.bd (Ok.bd ?_))))
    rw [nI_1, hf.1 237 k rfl]
    refine ih (k + 1) N _ (by omega) (by omega) (hf.I rfl) (fun i hi => ?_)
    by_cases c : i = k
    · rw [c, rI_s]
    · rw [rI_k c]; exact hz i (by omega)
theorem TKA.same {b : Nat → Int32} {n : Nat} {s : HS} (h : TKA b n σ) (e : ∀ a k, 239 ≤ a → a ≤ 241 → s.1 a k = σ.1 a k) (e2 : s.2.1 242 = σ.2.1 242) : TKA b n s := fun q h4 hp => by
  rw [e 239 q (by omega) (by omega), e 240 q (by omega) (by omega), e 241 q (by omega) (by omega), e2]
  exact h q h4 hp
theorem mr_tail {m : Nat} (hsd : sd ≤ 1) (hm : m ≤ 2000) (e4 : σ.1 236 4 = nI m) (hlv : σ.1 236 18 = nI (1 - sd)) (hK : KEY σ) : Ok (rdT σ) (fun r s => s.1 236 2 = 0 ∧ frm (wRM sd) wlRM σ s ∧ (r.toInt ≠ 0 → frm (wRMr sd) wlRM σ s) ∧ ∃ σb, RDm sd σb (readS (kdT (bM σ) m) (vlT (bM σ) m) (plI (bM σ) m) (nmT (bM σ) m)) r s) := by
  unfold rdT
  refine Ok.bd ?_
  generalize hs1 : hI σ 236 2 0 = s1
  have c1 : CM s1 := by
    unfold CM
    rw [← hs1, rI_k (by decide), e4, nIt (by omega)]; omega
  have k1 : KEY s1 := by rw [← hs1]; exact hK
  refine Ok.cv (w_X12_cut c1 k1) (fun s2 h2 => ?_)
  obtain ⟨on2, hT2⟩ := h2
  have eb : bM s1 = bM σ := by rw [← hs1]; exact funext fun i => by unfold bM; rw [rI_i (by decide)]
  have en : nM s1 = m := by unfold nM; rw [← hs1, rI_k (by decide), e4, nIt (by omega), Int.toNat_natCast]
  rw [eb, en] at hT2
  have F2 := onm_frm on2
  have q2 : ∀ k, k ≠ 10 → k ≠ 2 → s2.1 236 k = σ.1 236 k := fun k h1 h2 => by
    rw [F2.1 236 k (by unfold wr; rw [if_pos rfl]; simp [LC]; omega), ← hs1, rI_k h2]
  refine Ok.bd (Ok.bd (Ok.bd (Ok.bd ?_)))
  rw [rI_k (show (18 : Nat) ≠ 15 by decide), rI_k (show (18 : Nat) ≠ 13 by decide), rI_k (show (18 : Nat) ≠ 12 by decide), rI_k (show (18 : Nat) ≠ 11 by decide), q2 18 (by decide) (by decide), hlv, show (1 : Int32) - nI (1 - sd) = nI sd from (nI_sub (a := 1 - sd) (b := 1) (by omega) (by omega)).trans (congrArg nI (by omega))]
  refine Ok.bd (Ok.bd ?_)
  generalize hs9 : hI (hI (hI (hI (hI (hI s2 236 11 0) 236 12 0) 236 13 0) 236 15 0) 236 19 (nI sd)) 236 20 0 = s9
  have F9 : frm (fun a k => a == 236 && (k == 11 || k == 12 || k == 13 || k == 15 || k == 19 || k == 20)) wl0 s2 s9 := by
    rw [← hs9]
    exact (((((frm.rf.I rfl).I rfl).I rfl).I rfl).I rfl).I rfl
  have e11 : s9.1 236 11 = 0 := by rw [← hs9, rI_k (by decide), rI_k (by decide), rI_k (by decide), rI_k (by decide), rI_k (by decide), rI_s]
  have e12 : s9.1 236 12 = 0 := by rw [← hs9, rI_k (by decide), rI_k (by decide), rI_k (by decide), rI_k (by decide), rI_s]
  have e13 : s9.1 236 13 = 0 := by rw [← hs9, rI_k (by decide), rI_k (by decide), rI_k (by decide), rI_s]
  have e15 : s9.1 236 15 = 0 := by rw [← hs9, rI_k (by decide), rI_k (by decide), rI_s]
  have e19 : s9.1 236 19 = nI sd := by rw [← hs9, rI_k (by decide), rI_s]
  have e20 : s9.1 236 20 = 0 := by rw [← hs9, rI_s]
  rw [e19]
  refine Ok.cv (mr_plain (σ := s9) hsd) (fun s10 h10 => ?_)
  obtain ⟨F10, g10, p245, p249, p252, p253, p254⟩ := h10
  refine Ok.bd ?_
  rw [g10 19, e19, z130 sd (by omega)]
  refine Ok.bd ?_
  rw [rI_k (show (19 : Nat) ≠ 33 by decide), g10 19, e19, z420 sd (by omega)]
  generalize hs13 : hI (hI s10 236 33 (nI (130 * sd))) 236 39 (nI (420 * sd)) = s13
  have F13 : frm (wPm sd) wl0 s10 s13 := by rw [← hs13]; exact (frm.rf.I (by unfold wPm; simp)).I (by unfold wPm; simp)
  have o13 : ∀ a k, a ≠ 236 → s13.1 a k = s10.1 a k := fun a k ha => by rw [← hs13, rI_i ha, rI_i ha]
  have q13 : ∀ k, k ≠ 33 → k ≠ 39 → s13.1 236 k = s9.1 236 k := fun k h1 h2 => by rw [← hs13, rI_k h2, rI_k h1, g10 k]
  have hT13 : TKA (bM σ) m s13 := hT2.same (fun a k h1 h2 => by
    rw [o13 a k (by omega), F10.1 a k (by unfold wPm; simp; omega), F9.1 a k (by simp; omega)]) (by
    rw [F13.2.1 242 rfl, F10.2.1 242 rfl, F9.2.1 242 rfl])
  have T0 : TMs (bM σ) m sd s13 (0, (0, fun _ => 0), (0, -1), dat0) s13 := by
    refine ⟨⟨frm.rf, by show (0 : Nat) ≤ 400; omega, fun p hp => absurd hp (by show ¬ p < 0; omega), ?_, ?_⟩, ⟨?_, by show (0 : Nat) ≤ 12; omega, fun i hi => absurd hi (by show ¬ i < 0; omega)⟩, ⟨?_, fun h => absurd rfl h⟩, rfl, ⟨?_, by show (0 : Nat) ≤ 7; omega, fun e he => absurd he (by show ¬ e < 0; omega)⟩, ⟨?_, by show (0 : Nat) ≤ 5; omega, fun e he => absurd he (by show ¬ e < 0; omega)⟩, ⟨?_, ?_⟩, ⟨130 * sd, 420 * sd, ?_, Nat.le_refl _, by show 4 * (130 * sd) ≤ 520 * sd + 0; omega, ?_, Nat.le_refl _, by show 420 * sd ≤ 420 * sd + 0; omega, fun k hk => ⟨?_, ?_⟩⟩, ?_, ?_⟩
    · rw [q13 11 (by decide) (by decide), e11]; rfl
    · rw [q13 13 (by decide) (by decide), e13]; rfl
    · rw [q13 20 (by decide) (by decide), e20]; rfl
    · rw [q13 15 (by decide) (by decide), e15]; rfl
    · rw [o13 _ _ (by decide), p245]; rfl
    · rw [o13 _ _ (by decide), p249]; rfl
    · rw [o13 _ _ (by decide), p252]; rfl
    · rw [o13 _ _ (by decide), p253]; rfl
    · rw [← hs13, rI_k (by decide), rI_s]
    · rw [← hs13, rI_s]
    · rw [o13 _ _ (by decide)]; exact (p254 k hk).1
    · rw [o13 _ _ (by decide)]; exact (p254 k hk).2
    · rw [q13 12 (by decide) (by decide), e12]
    · rw [q13 19 (by decide) (by decide), e19]
  have base : frm (wRMr sd) wlRM σ s13 := by
    refine (((frm.tr (?_ : frm (wRMr sd) wlRM σ s1) (F2.mono (fun a k e => (wRMr_x e).2.2.1) (fun a e => ?_))).tr (F9.mono (fun a k e => ?_) (fun _ _ => rfl))).tr (F10.mono (fun a k e => (wRMr_x e).2.1) (fun _ _ => rfl))).tr (F13.mono (fun a k e => (wRMr_x e).2.1) (fun _ _ => rfl))
    · rw [← hs1]; exact frm.rf.I (by unfold wRMr; simp)
    · unfold wlRM at e
      simp only [Bool.or_eq_false_iff] at e
      exact e.2
    · have h1 := (wRMr_x e).2.1
      have h2 := (wRMr_x e).2.2.2.2
      unfold wPm at h1
      simp only [Bool.or_eq_false_iff] at h1
      have h1 := h1.1.1.1.1.1.1.1.1
      cases c : (a == 236) with
      | false => rfl
      | true =>
        rw [c] at h1
        have ca : a = 236 := by simpa using c
        simp at h1 ⊢
        omega
  refine (mr_top hT13 hsd 402 5000 _ s13 (by show 401 - 0 < 402; omega) (by omega) (by show (0 : Int) ≤ 0; omega) T0).mono (fun r s hr => ?_)
  have z2 : s13.1 236 2 = 0 := by
    rw [q13 2 (by decide) (by decide), F9.1 236 2 rfl, F2.1 236 2 rfl, ← hs1, rI_s]
  have hr4 := hr
  obtain ⟨r1, r2, r3, r4⟩ := hr
  by_cases c : r.toInt = 0
  · have f := (r4 c).1
    refine ⟨?_, (base.mono (fun _ _ => wRM_r) (fun _ e => e)).tr (f.mono (fun _ _ => wRM_1) (fun a e => ?_)), fun h => absurd c h, s13, hr4⟩
    · rw [f.1 236 2 (by unfold wRd1 wPm; simp)]; exact z2
    · unfold wlRM at e
      simp only [Bool.or_eq_false_iff] at e
      exact e.1
  · have f := r3 c
    have ff : frm (wRMr sd) wlRM σ s := base.tr (f.mono (fun _ _ e => (wRMr_x e).1) (fun a e => by
      unfold wlRM at e
      simp only [Bool.or_eq_false_iff] at e
      exact e.1))
    refine ⟨?_, ff.mono (fun _ _ => wRM_r) (fun _ e => e), fun _ => ff, s13, hr4⟩
    rw [f.1 236 2 (by unfold wRd0 wPm; simp)]; exact z2
/-- the reference's read, wholly -/
theorem mr_read (hsd : sd ≤ 1) (hlv : σ.1 236 18 = nI (1 - sd)) (h2 : 0 ≤ (σ.1 236 2).toInt ∧ (σ.1 236 2).toInt ≤ 2000) (hK : KEY σ) : Ok (f_X12_read σ) (fun r s => s.1 236 2 = 0 ∧ frm (wRM sd) wlRM σ s ∧ (r.toInt ≠ 0 → frm (wRMr sd) wlRM σ s) ∧ ∃ σb, RDm sd σb (readS (kdT (bT σ) (nT2 σ)) (vlT (bT σ) (nT2 σ)) (plI (bT σ) (nT2 σ)) (nmT (bT σ) (nT2 σ))) r s) := by
  obtain ⟨m, hm, hm2⟩ : ∃ m : Nat, σ.1 236 2 = nI m ∧ m ≤ 2000 := ⟨(σ.1 236 2).toInt.toNat, Int32.toInt_inj.mp (by rw [nIt (by omega)]; omega), by omega⟩
  have en : nT2 σ = m := by unfold nT2; rw [hm, nIt (by omega), Int.toNat_natCast]
  rw [en]
  unfold f_X12_read
  refine Ok.bd ?_
  rw [hm, nI0]
  generalize hs0 : hI σ 236 4 (nI m) = s0
  have f0 : frm (wRMr sd) wlRM σ s0 := by rw [← hs0]; exact frm.rf.I (by unfold wRMr; simp)
  refine mr_copy (σ := s0) (m := m) hm2 (by rw [← hs0, rI_s]) (fun s2 hf hz => ?_) m 0 5000 s0 (by omega) (by omega) frm.rf (fun i hi => absurd hi (by omega))
  have q2 : ∀ k, k ≠ 4 → s2.1 236 k = σ.1 236 k := fun k hk => by rw [hf.1 236 k rfl, ← hs0, rI_k hk]
  refine (mr_tail (m := m) hsd hm2 (by rw [hf.1 236 4 rfl, ← hs0, rI_s]) (by rw [q2 18 (by decide)]; exact hlv) (fun k hk => by rw [hf.2.1 243 rfl, ← hs0]; exact hK k hk)).mono (fun r s h => ?_)
  obtain ⟨a1, a2, a3, σb, a4⟩ := h
  have f2 : frm (wRMr sd) wlRM σ s2 := f0.tr (hf.mono (fun a k e => by simpa using (wRMr_x e).2.2.2.1) (fun _ _ => rfl))
  have ec := readS_cg (b := bM s2) (b' := bT σ) (n := m) (fun i hi => by
    unfold bM bT
    rw [hz i hi, ← hs0, rI_i (by decide)])
  rw [ec] at a4
  exact ⟨a1, (f2.mono (fun _ _ => wRM_r) (fun _ e => e)).tr a2, fun h => f2.tr (a3 h), σb, a4⟩
end MHD
set_option maxHeartbeats 4000000 in
set_option maxRecDepth 100000 in
theorem Z_J7_fill_53178 {l : Launch} {D : va_G} {ids : List Nat} {ad : Nat → Nat} {ca : Nat → ClassId} {σ : HS} {p1 : Nat} {x2 : Int32} {s0 : HS} (hid : ∀ i, i < 277 → i ∈ ids) (hp1 : rowOK p1) (h : f_J7_fill_53178 p1 x2 σ = some s0) : Kv l D ids ad ca yJ7_fill_53178 cJ7_fill_53178 4 0 0 [.ref (ad p1), .int x2] σ (fun σ1 => σ1 = s0) := by
  obtain ⟨R, hR⟩ : ∃ R, s0 = R := ⟨_, rfl⟩
  replace h := h.trans (congrArg some hR)
  refine Kv.ofF (by decide +kernel) (Nat.le_of_ble_eq_true rfl) 2 (fun Γ C Rt => ?_)
  show AW ids ad ca Γ 0 [some (.ref (ad p1)), some (.int x2), none, none] [] σ
  unfold f_J7_fill_53178 at h
  have j5 : ∀ (n : Nat) (y1 : Int32) (y2 : Int32) (y3 : Int32) (σ : HS), f_J7_fill_53178_5 p1 n y1 y2 y3 σ = some R → AW ids ad ca Γ 5 [some (.ref (ad p1)), some (.int y1), some (.int y2), some (.int y3)] [] σ := by
    intro n
    induction n with
    | zero => intro y1 y2 y3 σ h; exact nn h
    | succ n ih =>
      intro y1 y2 y3 σ h
      have h : b_J7_fill_53178_5 p1 (f_J7_fill_53178_5 p1 n) y1 y2 y3 σ = some R := h
      unfold b_J7_fill_53178_5 at h
      refine a_iload_n C dJ7_fill_53178_5 (i := 2) rfl rfl ?_
      refine a_iload_n C dJ7_fill_53178_6 (i := 3) rfl rfl ?_
      refine p_ic_ge C (X := y2.toInt) (Y := y3.toInt) rfl rfl dJ7_fill_53178_7 (tgt := 20) rfl h (fun h => ?_) (fun h => ?_)
      ·
        exact a_vret Rt dJ7_fill_53178_20 (retv_eq (h.trans (congrArg some hR.symm)))
      ·
        refine a_aload_n C dJ7_fill_53178_10 (i := 0) rfl rfl ?_
        refine a_iload_n C dJ7_fill_53178_11 (i := 2) rfl rfl ?_
        refine a_iload_n C dJ7_fill_53178_12 (i := 1) rfl rfl ?_
        refine p_iast C (i := p1) hp1 hid rfl dJ7_fill_53178_13 h (fun σ1 h => ?_)
        refine p_iinc C (y := (y2 + 1)) (fun z2 => [some (.ref (ad p1)), some (.int y1), some (.int z2), some (.int y3)]) dJ7_fill_53178_14 rfl rfl (by decide) rfl (fun _ => rfl) h (fun z2 h => ?_)
        refine a_goto C dJ7_fill_53178_17 (tgt := 5) rfl ?_
        exact ih _ _ _ _ h
  refine a_iconst C dJ7_fill_53178_0 (v := 0) rfl ?_
  refine a_istore_n C dJ7_fill_53178_1 (i := 2) rfl (by decide) rfl (vs1 := [some (.ref (ad p1)), some (.int x2), some (.int 0), none]) rfl ?_
  refine a_aload_n C dJ7_fill_53178_2 (i := 0) rfl rfl ?_
  refine a_alen C (by rw [hp1.1]; decide) (hid _ hp1.2) rfl dJ7_fill_53178_3 ?_
  refine p_istore_n C (fun z1 => [some (.ref (ad p1)), some (.int x2), some (.int 0), some (.int z1)]) dJ7_fill_53178_4 (i := 3) rfl (by decide) rfl (fun _ => rfl) h (fun z1 h => ?_)
  exact j5 _ _ _ _ _ h
set_option maxHeartbeats 4000000 in
set_option maxRecDepth 100000 in
theorem Z_X0_begin {l : Launch} {D : va_G} {ids : List Nat} {ad : Nat → Nat} {ca : Nat → ClassId} {σ : HS} {a : Nat} {p1 : Nat} {s0 : HS} (hid : ∀ i, i < 277 → i ∈ ids) (ha : airOK a) (hp1 : txtOK p1) (h : f_X0_begin a p1 σ = some s0) : Kv l D ids ad ca yX0_begin cX0_begin 2 1 60 [.ref (ad a), .ref (ad p1)] σ (fun σ1 => σ1 = s0) := by
  obtain ⟨R, hR⟩ : ∃ R, s0 = R := ⟨_, rfl⟩
  replace h := h.trans (congrArg some hR)
  refine Kv.of (by decide) (Nat.le_of_ble_eq_true rfl) 0 (fun Γ C Rt => ?_)
  show AW ids ad ca Γ 0 [some (.ref (ad a)), some (.ref (ad p1))] [] σ
  unfold f_X0_begin at h
  have j77 : ∀ (v0 : Int32) (σ : HS), f_X0_begin_77 a p1 v0 σ = some R → AW ids ad ca Γ 77 [some (.ref (ad a)), none] [.int v0, .ref (ad a)] σ := by
    intro v0 σ h
    unfold f_X0_begin_77 at h
    refine p_put C fp_RX0_21 (i := a) ha.1.1 (hid _ ha.1.2) rfl rfl dX0_begin_77 h (fun σ1 h => ?_)
    refine a_aload_n C dX0_begin_80 (i := 0) rfl rfl ?_
    refine a_iconst C dX0_begin_81 (v := 0) rfl ?_
    refine p_put C fp_RX0_67 (i := a) ha.1.1 (hid _ ha.1.2) rfl rfl dX0_begin_82 h (fun σ2 h => ?_)
    refine a_aload_n C dX0_begin_85 (i := 0) rfl rfl ?_
    refine a_iconst C dX0_begin_86 (v := (-1)) rfl ?_
    refine p_put C fp_RX0_25 (i := a) ha.1.1 (hid _ ha.1.2) rfl rfl dX0_begin_87 h (fun σ3 h => ?_)
    exact a_vret Rt dX0_begin_90 (retv_eq (h.trans (congrArg some hR.symm)))
  refine a_aload_n C dX0_begin_0 (i := 0) rfl rfl ?_
  refine a_aload_n C dX0_begin_1 (i := 1) rfl rfl ?_
  refine a_get C fl_RX0_28 (i := p1) hp1.1.1 (hid _ hp1.1.2) (v := .int (σ.1 p1 0)) rfl dX0_begin_2 ?_
  refine p_put C fp_RX0_33 (i := a) ha.1.1 (hid _ ha.1.2) rfl rfl dX0_begin_5 h (fun σ1 h => ?_)
  refine a_aload_n C dX0_begin_8 (i := 0) rfl rfl ?_
  refine a_get C fl_RX0_9 (i := a) ha.1.1 (hid _ ha.1.2) (v := .ref (ad (a + 1))) rfl dX0_begin_9 ?_
  refine a_iconst C dX0_begin_12 (v := 0) rfl ?_
  refine p_callSv C (As := [.ref (ad (a + 1)), .int 0]) h (fun _ e => Z_J7_fill_53178 hid ha.2.1.1 e) ms_J7_fill_53178 ml_RX0_34 rfl rfl (Nat.le_of_ble_eq_true rfl) (Nat.le_of_ble_eq_true rfl) (Nat.le_of_ble_eq_true rfl) dX0_begin_13 (fun σ2 h => ?_)
  refine a_aload_n C dX0_begin_16 (i := 0) rfl rfl ?_
  refine a_get C fl_RX0_18 (i := a) ha.1.1 (hid _ ha.1.2) (v := .ref (ad (a + 3))) rfl dX0_begin_17 ?_
  refine a_iconst C dX0_begin_20 (v := 0) rfl ?_
  refine p_callSv C (As := [.ref (ad (a + 3)), .int 0]) h (fun _ e => Z_J7_fill_53178 hid ha.2.2.2.1 e) ms_J7_fill_53178 ml_RX0_34 rfl rfl (Nat.le_of_ble_eq_true rfl) (Nat.le_of_ble_eq_true rfl) (Nat.le_of_ble_eq_true rfl) dX0_begin_21 (fun σ4 h => ?_)
  refine a_aload_n C dX0_begin_24 (i := 1) rfl rfl ?_
  refine a_get C fl_RX0_40 (i := p1) hp1.1.1 (hid _ hp1.1.2) (v := .ref (ad (p1 + 3))) rfl dX0_begin_25 ?_
  refine a_iconst C dX0_begin_28 (v := 0) rfl ?_
  refine a_aload_n C dX0_begin_29 (i := 0) rfl rfl ?_
  refine a_get C fl_RX0_15 (i := a) ha.1.1 (hid _ ha.1.2) (v := .ref (ad (a + 2))) rfl dX0_begin_30 ?_
  refine a_iconst C dX0_begin_33 (v := 0) rfl ?_
  refine a_bipush C dX0_begin_34 (v := 7) rfl ?_
  refine p_copyi C (i0 := (p1 + 3)) (i1 := (a + 2)) (SP := 0) (DP := 0) (Z := 7) ml_RX0_43 ac_w.1 ac_w.2.1 ac_w.2.2 hp1.2.2.2.1.1 ha.2.2.1.1 hid (by rw [hp1.2.2.2.1.2]; rfl) (by rw [ha.2.2.1.2]; rfl) (by decide) (by decide) (by decide) (Nat.le_of_ble_eq_true rfl) (Nat.le_of_ble_eq_true rfl) dX0_begin_36 h (fun σ6 h => ?_)
  refine a_aload_n C dX0_begin_39 (i := 0) rfl rfl ?_
  refine a_iconst C dX0_begin_40 (v := 0) rfl ?_
  refine p_put C fp_RX0_49 (i := a) ha.1.1 (hid _ ha.1.2) rfl rfl dX0_begin_41 h (fun σ7 h => ?_)
  refine a_aload_n C dX0_begin_44 (i := 0) rfl rfl ?_
  refine a_iconst C dX0_begin_45 (v := 0) rfl ?_
  refine p_put C fp_RX0_52 (i := a) ha.1.1 (hid _ ha.1.2) rfl rfl dX0_begin_46 h (fun σ8 h => ?_)
  refine a_aload_n C dX0_begin_49 (i := 0) rfl rfl ?_
  refine a_iconst C dX0_begin_50 (v := 0) rfl ?_
  refine p_put C fp_RX0_55 (i := a) ha.1.1 (hid _ ha.1.2) rfl rfl dX0_begin_51 h (fun σ9 h => ?_)
  refine a_aload_n C dX0_begin_54 (i := 0) rfl rfl ?_
  refine a_iconst C dX0_begin_55 (v := 0) rfl ?_
  refine p_put C fp_RX0_58 (i := a) ha.1.1 (hid _ ha.1.2) rfl rfl dX0_begin_56 h (fun σ10 h => ?_)
  refine a_aload_n C dX0_begin_59 (i := 0) rfl rfl ?_
  refine a_iconst C dX0_begin_60 (v := 0) rfl ?_
  refine p_put C fp_RX0_61 (i := a) ha.1.1 (hid _ ha.1.2) rfl rfl dX0_begin_61 h (fun σ11 h => ?_)
  refine a_aload_n C dX0_begin_64 (i := 0) rfl rfl ?_
  refine a_aload_n C dX0_begin_65 (i := 1) rfl rfl ?_
  refine a_get C fl_RX0_64 (i := p1) hp1.1.1 (hid _ hp1.1.2) (v := .int (σ11.1 p1 4)) rfl dX0_begin_66 ?_
  refine p_if_le C (X := (σ11.1 p1 4).toInt) rfl dX0_begin_69 (tgt := 76) rfl h (fun h => ?_) (fun h => ?_)
  ·
    refine a_iconst C dX0_begin_76 (v := (-1)) rfl ?_
    refine AW.sub (vs' := [some (.ref (ad a)), none]) (lsub_of (by simp [lsubB])) ?_
    exact j77 _ _ h
  ·
    refine a_iconst C dX0_begin_72 (v := 0) rfl ?_
    refine a_goto C dX0_begin_73 (tgt := 77) rfl ?_
    refine AW.sub (vs' := [some (.ref (ad a)), none]) (lsub_of (by simp [lsubB])) ?_
    exact j77 _ _ h
set_option maxHeartbeats 4000000 in
set_option maxRecDepth 100000 in
theorem Z_X0_copy {l : Launch} {D : va_G} {ids : List Nat} {ad : Nat → Nat} {ca : Nat → ClassId} {σ : HS} {a : Nat} {p1 : Nat} {s0 : HS} (hid : ∀ i, i < 277 → i ∈ ids) (ha : airOK a) (hp1 : airOK p1) (h : f_X0_copy a p1 σ = some s0) : Kv l D ids ad ca yX0_copy cX0_copy 2 1 60 [.ref (ad a), .ref (ad p1)] σ (fun σ1 => σ1 = s0) := by
  obtain ⟨R, hR⟩ : ∃ R, s0 = R := ⟨_, rfl⟩
  replace h := h.trans (congrArg some hR)
  refine Kv.of (by decide) (Nat.le_of_ble_eq_true rfl) 0 (fun Γ C Rt => ?_)
  show AW ids ad ca Γ 0 [some (.ref (ad a)), some (.ref (ad p1))] [] σ
  unfold f_X0_copy at h
  refine a_aload_n C dX0_copy_0 (i := 0) rfl rfl ?_
  refine a_aload_n C dX0_copy_1 (i := 1) rfl rfl ?_
  refine a_get C fl_RX0_33 (i := p1) hp1.1.1 (hid _ hp1.1.2) (v := .int (σ.1 p1 0)) rfl dX0_copy_2 ?_
  refine p_put C fp_RX0_33 (i := a) ha.1.1 (hid _ ha.1.2) rfl rfl dX0_copy_5 h (fun σ1 h => ?_)
  refine a_aload_n C dX0_copy_8 (i := 1) rfl rfl ?_
  refine a_get C fl_RX0_9 (i := p1) hp1.1.1 (hid _ hp1.1.2) (v := .ref (ad (p1 + 1))) rfl dX0_copy_9 ?_
  refine a_iconst C dX0_copy_12 (v := 0) rfl ?_
  refine a_aload_n C dX0_copy_13 (i := 0) rfl rfl ?_
  refine a_get C fl_RX0_9 (i := a) ha.1.1 (hid _ ha.1.2) (v := .ref (ad (a + 1))) rfl dX0_copy_14 ?_
  refine a_iconst C dX0_copy_17 (v := 0) rfl ?_
  refine a_bipush C dX0_copy_18 (v := 7) rfl ?_
  refine p_copyi C (i0 := (p1 + 1)) (i1 := (a + 1)) (SP := 0) (DP := 0) (Z := 7) ml_RX0_43 ac_w.1 ac_w.2.1 ac_w.2.2 hp1.2.1.1 ha.2.1.1 hid (by rw [hp1.2.1.2]; rfl) (by rw [ha.2.1.2]; rfl) (by decide) (by decide) (by decide) (Nat.le_of_ble_eq_true rfl) (Nat.le_of_ble_eq_true rfl) dX0_copy_20 h (fun σ2 h => ?_)
  refine a_aload_n C dX0_copy_23 (i := 1) rfl rfl ?_
  refine a_get C fl_RX0_15 (i := p1) hp1.1.1 (hid _ hp1.1.2) (v := .ref (ad (p1 + 2))) rfl dX0_copy_24 ?_
  refine a_iconst C dX0_copy_27 (v := 0) rfl ?_
  refine a_aload_n C dX0_copy_28 (i := 0) rfl rfl ?_
  refine a_get C fl_RX0_15 (i := a) ha.1.1 (hid _ ha.1.2) (v := .ref (ad (a + 2))) rfl dX0_copy_29 ?_
  refine a_iconst C dX0_copy_32 (v := 0) rfl ?_
  refine a_bipush C dX0_copy_33 (v := 7) rfl ?_
  refine p_copyi C (i0 := (p1 + 2)) (i1 := (a + 2)) (SP := 0) (DP := 0) (Z := 7) ml_RX0_43 ac_w.1 ac_w.2.1 ac_w.2.2 hp1.2.2.1.1 ha.2.2.1.1 hid (by rw [hp1.2.2.1.2]; rfl) (by rw [ha.2.2.1.2]; rfl) (by decide) (by decide) (by decide) (Nat.le_of_ble_eq_true rfl) (Nat.le_of_ble_eq_true rfl) dX0_copy_35 h (fun σ3 h => ?_)
  refine a_aload_n C dX0_copy_38 (i := 1) rfl rfl ?_
  refine a_get C fl_RX0_18 (i := p1) hp1.1.1 (hid _ hp1.1.2) (v := .ref (ad (p1 + 3))) rfl dX0_copy_39 ?_
  refine a_iconst C dX0_copy_42 (v := 0) rfl ?_
  refine a_aload_n C dX0_copy_43 (i := 0) rfl rfl ?_
  refine a_get C fl_RX0_18 (i := a) ha.1.1 (hid _ ha.1.2) (v := .ref (ad (a + 3))) rfl dX0_copy_44 ?_
  refine a_iconst C dX0_copy_47 (v := 0) rfl ?_
  refine a_bipush C dX0_copy_48 (v := 7) rfl ?_
  refine p_copyi C (i0 := (p1 + 3)) (i1 := (a + 3)) (SP := 0) (DP := 0) (Z := 7) ml_RX0_43 ac_w.1 ac_w.2.1 ac_w.2.2 hp1.2.2.2.1 ha.2.2.2.1 hid (by rw [hp1.2.2.2.2]; rfl) (by rw [ha.2.2.2.2]; rfl) (by decide) (by decide) (by decide) (Nat.le_of_ble_eq_true rfl) (Nat.le_of_ble_eq_true rfl) dX0_copy_50 h (fun σ4 h => ?_)
  refine a_aload_n C dX0_copy_53 (i := 0) rfl rfl ?_
  refine a_aload_n C dX0_copy_54 (i := 1) rfl rfl ?_
  refine a_get C fl_RX0_49 (i := p1) hp1.1.1 (hid _ hp1.1.2) (v := .int (σ4.1 p1 4)) rfl dX0_copy_55 ?_
  refine p_put C fp_RX0_49 (i := a) ha.1.1 (hid _ ha.1.2) rfl rfl dX0_copy_58 h (fun σ5 h => ?_)
  refine a_aload_n C dX0_copy_61 (i := 0) rfl rfl ?_
  refine a_aload_n C dX0_copy_62 (i := 1) rfl rfl ?_
  refine a_get C fl_RX0_52 (i := p1) hp1.1.1 (hid _ hp1.1.2) (v := .int (σ5.1 p1 5)) rfl dX0_copy_63 ?_
  refine p_put C fp_RX0_52 (i := a) ha.1.1 (hid _ ha.1.2) rfl rfl dX0_copy_66 h (fun σ6 h => ?_)
  refine a_aload_n C dX0_copy_69 (i := 0) rfl rfl ?_
  refine a_aload_n C dX0_copy_70 (i := 1) rfl rfl ?_
  refine a_get C fl_RX0_55 (i := p1) hp1.1.1 (hid _ hp1.1.2) (v := .int (σ6.1 p1 6)) rfl dX0_copy_71 ?_
  refine p_put C fp_RX0_55 (i := a) ha.1.1 (hid _ ha.1.2) rfl rfl dX0_copy_74 h (fun σ7 h => ?_)
  refine a_aload_n C dX0_copy_77 (i := 0) rfl rfl ?_
  refine a_aload_n C dX0_copy_78 (i := 1) rfl rfl ?_
  refine a_get C fl_RX0_58 (i := p1) hp1.1.1 (hid _ hp1.1.2) (v := .int (σ7.1 p1 7)) rfl dX0_copy_79 ?_
  refine p_put C fp_RX0_58 (i := a) ha.1.1 (hid _ ha.1.2) rfl rfl dX0_copy_82 h (fun σ8 h => ?_)
  refine a_aload_n C dX0_copy_85 (i := 0) rfl rfl ?_
  refine a_aload_n C dX0_copy_86 (i := 1) rfl rfl ?_
  refine a_get C fl_RX0_61 (i := p1) hp1.1.1 (hid _ hp1.1.2) (v := .int (σ8.1 p1 8)) rfl dX0_copy_87 ?_
  refine p_put C fp_RX0_61 (i := a) ha.1.1 (hid _ ha.1.2) rfl rfl dX0_copy_90 h (fun σ9 h => ?_)
  refine a_aload_n C dX0_copy_93 (i := 0) rfl rfl ?_
  refine a_aload_n C dX0_copy_94 (i := 1) rfl rfl ?_
  refine a_get C fl_RX0_21 (i := p1) hp1.1.1 (hid _ hp1.1.2) (v := .int (σ9.1 p1 9)) rfl dX0_copy_95 ?_
  refine p_put C fp_RX0_21 (i := a) ha.1.1 (hid _ ha.1.2) rfl rfl dX0_copy_98 h (fun σ10 h => ?_)
  refine a_aload_n C dX0_copy_101 (i := 0) rfl rfl ?_
  refine a_aload_n C dX0_copy_102 (i := 1) rfl rfl ?_
  refine a_get C fl_RX0_67 (i := p1) hp1.1.1 (hid _ hp1.1.2) (v := .int (σ10.1 p1 10)) rfl dX0_copy_103 ?_
  refine p_put C fp_RX0_67 (i := a) ha.1.1 (hid _ ha.1.2) rfl rfl dX0_copy_106 h (fun σ11 h => ?_)
  refine a_aload_n C dX0_copy_109 (i := 0) rfl rfl ?_
  refine a_aload_n C dX0_copy_110 (i := 1) rfl rfl ?_
  refine a_get C fl_RX0_25 (i := p1) hp1.1.1 (hid _ hp1.1.2) (v := .int (σ11.1 p1 11)) rfl dX0_copy_111 ?_
  refine p_put C fp_RX0_25 (i := a) ha.1.1 (hid _ ha.1.2) rfl rfl dX0_copy_114 h (fun σ12 h => ?_)
  exact a_vret Rt dX0_copy_117 (retv_eq (h.trans (congrArg some hR.symm)))
set_option maxHeartbeats 4000000 in
set_option maxRecDepth 100000 in
theorem Z_X0_isUp {l : Launch} {D : va_G} {ids : List Nat} {ad : Nat → Nat} {ca : Nat → ClassId} {σ : HS} {a : Nat} {x1 : Int32} {r0 : Int32} {s0 : HS} (hid : ∀ i, i < 277 → i ∈ ids) (ha : airOK a) (h : f_X0_isUp a x1 σ = some (r0, s0)) : Ki l D ids ad ca yX0_isUp cX0_isUp 2 .boolean 0 0 [.ref (ad a), .int x1] σ (fun r σ1 => r = r0 ∧ σ1 = s0) := by
  obtain ⟨R, hR⟩ : ∃ R, (r0, s0) = R := ⟨_, rfl⟩
  replace h := h.trans (congrArg some hR)
  refine Ki.of (by decide) (Nat.le_of_ble_eq_true rfl) 0 (fun Γ C Rt => ?_)
  show AW ids ad ca Γ 0 [some (.ref (ad a)), some (.int x1)] [] σ
  unfold f_X0_isUp at h
  refine a_aload_n C dX0_isUp_0 (i := 0) rfl rfl ?_
  refine a_get C fl_RX0_9 (i := a) ha.1.1 (hid _ ha.1.2) (v := .ref (ad (a + 1))) rfl dX0_isUp_1 ?_
  refine a_iload_n C dX0_isUp_4 (i := 1) rfl rfl ?_
  refine p_iald C (i := (a + 1)) ha.2.1.1 hid (by rw [ha.2.1.2]; rfl) dX0_isUp_5 h (fun h => ?_)
  refine p_if_ne C (X := (σ.1 (a + 1) x1.toInt.toNat).toInt) rfl dX0_isUp_6 (tgt := 13) rfl h (fun h => ?_) (fun h => ?_)
  ·
    refine a_iconst C dX0_isUp_13 (v := 0) rfl ?_
    exact a_iret Rt dX0_isUp_14 (nar_z (by decide)).1 (ret_eq (h.trans (congrArg some hR.symm)))
  ·
    refine a_iconst C dX0_isUp_9 (v := 1) rfl ?_
    refine a_goto C dX0_isUp_10 (tgt := 14) rfl ?_
    exact a_iret Rt dX0_isUp_14 (nar_z (by decide)).1 (ret_eq (h.trans (congrArg some hR.symm)))
set_option maxHeartbeats 4000000 in
set_option maxRecDepth 100000 in
theorem Z_X0_landsNow {l : Launch} {D : va_G} {ids : List Nat} {ad : Nat → Nat} {ca : Nat → ClassId} {σ : HS} {a : Nat} {x1 : Int32} {r0 : Int32} {s0 : HS} (hid : ∀ i, i < 277 → i ∈ ids) (ha : airOK a) (h : f_X0_landsNow a x1 σ = some (r0, s0)) : Ki l D ids ad ca yX0_landsNow cX0_landsNow 2 .boolean 0 0 [.ref (ad a), .int x1] σ (fun r σ1 => r = r0 ∧ σ1 = s0) := by
  obtain ⟨R, hR⟩ : ∃ R, (r0, s0) = R := ⟨_, rfl⟩
  replace h := h.trans (congrArg some hR)
  refine Ki.of (by decide) (Nat.le_of_ble_eq_true rfl) 0 (fun Γ C Rt => ?_)
  show AW ids ad ca Γ 0 [some (.ref (ad a)), some (.int x1)] [] σ
  unfold f_X0_landsNow at h
  refine a_aload_n C dX0_landsNow_0 (i := 0) rfl rfl ?_
  refine a_get C fl_RX0_9 (i := a) ha.1.1 (hid _ ha.1.2) (v := .ref (ad (a + 1))) rfl dX0_landsNow_1 ?_
  refine a_iload_n C dX0_landsNow_4 (i := 1) rfl rfl ?_
  refine p_iald C (i := (a + 1)) ha.2.1.1 hid (by rw [ha.2.1.2]; rfl) dX0_landsNow_5 h (fun h => ?_)
  refine p_if_ne C (X := (σ.1 (a + 1) x1.toInt.toNat).toInt) rfl dX0_landsNow_6 (tgt := 22) rfl h (fun h => ?_) (fun h => ?_)
  ·
    refine a_iconst C dX0_landsNow_22 (v := 0) rfl ?_
    exact a_iret Rt dX0_landsNow_23 (nar_z (by decide)).1 (ret_eq (h.trans (congrArg some hR.symm)))
  ·
    refine a_aload_n C dX0_landsNow_9 (i := 0) rfl rfl ?_
    refine a_get C fl_RX0_15 (i := a) ha.1.1 (hid _ ha.1.2) (v := .ref (ad (a + 2))) rfl dX0_landsNow_10 ?_
    refine a_iload_n C dX0_landsNow_13 (i := 1) rfl rfl ?_
    refine p_iald C (i := (a + 2)) ha.2.2.1.1 hid (by rw [ha.2.2.1.2]; rfl) dX0_landsNow_14 h (fun h => ?_)
    refine p_if_ne C (X := (σ.1 (a + 2) x1.toInt.toNat).toInt) rfl dX0_landsNow_15 (tgt := 22) rfl h (fun h => ?_) (fun h => ?_)
    ·
      refine a_iconst C dX0_landsNow_22 (v := 0) rfl ?_
      exact a_iret Rt dX0_landsNow_23 (nar_z (by decide)).1 (ret_eq (h.trans (congrArg some hR.symm)))
    ·
      refine a_iconst C dX0_landsNow_18 (v := 1) rfl ?_
      refine a_goto C dX0_landsNow_19 (tgt := 23) rfl ?_
      exact a_iret Rt dX0_landsNow_23 (nar_z (by decide)).1 (ret_eq (h.trans (congrArg some hR.symm)))
set_option maxHeartbeats 4000000 in
set_option maxRecDepth 100000 in
theorem Z_X0_putUp {l : Launch} {D : va_G} {ids : List Nat} {ad : Nat → Nat} {ca : Nat → ClassId} {σ : HS} {a : Nat} {x1 : Int32} {x2 : Int32} {s0 : HS} (hid : ∀ i, i < 277 → i ∈ ids) (ha : airOK a) (h : f_X0_putUp a x1 x2 σ = some s0) : Kv l D ids ad ca yX0_putUp cX0_putUp 3 0 0 [.ref (ad a), .int x1, .int x2] σ (fun σ1 => σ1 = s0) := by
  obtain ⟨R, hR⟩ : ∃ R, s0 = R := ⟨_, rfl⟩
  replace h := h.trans (congrArg some hR)
  refine Kv.of (by decide) (Nat.le_of_ble_eq_true rfl) 0 (fun Γ C Rt => ?_)
  show AW ids ad ca Γ 0 [some (.ref (ad a)), some (.int x1), some (.int x2)] [] σ
  unfold f_X0_putUp at h
  refine a_aload_n C dX0_putUp_0 (i := 0) rfl rfl ?_
  refine a_get C fl_RX0_9 (i := a) ha.1.1 (hid _ ha.1.2) (v := .ref (ad (a + 1))) rfl dX0_putUp_1 ?_
  refine a_iload_n C dX0_putUp_4 (i := 1) rfl rfl ?_
  refine a_iconst C dX0_putUp_5 (v := 0) rfl ?_
  refine p_iast C (i := (a + 1)) ha.2.1.1 hid (by rw [ha.2.1.2]; rfl) dX0_putUp_6 h (fun σ1 h => ?_)
  refine a_aload_n C dX0_putUp_7 (i := 0) rfl rfl ?_
  refine a_get C fl_RX0_15 (i := a) ha.1.1 (hid _ ha.1.2) (v := .ref (ad (a + 2))) rfl dX0_putUp_8 ?_
  refine a_iload_n C dX0_putUp_11 (i := 1) rfl rfl ?_
  refine a_iload_n C dX0_putUp_12 (i := 2) rfl rfl ?_
  refine p_iast C (i := (a + 2)) ha.2.2.1.1 hid (by rw [ha.2.2.1.2]; rfl) dX0_putUp_13 h (fun σ2 h => ?_)
  exact a_vret Rt dX0_putUp_14 (retv_eq (h.trans (congrArg some hR.symm)))
set_option maxHeartbeats 4000000 in
set_option maxRecDepth 100000 in
theorem Z_X0_takeUp {l : Launch} {D : va_G} {ids : List Nat} {ad : Nat → Nat} {ca : Nat → ClassId} {σ : HS} {a : Nat} {x1 : Int32} {s0 : HS} (hid : ∀ i, i < 277 → i ∈ ids) (ha : airOK a) (h : f_X0_takeUp a x1 σ = some s0) : Kv l D ids ad ca yX0_takeUp cX0_takeUp 2 0 0 [.ref (ad a), .int x1] σ (fun σ1 => σ1 = s0) := by
  obtain ⟨R, hR⟩ : ∃ R, s0 = R := ⟨_, rfl⟩
  replace h := h.trans (congrArg some hR)
  refine Kv.of (by decide) (Nat.le_of_ble_eq_true rfl) 0 (fun Γ C Rt => ?_)
  show AW ids ad ca Γ 0 [some (.ref (ad a)), some (.int x1)] [] σ
  unfold f_X0_takeUp at h
  refine a_aload_n C dX0_takeUp_0 (i := 0) rfl rfl ?_
  refine a_iload_n C dX0_takeUp_1 (i := 1) rfl rfl ?_
  refine p_put C fp_RX0_21 (i := a) ha.1.1 (hid _ ha.1.2) rfl rfl dX0_takeUp_2 h (fun σ1 h => ?_)
  refine a_aload_n C dX0_takeUp_5 (i := 0) rfl rfl ?_
  refine a_aload_n C dX0_takeUp_6 (i := 0) rfl rfl ?_
  refine a_get C fl_RX0_49 (i := a) ha.1.1 (hid _ ha.1.2) (v := .int (σ1.1 a 4)) rfl dX0_takeUp_7 ?_
  refine p_put C fp_RX0_67 (i := a) ha.1.1 (hid _ ha.1.2) rfl rfl dX0_takeUp_10 h (fun σ2 h => ?_)
  exact a_vret Rt dX0_takeUp_13 (retv_eq (h.trans (congrArg some hR.symm)))
set_option maxHeartbeats 4000000 in
set_option maxRecDepth 100000 in
theorem Z_X0_drop {l : Launch} {D : va_G} {ids : List Nat} {ad : Nat → Nat} {ca : Nat → ClassId} {σ : HS} {a : Nat} {x1 : Int32} {s0 : HS} (hid : ∀ i, i < 277 → i ∈ ids) (ha : airOK a) (h : f_X0_drop a x1 σ = some s0) : Kv l D ids ad ca yX0_drop cX0_drop 2 0 0 [.ref (ad a), .int x1] σ (fun σ1 => σ1 = s0) := by
  obtain ⟨R, hR⟩ : ∃ R, s0 = R := ⟨_, rfl⟩
  replace h := h.trans (congrArg some hR)
  refine Kv.of (by decide) (Nat.le_of_ble_eq_true rfl) 0 (fun Γ C Rt => ?_)
  show AW ids ad ca Γ 0 [some (.ref (ad a)), some (.int x1)] [] σ
  unfold f_X0_drop at h
  refine a_aload_n C dX0_drop_0 (i := 0) rfl rfl ?_
  refine a_get C fl_RX0_9 (i := a) ha.1.1 (hid _ ha.1.2) (v := .ref (ad (a + 1))) rfl dX0_drop_1 ?_
  refine a_iload_n C dX0_drop_4 (i := 1) rfl rfl ?_
  refine a_iconst C dX0_drop_5 (v := 2) rfl ?_
  refine p_iast C (i := (a + 1)) ha.2.1.1 hid (by rw [ha.2.1.2]; rfl) dX0_drop_6 h (fun σ1 h => ?_)
  refine a_aload_n C dX0_drop_7 (i := 0) rfl rfl ?_
  refine a_dup C dX0_drop_8 rfl ?_
  refine a_get C fl_RX0_55 (i := a) ha.1.1 (hid _ ha.1.2) (v := .int (σ1.1 a 6)) rfl dX0_drop_9 ?_
  refine a_iconst C dX0_drop_12 (v := 1) rfl ?_
  refine a_iadd C dX0_drop_13 ?_
  refine p_put C fp_RX0_55 (i := a) ha.1.1 (hid _ ha.1.2) rfl rfl dX0_drop_14 h (fun σ2 h => ?_)
  exact a_vret Rt dX0_drop_17 (retv_eq (h.trans (congrArg some hR.symm)))
set_option maxHeartbeats 4000000 in
set_option maxRecDepth 100000 in
theorem Z_X0_bitsOf {l : Launch} {D : va_G} {ids : List Nat} {ad : Nat → Nat} {ca : Nat → ClassId} {σ : HS} {a : Nat} {x1 : Int32} {r0 : Int32} {s0 : HS} (hid : ∀ i, i < 277 → i ∈ ids) (ha : airOK a) (h : f_X0_bitsOf a x1 σ = some (r0, s0)) : Ki l D ids ad ca yX0_bitsOf cX0_bitsOf 4 .int 0 0 [.ref (ad a), .int x1] σ (fun r σ1 => r = r0 ∧ σ1 = s0) := by
  obtain ⟨R, hR⟩ : ∃ R, (r0, s0) = R := ⟨_, rfl⟩
  replace h := h.trans (congrArg some hR)
  refine Ki.of (by decide) (Nat.le_of_ble_eq_true rfl) 2 (fun Γ C Rt => ?_)
  show AW ids ad ca Γ 0 [some (.ref (ad a)), some (.int x1), none, none] [] σ
  unfold f_X0_bitsOf at h
  have j28 : ∀ (k4 : Int32 → Int32 → Int32 → HS → Option (Int32 × HS)) (hk4 : ∀ (y1 : Int32) (y2 : Int32) (y3 : Int32) (σ : HS), k4 y1 y2 y3 σ = some R → AW ids ad ca Γ 4 [some (.ref (ad a)), some (.int y1), some (.int y2), some (.int y3)] [] σ) (y1 : Int32) (y2 : Int32) (y3 : Int32) (σ : HS), f_X0_bitsOf_28 a k4 y1 y2 y3 σ = some R → AW ids ad ca Γ 28 [some (.ref (ad a)), some (.int y1), some (.int y2), some (.int y3)] [] σ := by
    intro k4 hk4 y1 y2 y3 σ h
    unfold f_X0_bitsOf_28 at h
    refine p_iinc C (y := (y3 + 1)) (fun z1 => [some (.ref (ad a)), some (.int y1), some (.int y2), some (.int z1)]) dX0_bitsOf_28 rfl rfl (by decide) rfl (fun _ => rfl) h (fun z1 h => ?_)
    refine a_goto C dX0_bitsOf_31 (tgt := 4) rfl ?_
    exact hk4 _ _ _ _ h
  have j4 : ∀ (n : Nat) (y1 : Int32) (y2 : Int32) (y3 : Int32) (σ : HS), f_X0_bitsOf_4 a n y1 y2 y3 σ = some R → AW ids ad ca Γ 4 [some (.ref (ad a)), some (.int y1), some (.int y2), some (.int y3)] [] σ := by
    intro n
    induction n with
    | zero => intro y1 y2 y3 σ h; exact nn h
    | succ n ih =>
      intro y1 y2 y3 σ h
      have h : b_X0_bitsOf_4 a (f_X0_bitsOf_4 a n) y1 y2 y3 σ = some R := h
      unfold b_X0_bitsOf_4 at h
      refine a_iload_n C dX0_bitsOf_4 (i := 3) rfl rfl ?_
      refine a_aload_n C dX0_bitsOf_5 (i := 0) rfl rfl ?_
      refine a_get C fl_RX0_33 (i := a) ha.1.1 (hid _ ha.1.2) (v := .int (σ.1 a 0)) rfl dX0_bitsOf_6 ?_
      refine p_ic_ge C (X := y3.toInt) (Y := (σ.1 a 0).toInt) rfl rfl dX0_bitsOf_9 (tgt := 34) rfl h (fun h => ?_) (fun h => ?_)
      ·
        refine a_iload_n C dX0_bitsOf_34 (i := 2) rfl rfl ?_
        exact a_iret Rt dX0_bitsOf_35 rfl (ret_eq (h.trans (congrArg some hR.symm)))
      ·
        refine a_aload_n C dX0_bitsOf_12 (i := 0) rfl rfl ?_
        refine a_get C fl_RX0_9 (i := a) ha.1.1 (hid _ ha.1.2) (v := .ref (ad (a + 1))) rfl dX0_bitsOf_13 ?_
        refine a_iload_n C dX0_bitsOf_16 (i := 3) rfl rfl ?_
        refine p_iald C (i := (a + 1)) ha.2.1.1 hid (by rw [ha.2.1.2]; rfl) dX0_bitsOf_17 h (fun h => ?_)
        refine a_iload_n C dX0_bitsOf_18 (i := 1) rfl rfl ?_
        refine p_ic_ne C (X := (σ.1 (a + 1) y3.toInt.toNat).toInt) (Y := y1.toInt) rfl rfl dX0_bitsOf_19 (tgt := 28) rfl h (fun h => ?_) (fun h => ?_)
        ·
          exact j28 (f_X0_bitsOf_4 a n) (fun y1 y2 y3 σ h => ih y1 y2 y3 σ h) _ _ _ _ h
        ·
          refine a_iload_n C dX0_bitsOf_22 (i := 2) rfl rfl ?_
          refine a_iconst C dX0_bitsOf_23 (v := 1) rfl ?_
          refine a_iload_n C dX0_bitsOf_24 (i := 3) rfl rfl ?_
          refine a_ishl C dX0_bitsOf_25 ?_
          refine a_ior C dX0_bitsOf_26 ?_
          refine p_istore_n C (fun z1 => [some (.ref (ad a)), some (.int y1), some (.int z1), some (.int y3)]) dX0_bitsOf_27 (i := 2) rfl (by decide) rfl (fun _ => rfl) h (fun z1 h => ?_)
          exact j28 (f_X0_bitsOf_4 a n) (fun y1 y2 y3 σ h => ih y1 y2 y3 σ h) _ _ _ _ h
  refine a_iconst C dX0_bitsOf_0 (v := 0) rfl ?_
  refine a_istore_n C dX0_bitsOf_1 (i := 2) rfl (by decide) rfl (vs1 := [some (.ref (ad a)), some (.int x1), some (.int 0), none]) rfl ?_
  refine a_iconst C dX0_bitsOf_2 (v := 0) rfl ?_
  refine a_istore_n C dX0_bitsOf_3 (i := 3) rfl (by decide) rfl (vs1 := [some (.ref (ad a)), some (.int x1), some (.int 0), some (.int 0)]) rfl ?_
  exact j4 _ _ _ _ _ h
set_option maxHeartbeats 4000000 in
set_option maxRecDepth 100000 in
theorem Z_J6_bitCount_0f7a4 {l : Launch} {D : va_G} {ids : List Nat} {ad : Nat → Nat} {ca : Nat → ClassId} {σ : HS} {x1 : Int32} {r0 : Int32} {s0 : HS} (hid : ∀ i, i < 277 → i ∈ ids) (h : f_J6_bitCount_0f7a4 x1 σ = some (r0, s0)) : Ki l D ids ad ca yJ6_bitCount_0f7a4 cJ6_bitCount_0f7a4 1 .int 0 0 [.int x1] σ (fun r σ1 => r = r0 ∧ σ1 = s0) := by
  obtain ⟨R, hR⟩ : ∃ R, (r0, s0) = R := ⟨_, rfl⟩
  replace h := h.trans (congrArg some hR)
  refine Ki.ofF (by decide +kernel) (Nat.le_of_ble_eq_true rfl) 0 (fun Γ C Rt => ?_)
  show AW ids ad ca Γ 0 [some (.int x1)] [] σ
  unfold f_J6_bitCount_0f7a4 at h
  refine a_iload_n C dJ6_bitCount_0f7a4_0 (i := 0) rfl rfl ?_
  refine a_iload_n C dJ6_bitCount_0f7a4_1 (i := 0) rfl rfl ?_
  refine a_iconst C dJ6_bitCount_0f7a4_2 (v := 1) rfl ?_
  refine a_iushr C dJ6_bitCount_0f7a4_3 ?_
  refine a_ldcw C dJ6_bitCount_0f7a4_4 ko_RJ6_265 ?_
  refine a_iand C dJ6_bitCount_0f7a4_7 ?_
  refine a_isub C dJ6_bitCount_0f7a4_8 ?_
  refine p_istore_n C (fun z1 => [some (.int z1)]) dJ6_bitCount_0f7a4_9 (i := 0) rfl (by decide) rfl (fun _ => rfl) h (fun z1 h => ?_)
  refine a_iload_n C dJ6_bitCount_0f7a4_10 (i := 0) rfl rfl ?_
  refine a_ldcw C dJ6_bitCount_0f7a4_11 ko_RJ6_266 ?_
  refine a_iand C dJ6_bitCount_0f7a4_14 ?_
  refine a_iload_n C dJ6_bitCount_0f7a4_15 (i := 0) rfl rfl ?_
  refine a_iconst C dJ6_bitCount_0f7a4_16 (v := 2) rfl ?_
  refine a_iushr C dJ6_bitCount_0f7a4_17 ?_
  refine a_ldcw C dJ6_bitCount_0f7a4_18 ko_RJ6_266 ?_
  refine a_iand C dJ6_bitCount_0f7a4_21 ?_
  refine a_iadd C dJ6_bitCount_0f7a4_22 ?_
  refine p_istore_n C (fun z2 => [some (.int z2)]) dJ6_bitCount_0f7a4_23 (i := 0) rfl (by decide) rfl (fun _ => rfl) h (fun z2 h => ?_)
  refine a_iload_n C dJ6_bitCount_0f7a4_24 (i := 0) rfl rfl ?_
  refine a_iload_n C dJ6_bitCount_0f7a4_25 (i := 0) rfl rfl ?_
  refine a_iconst C dJ6_bitCount_0f7a4_26 (v := 4) rfl ?_
  refine a_iushr C dJ6_bitCount_0f7a4_27 ?_
  refine a_iadd C dJ6_bitCount_0f7a4_28 ?_
  refine a_ldcw C dJ6_bitCount_0f7a4_29 ko_RJ6_267 ?_
  refine a_iand C dJ6_bitCount_0f7a4_32 ?_
  refine p_istore_n C (fun z3 => [some (.int z3)]) dJ6_bitCount_0f7a4_33 (i := 0) rfl (by decide) rfl (fun _ => rfl) h (fun z3 h => ?_)
  refine a_iload_n C dJ6_bitCount_0f7a4_34 (i := 0) rfl rfl ?_
  refine a_iload_n C dJ6_bitCount_0f7a4_35 (i := 0) rfl rfl ?_
  refine a_bipush C dJ6_bitCount_0f7a4_36 (v := 8) rfl ?_
  refine a_iushr C dJ6_bitCount_0f7a4_38 ?_
  refine a_iadd C dJ6_bitCount_0f7a4_39 ?_
  refine p_istore_n C (fun z4 => [some (.int z4)]) dJ6_bitCount_0f7a4_40 (i := 0) rfl (by decide) rfl (fun _ => rfl) h (fun z4 h => ?_)
  refine a_iload_n C dJ6_bitCount_0f7a4_41 (i := 0) rfl rfl ?_
  refine a_iload_n C dJ6_bitCount_0f7a4_42 (i := 0) rfl rfl ?_
  refine a_bipush C dJ6_bitCount_0f7a4_43 (v := 16) rfl ?_
  refine a_iushr C dJ6_bitCount_0f7a4_45 ?_
  refine a_iadd C dJ6_bitCount_0f7a4_46 ?_
  refine p_istore_n C (fun z5 => [some (.int z5)]) dJ6_bitCount_0f7a4_47 (i := 0) rfl (by decide) rfl (fun _ => rfl) h (fun z5 h => ?_)
  refine a_iload_n C dJ6_bitCount_0f7a4_48 (i := 0) rfl rfl ?_
  refine a_bipush C dJ6_bitCount_0f7a4_49 (v := 63) rfl ?_
  refine a_iand C dJ6_bitCount_0f7a4_51 ?_
  exact a_iret Rt dJ6_bitCount_0f7a4_52 rfl (ret_eq (h.trans (congrArg some hR.symm)))
set_option maxHeartbeats 4000000 in
set_option maxRecDepth 100000 in
theorem Z_X0_howManyUp {l : Launch} {D : va_G} {ids : List Nat} {ad : Nat → Nat} {ca : Nat → ClassId} {σ : HS} {a : Nat} {r0 : Int32} {s0 : HS} (hid : ∀ i, i < 277 → i ∈ ids) (ha : airOK a) (h : f_X0_howManyUp a σ = some (r0, s0)) : Ki l D ids ad ca yX0_howManyUp cX0_howManyUp 1 .int 1 23 [.ref (ad a)] σ (fun r σ1 => r = r0 ∧ σ1 = s0) := by
  obtain ⟨R, hR⟩ : ∃ R, (r0, s0) = R := ⟨_, rfl⟩
  replace h := h.trans (congrArg some hR)
  refine Ki.of (by decide) (Nat.le_of_ble_eq_true rfl) 0 (fun Γ C Rt => ?_)
  show AW ids ad ca Γ 0 [some (.ref (ad a))] [] σ
  unfold f_X0_howManyUp at h
  refine a_aload_n C dX0_howManyUp_0 (i := 0) rfl rfl ?_
  refine a_iconst C dX0_howManyUp_1 (v := 0) rfl ?_
  refine p_callVi C (As := [.int 0]) (i := a) ha.1.1 (hid _ ha.1.2) ⟨_, _, rfl⟩ (by decide) h (fun _ _ e => Z_X0_bitsOf hid ha e) mi_X0_bitsOf ml_RX0_70 rfl rfl (Nat.le_of_ble_eq_true rfl) (Nat.le_of_ble_eq_true rfl) (Nat.le_of_ble_eq_true rfl) dX0_howManyUp_2 (fun r2 σ1 h => ?_)
  refine p_callSi C (As := [.int r2]) h (fun _ _ e => Z_J6_bitCount_0f7a4 hid e) ms_J6_bitCount_0f7a4 ml_RX0_74 rfl rfl (Nat.le_of_ble_eq_true rfl) (Nat.le_of_ble_eq_true rfl) (Nat.le_of_ble_eq_true rfl) dX0_howManyUp_5 (fun r4 σ3 h => ?_)
  exact a_iret Rt dX0_howManyUp_8 rfl (ret_eq (h.trans (congrArg some hR.symm)))
set_option maxHeartbeats 4000000 in
set_option maxRecDepth 100000 in
theorem Z_X0_howManyLand {l : Launch} {D : va_G} {ids : List Nat} {ad : Nat → Nat} {ca : Nat → ClassId} {σ : HS} {a : Nat} {r0 : Int32} {s0 : HS} (hid : ∀ i, i < 277 → i ∈ ids) (ha : airOK a) (h : f_X0_howManyLand a σ = some (r0, s0)) : Ki l D ids ad ca yX0_howManyLand cX0_howManyLand 3 .int 1 21 [.ref (ad a)] σ (fun r σ1 => r = r0 ∧ σ1 = s0) := by
  obtain ⟨R, hR⟩ : ∃ R, (r0, s0) = R := ⟨_, rfl⟩
  replace h := h.trans (congrArg some hR)
  refine Ki.of (by decide) (Nat.le_of_ble_eq_true rfl) 2 (fun Γ C Rt => ?_)
  show AW ids ad ca Γ 0 [some (.ref (ad a)), none, none] [] σ
  unfold f_X0_howManyLand at h
  have j23 : ∀ (k4 : Int32 → Int32 → HS → Option (Int32 × HS)) (hk4 : ∀ (y1 : Int32) (y2 : Int32) (σ : HS), k4 y1 y2 σ = some R → AW ids ad ca Γ 4 [some (.ref (ad a)), some (.int y1), some (.int y2)] [] σ) (y1 : Int32) (y2 : Int32) (σ : HS), f_X0_howManyLand_23 a k4 y1 y2 σ = some R → AW ids ad ca Γ 23 [some (.ref (ad a)), some (.int y1), some (.int y2)] [] σ := by
    intro k4 hk4 y1 y2 σ h
    unfold f_X0_howManyLand_23 at h
    refine p_iinc C (y := (y2 + 1)) (fun z1 => [some (.ref (ad a)), some (.int y1), some (.int z1)]) dX0_howManyLand_23 rfl rfl (by decide) rfl (fun _ => rfl) h (fun z1 h => ?_)
    refine a_goto C dX0_howManyLand_26 (tgt := 4) rfl ?_
    exact hk4 _ _ _ h
  have j4 : ∀ (n : Nat) (y1 : Int32) (y2 : Int32) (σ : HS), f_X0_howManyLand_4 a n y1 y2 σ = some R → AW ids ad ca Γ 4 [some (.ref (ad a)), some (.int y1), some (.int y2)] [] σ := by
    intro n
    induction n with
    | zero => intro y1 y2 σ h; exact nn h
    | succ n ih =>
      intro y1 y2 σ h
      have h : b_X0_howManyLand_4 a (f_X0_howManyLand_4 a n) y1 y2 σ = some R := h
      unfold b_X0_howManyLand_4 at h
      refine a_iload_n C dX0_howManyLand_4 (i := 2) rfl rfl ?_
      refine a_aload_n C dX0_howManyLand_5 (i := 0) rfl rfl ?_
      refine a_get C fl_RX0_33 (i := a) ha.1.1 (hid _ ha.1.2) (v := .int (σ.1 a 0)) rfl dX0_howManyLand_6 ?_
      refine p_ic_ge C (X := y2.toInt) (Y := (σ.1 a 0).toInt) rfl rfl dX0_howManyLand_9 (tgt := 29) rfl h (fun h => ?_) (fun h => ?_)
      ·
        refine a_iload_n C dX0_howManyLand_29 (i := 1) rfl rfl ?_
        exact a_iret Rt dX0_howManyLand_30 rfl (ret_eq (h.trans (congrArg some hR.symm)))
      ·
        refine a_aload_n C dX0_howManyLand_12 (i := 0) rfl rfl ?_
        refine a_iload_n C dX0_howManyLand_13 (i := 2) rfl rfl ?_
        refine p_callVi C (As := [.int y2]) (i := a) ha.1.1 (hid _ ha.1.2) ⟨_, _, rfl⟩ (by decide) h (fun _ _ e => Z_X0_landsNow hid ha e) mi_X0_landsNow ml_RX0_79 rfl rfl (Nat.le_of_ble_eq_true rfl) (Nat.le_of_ble_eq_true rfl) (Nat.le_of_ble_eq_true rfl) dX0_howManyLand_14 (fun r2 σ1 h => ?_)
        refine p_if_eq C (X := r2.toInt) rfl dX0_howManyLand_17 (tgt := 23) rfl h (fun h => ?_) (fun h => ?_)
        ·
          exact j23 (f_X0_howManyLand_4 a n) (fun y1 y2 σ h => ih y1 y2 σ h) _ _ _ h
        ·
          refine p_iinc C (y := (y1 + 1)) (fun z3 => [some (.ref (ad a)), some (.int z3), some (.int y2)]) dX0_howManyLand_20 rfl rfl (by decide) rfl (fun _ => rfl) h (fun z3 h => ?_)
          exact j23 (f_X0_howManyLand_4 a n) (fun y1 y2 σ h => ih y1 y2 σ h) _ _ _ h
  refine a_iconst C dX0_howManyLand_0 (v := 0) rfl ?_
  refine a_istore_n C dX0_howManyLand_1 (i := 1) rfl (by decide) rfl (vs1 := [some (.ref (ad a)), some (.int 0), none]) rfl ?_
  refine a_iconst C dX0_howManyLand_2 (v := 0) rfl ?_
  refine a_istore_n C dX0_howManyLand_3 (i := 2) rfl (by decide) rfl (vs1 := [some (.ref (ad a)), some (.int 0), some (.int 0)]) rfl ?_
  exact j4 _ _ _ _ h
set_option maxHeartbeats 4000000 in
set_option maxRecDepth 100000 in
theorem Z_X0_firstLanding {l : Launch} {D : va_G} {ids : List Nat} {ad : Nat → Nat} {ca : Nat → ClassId} {σ : HS} {a : Nat} {r0 : Int32} {s0 : HS} (hid : ∀ i, i < 277 → i ∈ ids) (ha : airOK a) (h : f_X0_firstLanding a σ = some (r0, s0)) : Ki l D ids ad ca yX0_firstLanding cX0_firstLanding 2 .int 1 21 [.ref (ad a)] σ (fun r σ1 => r = r0 ∧ σ1 = s0) := by
  obtain ⟨R, hR⟩ : ∃ R, (r0, s0) = R := ⟨_, rfl⟩
  replace h := h.trans (congrArg some hR)
  refine Ki.of (by decide) (Nat.le_of_ble_eq_true rfl) 1 (fun Γ C Rt => ?_)
  show AW ids ad ca Γ 0 [some (.ref (ad a)), none] [] σ
  unfold f_X0_firstLanding at h
  have j2 : ∀ (n : Nat) (y1 : Int32) (σ : HS), f_X0_firstLanding_2 a n y1 σ = some R → AW ids ad ca Γ 2 [some (.ref (ad a)), some (.int y1)] [] σ := by
    intro n
    induction n with
    | zero => intro y1 σ h; exact nn h
    | succ n ih =>
      intro y1 σ h
      have h : b_X0_firstLanding_2 a (f_X0_firstLanding_2 a n) y1 σ = some R := h
      unfold b_X0_firstLanding_2 at h
      refine a_iload_n C dX0_firstLanding_2 (i := 1) rfl rfl ?_
      refine a_aload_n C dX0_firstLanding_3 (i := 0) rfl rfl ?_
      refine a_get C fl_RX0_33 (i := a) ha.1.1 (hid _ ha.1.2) (v := .int (σ.1 a 0)) rfl dX0_firstLanding_4 ?_
      refine p_ic_ge C (X := y1.toInt) (Y := (σ.1 a 0).toInt) rfl rfl dX0_firstLanding_7 (tgt := 26) rfl h (fun h => ?_) (fun h => ?_)
      ·
        refine a_iconst C dX0_firstLanding_26 (v := (-1)) rfl ?_
        exact a_iret Rt dX0_firstLanding_27 rfl (ret_eq (h.trans (congrArg some hR.symm)))
      ·
        refine a_aload_n C dX0_firstLanding_10 (i := 0) rfl rfl ?_
        refine a_iload_n C dX0_firstLanding_11 (i := 1) rfl rfl ?_
        refine p_callVi C (As := [.int y1]) (i := a) ha.1.1 (hid _ ha.1.2) ⟨_, _, rfl⟩ (by decide) h (fun _ _ e => Z_X0_landsNow hid ha e) mi_X0_landsNow ml_RX0_79 rfl rfl (Nat.le_of_ble_eq_true rfl) (Nat.le_of_ble_eq_true rfl) (Nat.le_of_ble_eq_true rfl) dX0_firstLanding_12 (fun r2 σ1 h => ?_)
        refine p_if_eq C (X := r2.toInt) rfl dX0_firstLanding_15 (tgt := 20) rfl h (fun h => ?_) (fun h => ?_)
        ·
          refine p_iinc C (y := (y1 + 1)) (fun z3 => [some (.ref (ad a)), some (.int z3)]) dX0_firstLanding_20 rfl rfl (by decide) rfl (fun _ => rfl) h (fun z3 h => ?_)
          refine a_goto C dX0_firstLanding_23 (tgt := 2) rfl ?_
          exact ih _ _ h
        ·
          refine a_iload_n C dX0_firstLanding_18 (i := 1) rfl rfl ?_
          exact a_iret Rt dX0_firstLanding_19 rfl (ret_eq (h.trans (congrArg some hR.symm)))
  refine a_iconst C dX0_firstLanding_0 (v := 0) rfl ?_
  refine a_istore_n C dX0_firstLanding_1 (i := 1) rfl (by decide) rfl (vs1 := [some (.ref (ad a)), some (.int 0)]) rfl ?_
  exact j2 _ _ _ h
set_option maxHeartbeats 4000000 in
set_option maxRecDepth 100000 in
theorem Z_X0_landingBits {l : Launch} {D : va_G} {ids : List Nat} {ad : Nat → Nat} {ca : Nat → ClassId} {σ : HS} {a : Nat} {r0 : Int32} {s0 : HS} (hid : ∀ i, i < 277 → i ∈ ids) (ha : airOK a) (h : f_X0_landingBits a σ = some (r0, s0)) : Ki l D ids ad ca yX0_landingBits cX0_landingBits 3 .int 1 21 [.ref (ad a)] σ (fun r σ1 => r = r0 ∧ σ1 = s0) := by
  obtain ⟨R, hR⟩ : ∃ R, (r0, s0) = R := ⟨_, rfl⟩
  replace h := h.trans (congrArg some hR)
  refine Ki.of (by decide) (Nat.le_of_ble_eq_true rfl) 2 (fun Γ C Rt => ?_)
  show AW ids ad ca Γ 0 [some (.ref (ad a)), none, none] [] σ
  unfold f_X0_landingBits at h
  have j31 : ∀ (k4 : Int32 → Int32 → HS → Option (Int32 × HS)) (hk4 : ∀ (y1 : Int32) (y2 : Int32) (σ : HS), k4 y1 y2 σ = some R → AW ids ad ca Γ 4 [some (.ref (ad a)), some (.int y1), some (.int y2)] [] σ) (y1 : Int32) (y2 : Int32) (σ : HS), f_X0_landingBits_31 a k4 y1 y2 σ = some R → AW ids ad ca Γ 31 [some (.ref (ad a)), some (.int y1), some (.int y2)] [] σ := by
    intro k4 hk4 y1 y2 σ h
    unfold f_X0_landingBits_31 at h
    refine p_iinc C (y := (y2 + 1)) (fun z1 => [some (.ref (ad a)), some (.int y1), some (.int z1)]) dX0_landingBits_31 rfl rfl (by decide) rfl (fun _ => rfl) h (fun z1 h => ?_)
    refine a_goto C dX0_landingBits_34 (tgt := 4) rfl ?_
    exact hk4 _ _ _ h
  have j4 : ∀ (n : Nat) (y1 : Int32) (y2 : Int32) (σ : HS), f_X0_landingBits_4 a n y1 y2 σ = some R → AW ids ad ca Γ 4 [some (.ref (ad a)), some (.int y1), some (.int y2)] [] σ := by
    intro n
    induction n with
    | zero => intro y1 y2 σ h; exact nn h
    | succ n ih =>
      intro y1 y2 σ h
      have h : b_X0_landingBits_4 a (f_X0_landingBits_4 a n) y1 y2 σ = some R := h
      unfold b_X0_landingBits_4 at h
      refine a_iload_n C dX0_landingBits_4 (i := 2) rfl rfl ?_
      refine a_aload_n C dX0_landingBits_5 (i := 0) rfl rfl ?_
      refine a_get C fl_RX0_33 (i := a) ha.1.1 (hid _ ha.1.2) (v := .int (σ.1 a 0)) rfl dX0_landingBits_6 ?_
      refine p_ic_ge C (X := y2.toInt) (Y := (σ.1 a 0).toInt) rfl rfl dX0_landingBits_9 (tgt := 37) rfl h (fun h => ?_) (fun h => ?_)
      ·
        refine a_iload_n C dX0_landingBits_37 (i := 1) rfl rfl ?_
        exact a_iret Rt dX0_landingBits_38 rfl (ret_eq (h.trans (congrArg some hR.symm)))
      ·
        refine a_aload_n C dX0_landingBits_12 (i := 0) rfl rfl ?_
        refine a_iload_n C dX0_landingBits_13 (i := 2) rfl rfl ?_
        refine p_callVi C (As := [.int y2]) (i := a) ha.1.1 (hid _ ha.1.2) ⟨_, _, rfl⟩ (by decide) h (fun _ _ e => Z_X0_isUp hid ha e) mi_X0_isUp ml_RX0_83 rfl rfl (Nat.le_of_ble_eq_true rfl) (Nat.le_of_ble_eq_true rfl) (Nat.le_of_ble_eq_true rfl) dX0_landingBits_14 (fun r2 σ1 h => ?_)
        refine p_if_eq C (X := r2.toInt) rfl dX0_landingBits_17 (tgt := 31) rfl h (fun h => ?_) (fun h => ?_)
        ·
          exact j31 (f_X0_landingBits_4 a n) (fun y1 y2 σ h => ih y1 y2 σ h) _ _ _ h
        ·
          refine a_iload_n C dX0_landingBits_20 (i := 1) rfl rfl ?_
          refine a_iconst C dX0_landingBits_21 (v := 1) rfl ?_
          refine a_aload_n C dX0_landingBits_22 (i := 0) rfl rfl ?_
          refine a_get C fl_RX0_15 (i := a) ha.1.1 (hid _ ha.1.2) (v := .ref (ad (a + 2))) rfl dX0_landingBits_23 ?_
          refine a_iload_n C dX0_landingBits_26 (i := 2) rfl rfl ?_
          refine p_iald C (i := (a + 2)) ha.2.2.1.1 hid (by rw [ha.2.2.1.2]; rfl) dX0_landingBits_27 h (fun h => ?_)
          refine a_ishl C dX0_landingBits_28 ?_
          refine a_ior C dX0_landingBits_29 ?_
          refine p_istore_n C (fun z3 => [some (.ref (ad a)), some (.int z3), some (.int y2)]) dX0_landingBits_30 (i := 1) rfl (by decide) rfl (fun _ => rfl) h (fun z3 h => ?_)
          exact j31 (f_X0_landingBits_4 a n) (fun y1 y2 σ h => ih y1 y2 σ h) _ _ _ h
  refine a_iconst C dX0_landingBits_0 (v := 0) rfl ?_
  refine a_istore_n C dX0_landingBits_1 (i := 1) rfl (by decide) rfl (vs1 := [some (.ref (ad a)), some (.int 0), none]) rfl ?_
  refine a_iconst C dX0_landingBits_2 (v := 0) rfl ?_
  refine a_istore_n C dX0_landingBits_3 (i := 2) rfl (by decide) rfl (vs1 := [some (.ref (ad a)), some (.int 0), some (.int 0)]) rfl ?_
  exact j4 _ _ _ _ h
set_option maxHeartbeats 4000000 in
set_option maxRecDepth 100000 in
theorem Z_X0_twoLandAlike {l : Launch} {D : va_G} {ids : List Nat} {ad : Nat → Nat} {ca : Nat → ClassId} {σ : HS} {a : Nat} {r0 : Int32} {s0 : HS} (hid : ∀ i, i < 277 → i ∈ ids) (ha : airOK a) (h : f_X0_twoLandAlike a σ = some (r0, s0)) : Ki l D ids ad ca yX0_twoLandAlike cX0_twoLandAlike 1 .boolean 2 43 [.ref (ad a)] σ (fun r σ1 => r = r0 ∧ σ1 = s0) := by
  obtain ⟨R, hR⟩ : ∃ R, (r0, s0) = R := ⟨_, rfl⟩
  replace h := h.trans (congrArg some hR)
  refine Ki.of (by decide) (Nat.le_of_ble_eq_true rfl) 0 (fun Γ C Rt => ?_)
  show AW ids ad ca Γ 0 [some (.ref (ad a))] [] σ
  unfold f_X0_twoLandAlike at h
  refine a_aload_n C dX0_twoLandAlike_0 (i := 0) rfl rfl ?_
  refine p_callVi C (As := []) (i := a) ha.1.1 (hid _ ha.1.2) ⟨_, _, rfl⟩ (by decide) h (fun _ _ e => Z_X0_landingBits hid ha e) mi_X0_landingBits ml_RX0_86 rfl rfl (Nat.le_of_ble_eq_true rfl) (Nat.le_of_ble_eq_true rfl) (Nat.le_of_ble_eq_true rfl) dX0_twoLandAlike_1 (fun r2 σ1 h => ?_)
  refine p_callSi C (As := [.int r2]) h (fun _ _ e => Z_J6_bitCount_0f7a4 hid e) ms_J6_bitCount_0f7a4 ml_RX0_74 rfl rfl (Nat.le_of_ble_eq_true rfl) (Nat.le_of_ble_eq_true rfl) (Nat.le_of_ble_eq_true rfl) dX0_twoLandAlike_4 (fun r4 σ3 h => ?_)
  refine a_aload_n C dX0_twoLandAlike_7 (i := 0) rfl rfl ?_
  refine p_callVi C (As := []) (i := a) ha.1.1 (hid _ ha.1.2) ⟨_, _, rfl⟩ (by decide) h (fun _ _ e => Z_X0_howManyUp hid ha e) mi_X0_howManyUp ml_RX0_90 rfl rfl (Nat.le_of_ble_eq_true rfl) (Nat.le_of_ble_eq_true rfl) (Nat.le_of_ble_eq_true rfl) dX0_twoLandAlike_8 (fun r6 σ5 h => ?_)
  refine p_ic_ge C (X := r4.toInt) (Y := r6.toInt) rfl rfl dX0_twoLandAlike_11 (tgt := 18) rfl h (fun h => ?_) (fun h => ?_)
  ·
    refine a_iconst C dX0_twoLandAlike_18 (v := 0) rfl ?_
    exact a_iret Rt dX0_twoLandAlike_19 (nar_z (by decide)).1 (ret_eq (h.trans (congrArg some hR.symm)))
  ·
    refine a_iconst C dX0_twoLandAlike_14 (v := 1) rfl ?_
    refine a_goto C dX0_twoLandAlike_15 (tgt := 19) rfl ?_
    exact a_iret Rt dX0_twoLandAlike_19 (nar_z (by decide)).1 (ret_eq (h.trans (congrArg some hR.symm)))
set_option maxHeartbeats 4000000 in
set_option maxRecDepth 100000 in
theorem Z_X10_hasPattern {l : Launch} {D : va_G} {ids : List Nat} {ad : Nat → Nat} {ca : Nat → ClassId} {σ : HS} {t : Nat} {x1 : Int32} {r0 : Int32} {s0 : HS} (hid : ∀ i, i < 277 → i ∈ ids) (ht : txtOK t) (h : f_X10_hasPattern t x1 σ = some (r0, s0)) : Ki l D ids ad ca yX10_hasPattern cX10_hasPattern 2 .boolean 0 0 [.ref (ad t), .int x1] σ (fun r σ1 => r = r0 ∧ σ1 = s0) := by
  obtain ⟨R, hR⟩ : ∃ R, (r0, s0) = R := ⟨_, rfl⟩
  replace h := h.trans (congrArg some hR)
  refine Ki.of (by decide) (Nat.le_of_ble_eq_true rfl) 0 (fun Γ C Rt => ?_)
  show AW ids ad ca Γ 0 [some (.ref (ad t)), some (.int x1)] [] σ
  unfold f_X10_hasPattern at h
  refine a_iload_n C dX10_hasPattern_0 (i := 1) rfl rfl ?_
  refine p_if_lt C (X := x1.toInt) rfl dX10_hasPattern_1 (tgt := 16) rfl h (fun h => ?_) (fun h => ?_)
  ·
    refine a_iconst C dX10_hasPattern_16 (v := 0) rfl ?_
    exact a_iret Rt dX10_hasPattern_17 (nar_z (by decide)).1 (ret_eq (h.trans (congrArg some hR.symm)))
  ·
    refine a_iload_n C dX10_hasPattern_4 (i := 1) rfl rfl ?_
    refine a_aload_n C dX10_hasPattern_5 (i := 0) rfl rfl ?_
    refine a_get C fl_RX10_42 (i := t) ht.1.1 (hid _ ht.1.2) (v := .int (σ.1 t 4)) rfl dX10_hasPattern_6 ?_
    refine p_ic_ge C (X := x1.toInt) (Y := (σ.1 t 4).toInt) rfl rfl dX10_hasPattern_9 (tgt := 16) rfl h (fun h => ?_) (fun h => ?_)
    ·
      refine a_iconst C dX10_hasPattern_16 (v := 0) rfl ?_
      exact a_iret Rt dX10_hasPattern_17 (nar_z (by decide)).1 (ret_eq (h.trans (congrArg some hR.symm)))
    ·
      refine a_iconst C dX10_hasPattern_12 (v := 1) rfl ?_
      refine a_goto C dX10_hasPattern_13 (tgt := 17) rfl ?_
      exact a_iret Rt dX10_hasPattern_17 (nar_z (by decide)).1 (ret_eq (h.trans (congrArg some hR.symm)))
set_option maxHeartbeats 4000000 in
set_option maxRecDepth 100000 in
theorem Z_J9_floorMod_7cf53 {l : Launch} {D : va_G} {ids : List Nat} {ad : Nat → Nat} {ca : Nat → ClassId} {σ : HS} {x1 : Int32} {x2 : Int32} {r0 : Int32} {s0 : HS} (hid : ∀ i, i < 277 → i ∈ ids) (h : f_J9_floorMod_7cf53 x1 x2 σ = some (r0, s0)) : Ki l D ids ad ca yJ9_floorMod_7cf53 cJ9_floorMod_7cf53 3 .int 0 0 [.int x1, .int x2] σ (fun r σ1 => r = r0 ∧ σ1 = s0) := by
  obtain ⟨R, hR⟩ : ∃ R, (r0, s0) = R := ⟨_, rfl⟩
  replace h := h.trans (congrArg some hR)
  refine Ki.ofF (by decide +kernel) (Nat.le_of_ble_eq_true rfl) 1 (fun Γ C Rt => ?_)
  show AW ids ad ca Γ 0 [some (.int x1), some (.int x2), none] [] σ
  unfold f_J9_floorMod_7cf53 at h
  refine a_iload_n C dJ9_floorMod_7cf53_0 (i := 0) rfl rfl ?_
  refine a_iload_n C dJ9_floorMod_7cf53_1 (i := 1) rfl rfl ?_
  refine p_irem C rfl dJ9_floorMod_7cf53_2 h (fun h => ?_)
  refine p_istore_n C (fun z1 => [some (.int x1), some (.int x2), some (.int z1)]) dJ9_floorMod_7cf53_3 (i := 2) rfl (by decide) rfl (fun _ => rfl) h (fun z1 h => ?_)
  refine a_iload_n C dJ9_floorMod_7cf53_4 (i := 0) rfl rfl ?_
  refine a_iload_n C dJ9_floorMod_7cf53_5 (i := 1) rfl rfl ?_
  refine a_ixor C dJ9_floorMod_7cf53_6 ?_
  refine p_if_ge C (X := (x1 ^^^ x2).toInt) rfl dJ9_floorMod_7cf53_7 (tgt := 18) rfl h (fun h => ?_) (fun h => ?_)
  ·
    refine a_iload_n C dJ9_floorMod_7cf53_18 (i := 2) rfl rfl ?_
    exact a_iret Rt dJ9_floorMod_7cf53_19 rfl (ret_eq (h.trans (congrArg some hR.symm)))
  ·
    refine a_iload_n C dJ9_floorMod_7cf53_10 (i := 2) rfl rfl ?_
    refine p_if_eq C (X := z1.toInt) rfl dJ9_floorMod_7cf53_11 (tgt := 18) rfl h (fun h => ?_) (fun h => ?_)
    ·
      refine a_iload_n C dJ9_floorMod_7cf53_18 (i := 2) rfl rfl ?_
      exact a_iret Rt dJ9_floorMod_7cf53_19 rfl (ret_eq (h.trans (congrArg some hR.symm)))
    ·
      refine a_iload_n C dJ9_floorMod_7cf53_14 (i := 2) rfl rfl ?_
      refine a_iload_n C dJ9_floorMod_7cf53_15 (i := 1) rfl rfl ?_
      refine a_iadd C dJ9_floorMod_7cf53_16 ?_
      exact a_iret Rt dJ9_floorMod_7cf53_17 rfl (ret_eq (h.trans (congrArg some hR.symm)))
set_option maxHeartbeats 4000000 in
set_option maxRecDepth 100000 in
theorem Z_X0_heightBy {l : Launch} {D : va_G} {ids : List Nat} {ad : Nat → Nat} {ca : Nat → ClassId} {σ : HS} {a : Nat} {p1 : Nat} {r0 : Int32} {s0 : HS} (hid : ∀ i, i < 277 → i ∈ ids) (ha : airOK a) (hp1 : txtOK p1) (h : f_X0_heightBy a p1 σ = some (r0, s0)) : Ki l D ids ad ca yX0_heightBy cX0_heightBy 2 .int 1 22 [.ref (ad a), .ref (ad p1)] σ (fun r σ1 => r = r0 ∧ σ1 = s0) := by
  obtain ⟨R, hR⟩ : ∃ R, (r0, s0) = R := ⟨_, rfl⟩
  replace h := h.trans (congrArg some hR)
  refine Ki.of (by decide) (Nat.le_of_ble_eq_true rfl) 0 (fun Γ C Rt => ?_)
  show AW ids ad ca Γ 0 [some (.ref (ad a)), some (.ref (ad p1))] [] σ
  unfold f_X0_heightBy at h
  refine a_aload_n C dX0_heightBy_0 (i := 0) rfl rfl ?_
  refine a_get C fl_RX0_25 (i := a) ha.1.1 (hid _ ha.1.2) (v := .int (σ.1 a 11)) rfl dX0_heightBy_1 ?_
  refine a_iconst C dX0_heightBy_4 (v := (-1)) rfl ?_
  refine p_ic_eq C (X := (σ.1 a 11).toInt) (Y := (-1)) rfl (by decide) dX0_heightBy_5 (tgt := 13) rfl h (fun h => ?_) (fun h => ?_)
  ·
    refine a_aload_n C dX0_heightBy_13 (i := 1) rfl rfl ?_
    refine a_aload_n C dX0_heightBy_14 (i := 0) rfl rfl ?_
    refine a_get C fl_RX0_21 (i := a) ha.1.1 (hid _ ha.1.2) (v := .int (σ.1 a 9)) rfl dX0_heightBy_15 ?_
    refine p_callVi C (As := [.int (σ.1 a 9)]) (i := p1) hp1.1.1 (hid _ hp1.1.2) ⟨_, _, rfl⟩ (by decide) h (fun _ _ e => Z_X10_hasPattern hid hp1 e) mi_X10_hasPattern ml_RX0_93 rfl rfl (Nat.le_of_ble_eq_true rfl) (Nat.le_of_ble_eq_true rfl) (Nat.le_of_ble_eq_true rfl) dX0_heightBy_18 (fun r2 σ1 h => ?_)
    refine p_if_eq C (X := r2.toInt) rfl dX0_heightBy_21 (tgt := 37) rfl h (fun h => ?_) (fun h => ?_)
    ·
      refine a_iconst C dX0_heightBy_37 (v := 3) rfl ?_
      exact a_iret Rt dX0_heightBy_38 rfl (ret_eq (h.trans (congrArg some hR.symm)))
    ·
      refine a_aload_n C dX0_heightBy_24 (i := 1) rfl rfl ?_
      refine a_get C fl_RX0_96 (i := p1) hp1.1.1 (hid _ hp1.1.2) (v := .ref (ad (p1 + 10))) rfl dX0_heightBy_25 ?_
      refine a_aload_n C dX0_heightBy_28 (i := 0) rfl rfl ?_
      refine a_get C fl_RX0_21 (i := a) ha.1.1 (hid _ ha.1.2) (v := .int (σ1.1 a 9)) rfl dX0_heightBy_29 ?_
      refine p_iald C (i := (p1 + 10)) hp1.2.2.2.2.1.1 hid (by rw [hp1.2.2.2.2.1.2]; rfl) dX0_heightBy_32 h (fun h => ?_)
      refine a_iconst C dX0_heightBy_33 (v := 1) rfl ?_
      refine p_ic_ge C (X := (σ1.1 (p1 + 10) (σ1.1 a 9).toInt.toNat).toInt) (Y := 1) rfl (by decide) dX0_heightBy_34 (tgt := 39) rfl h (fun h => ?_) (fun h => ?_)
      ·
        refine a_aload_n C dX0_heightBy_39 (i := 1) rfl rfl ?_
        refine a_get C fl_RX0_99 (i := p1) hp1.1.1 (hid _ hp1.1.2) (v := .ref (ad (p1 + 4))) rfl dX0_heightBy_40 ?_
        refine a_aload_n C dX0_heightBy_43 (i := 0) rfl rfl ?_
        refine a_get C fl_RX0_21 (i := a) ha.1.1 (hid _ ha.1.2) (v := .int (σ1.1 a 9)) rfl dX0_heightBy_44 ?_
        refine p_aaldH C (t := p1) hp1 hid dX0_heightBy_47 h (fun hr3 h => ?_)
        refine a_aload_n C dX0_heightBy_48 (i := 0) rfl rfl ?_
        refine a_get C fl_RX0_49 (i := a) ha.1.1 (hid _ ha.1.2) (v := .int (σ1.1 a 4)) rfl dX0_heightBy_49 ?_
        refine a_aload_n C dX0_heightBy_52 (i := 0) rfl rfl ?_
        refine a_get C fl_RX0_67 (i := a) ha.1.1 (hid _ ha.1.2) (v := .int (σ1.1 a 10)) rfl dX0_heightBy_53 ?_
        refine a_isub C dX0_heightBy_56 ?_
        refine a_aload_n C dX0_heightBy_57 (i := 1) rfl rfl ?_
        refine a_get C fl_RX0_96 (i := p1) hp1.1.1 (hid _ hp1.1.2) (v := .ref (ad (p1 + 10))) rfl dX0_heightBy_58 ?_
        refine a_aload_n C dX0_heightBy_61 (i := 0) rfl rfl ?_
        refine a_get C fl_RX0_21 (i := a) ha.1.1 (hid _ ha.1.2) (v := .int (σ1.1 a 9)) rfl dX0_heightBy_62 ?_
        refine p_iald C (i := (p1 + 10)) hp1.2.2.2.2.1.1 hid (by rw [hp1.2.2.2.2.1.2]; rfl) dX0_heightBy_65 h (fun h => ?_)
        refine p_callSi C (As := [.int ((σ1.1 a 4) - (σ1.1 a 10)), .int (σ1.1 (p1 + 10) (σ1.1 a 9).toInt.toNat)]) h (fun _ _ e => Z_J9_floorMod_7cf53 hid e) ms_J9_floorMod_7cf53 ml_RX0_103 rfl rfl (Nat.le_of_ble_eq_true rfl) (Nat.le_of_ble_eq_true rfl) (Nat.le_of_ble_eq_true rfl) dX0_heightBy_66 (fun r5 σ4 h => ?_)
        refine p_iald C (i := (p1 + 5 + (σ1.1 a 9).toInt.toNat)) hr3.1 hid (by rw [hr3.2]; rfl) dX0_heightBy_69 h (fun h => ?_)
        exact a_iret Rt dX0_heightBy_70 rfl (ret_eq (h.trans (congrArg some hR.symm)))
      ·
        refine a_iconst C dX0_heightBy_37 (v := 3) rfl ?_
        exact a_iret Rt dX0_heightBy_38 rfl (ret_eq (h.trans (congrArg some hR.symm)))
  ·
    refine a_aload_n C dX0_heightBy_8 (i := 0) rfl rfl ?_
    refine a_get C fl_RX0_25 (i := a) ha.1.1 (hid _ ha.1.2) (v := .int (σ.1 a 11)) rfl dX0_heightBy_9 ?_
    exact a_iret Rt dX0_heightBy_12 rfl (ret_eq (h.trans (congrArg some hR.symm)))
set_option maxHeartbeats 4000000 in
set_option maxRecDepth 100000 in
theorem Z_X1_pop {l : Launch} {D : va_G} {ids : List Nat} {ad : Nat → Nat} {ca : Nat → ClassId} {σ : HS} {r0 : Int32} {s0 : HS} (hid : ∀ i, i < 277 → i ∈ ids) (h : f_X1_pop σ = some (r0, s0)) : Ki l D ids ad ca yX1_pop cX1_pop 1 .int 0 0 [.ref (ad 9)] σ (fun r σ1 => r = r0 ∧ σ1 = s0) := by
  obtain ⟨R, hR⟩ : ∃ R, (r0, s0) = R := ⟨_, rfl⟩
  replace h := h.trans (congrArg some hR)
  refine Ki.of (by decide) (Nat.le_of_ble_eq_true rfl) 0 (fun Γ C Rt => ?_)
  show AW ids ad ca Γ 0 [some (.ref (ad 9))] [] σ
  unfold f_X1_pop at h
  refine a_aload_n C dX1_pop_0 (i := 0) rfl rfl ?_
  refine a_get C fl_RX1_18 (i := 9) kd_9 (hid 9 (by decide)) (v := .int (σ.1 9 2)) rfl dX1_pop_1 ?_
  refine a_iconst C dX1_pop_4 (v := 1) rfl ?_
  refine p_ic_ge C (X := (σ.1 9 2).toInt) (Y := 1) rfl (by decide) dX1_pop_5 (tgt := 15) rfl h (fun h => ?_) (fun h => ?_)
  ·
    refine a_aload_n C dX1_pop_15 (i := 0) rfl rfl ?_
    refine a_dup C dX1_pop_16 rfl ?_
    refine a_get C fl_RX1_18 (i := 9) kd_9 (hid 9 (by decide)) (v := .int (σ.1 9 2)) rfl dX1_pop_17 ?_
    refine a_iconst C dX1_pop_20 (v := 1) rfl ?_
    refine a_isub C dX1_pop_21 ?_
    refine p_put C fp_RX1_18 (i := 9) kd_9 (hid 9 (by decide)) rfl rfl dX1_pop_22 h (fun σ1 h => ?_)
    refine a_aload_n C dX1_pop_25 (i := 0) rfl rfl ?_
    refine a_get C fl_RX1_15 (i := 9) kd_9 (hid 9 (by decide)) (v := .ref (ad 11)) rfl dX1_pop_26 ?_
    refine a_aload_n C dX1_pop_29 (i := 0) rfl rfl ?_
    refine a_get C fl_RX1_18 (i := 9) kd_9 (hid 9 (by decide)) (v := .int (σ1.1 9 2)) rfl dX1_pop_30 ?_
    refine p_iald C (i := 11) (show rowOK 11 from ⟨kd_11, by decide⟩) hid (by rw [al_11]; rfl) dX1_pop_33 h (fun h => ?_)
    exact a_iret Rt dX1_pop_34 rfl (ret_eq (h.trans (congrArg some hR.symm)))
  ·
    refine a_aload_n C dX1_pop_8 (i := 0) rfl rfl ?_
    refine a_iconst C dX1_pop_9 (v := 1) rfl ?_
    refine p_put C fp_RX1_22 (i := 9) kd_9 (hid 9 (by decide)) (nar_z (by decide)).1 (nar_z (by decide)).2 dX1_pop_10 h (fun σ2 h => ?_)
    refine a_iconst C dX1_pop_13 (v := 0) rfl ?_
    exact a_iret Rt dX1_pop_14 rfl (ret_eq (h.trans (congrArg some hR.symm)))
set_option maxHeartbeats 4000000 in
set_option maxRecDepth 100000 in
theorem Z_X1_reckon {l : Launch} {D : va_G} {ids : List Nat} {ad : Nat → Nat} {ca : Nat → ClassId} {σ : HS} {x1 : Int32} {x2 : Int32} {x3 : Int32} {r0 : Int32} {s0 : HS} (hid : ∀ i, i < 277 → i ∈ ids) (h : f_X1_reckon x1 x2 x3 σ = some (r0, s0)) : Ki l D ids ad ca yX1_reckon cX1_reckon 4 .int 0 0 [.ref (ad 9), .int x1, .int x2, .int x3] σ (fun r σ1 => r = r0 ∧ σ1 = s0) := by
  obtain ⟨R, hR⟩ : ∃ R, (r0, s0) = R := ⟨_, rfl⟩
  replace h := h.trans (congrArg some hR)
  refine Ki.of (by decide) (Nat.le_of_ble_eq_true rfl) 0 (fun Γ C Rt => ?_)
  show AW ids ad ca Γ 0 [some (.ref (ad 9)), some (.int x1), some (.int x2), some (.int x3)] [] σ
  unfold f_X1_reckon at h
  have j57 : ∀ (y2 : Int32) (y3 : Int32) (v0 : Int32) (σ : HS), f_X1_reckon_57 y2 y3 v0 σ = some R → AW ids ad ca Γ 57 [none, none, some (.int y2), some (.int y3)] [.int v0, .ref (ad 9)] σ := by
    intro y2 y3 v0 σ h
    unfold f_X1_reckon_57 at h
    refine ite_n h (fun hz1 h => ?_)
    refine p_put C fp_RX1_22 (i := 9) kd_9 (hid 9 (by decide)) (nar_z hz1).1 (nar_z hz1).2 dX1_reckon_57 h (fun σ2 h => ?_)
    refine a_iload_n C dX1_reckon_60 (i := 3) rfl rfl ?_
    refine p_if_ne C (X := y3.toInt) rfl dX1_reckon_61 (tgt := 68) rfl h (fun h => ?_) (fun h => ?_)
    ·
      refine a_iload_n C dX1_reckon_68 (i := 2) rfl rfl ?_
      refine a_iload_n C dX1_reckon_69 (i := 3) rfl rfl ?_
      refine p_idiv C rfl dX1_reckon_70 h (fun h => ?_)
      exact a_iret Rt dX1_reckon_71 rfl (ret_eq (h.trans (congrArg some hR.symm)))
    ·
      refine a_iconst C dX1_reckon_64 (v := 0) rfl ?_
      refine a_goto C dX1_reckon_65 (tgt := 71) rfl ?_
      exact a_iret Rt dX1_reckon_71 rfl (ret_eq (h.trans (congrArg some hR.symm)))
  have j52 : ∀ (y2 : Int32) (y3 : Int32) (σ : HS), f_X1_reckon_52 y2 y3 σ = some R → AW ids ad ca Γ 52 [none, none, some (.int y2), some (.int y3)] [.ref (ad 9)] σ := by
    intro y2 y3 σ h
    unfold f_X1_reckon_52 at h
    refine a_iconst C dX1_reckon_52 (v := 1) rfl ?_
    refine a_goto C dX1_reckon_53 (tgt := 57) rfl ?_
    exact j57 _ _ _ _ h
  refine a_iload_n C dX1_reckon_0 (i := 1) rfl rfl ?_
  refine ite_k h (fun c1 h => ?_) (fun c1 h => ?_)
  ·
    refine a_tableIn C dX1_reckon_1 (by omega) (by omega) (by rw [c1]; rfl) (tgt := 36) rfl ?_
    refine a_iload_n C dX1_reckon_36 (i := 2) rfl rfl ?_
    refine a_iload_n C dX1_reckon_37 (i := 3) rfl rfl ?_
    refine a_imul C dX1_reckon_38 ?_
    exact a_iret Rt dX1_reckon_39 rfl (ret_eq (h.trans (congrArg some hR.symm)))
  ·
    refine ite_k h (fun c2 h => ?_) (fun c2 h => ?_)
    ·
      refine a_tableIn C dX1_reckon_1 (by omega) (by omega) (by rw [c2]; rfl) (tgt := 32) rfl ?_
      refine a_iload_n C dX1_reckon_32 (i := 2) rfl rfl ?_
      refine a_iload_n C dX1_reckon_33 (i := 3) rfl rfl ?_
      refine a_isub C dX1_reckon_34 ?_
      exact a_iret Rt dX1_reckon_35 rfl (ret_eq (h.trans (congrArg some hR.symm)))
    ·
      refine ite_k h (fun c3 h => ?_) (fun c3 h => ?_)
      ·
        refine a_tableIn C dX1_reckon_1 (by omega) (by omega) (by rw [c3]; rfl) (tgt := 28) rfl ?_
        refine a_iload_n C dX1_reckon_28 (i := 2) rfl rfl ?_
        refine a_iload_n C dX1_reckon_29 (i := 3) rfl rfl ?_
        refine a_iadd C dX1_reckon_30 ?_
        exact a_iret Rt dX1_reckon_31 rfl (ret_eq (h.trans (congrArg some hR.symm)))
      ·
        refine a_tableOut C dX1_reckon_1 (by omega) (tgt := 40) rfl ?_
        refine a_aload_n C dX1_reckon_40 (i := 0) rfl rfl ?_
        refine a_aload_n C dX1_reckon_41 (i := 0) rfl rfl ?_
        refine a_get C fl_RX1_22 (i := 9) kd_9 (hid 9 (by decide)) (v := .int (σ.1 9 3)) rfl dX1_reckon_42 ?_
        refine p_if_ne C (X := (σ.1 9 3).toInt) rfl dX1_reckon_45 (tgt := 52) rfl h (fun h => ?_) (fun h => ?_)
        ·
          refine AW.sub (vs' := [none, none, some (.int x2), some (.int x3)]) (lsub_of (by simp [lsubB])) ?_
          exact j52 _ _ _ h
        ·
          refine a_iload_n C dX1_reckon_48 (i := 3) rfl rfl ?_
          refine p_if_ne C (X := x3.toInt) rfl dX1_reckon_49 (tgt := 56) rfl h (fun h => ?_) (fun h => ?_)
          ·
            refine a_iconst C dX1_reckon_56 (v := 0) rfl ?_
            refine AW.sub (vs' := [none, none, some (.int x2), some (.int x3)]) (lsub_of (by simp [lsubB])) ?_
            exact j57 _ _ _ _ h
          ·
            refine AW.sub (vs' := [none, none, some (.int x2), some (.int x3)]) (lsub_of (by simp [lsubB])) ?_
            exact j52 _ _ _ h
set_option maxHeartbeats 4000000 in
set_option maxRecDepth 100000 in
theorem Z_X1_push {l : Launch} {D : va_G} {ids : List Nat} {ad : Nat → Nat} {ca : Nat → ClassId} {σ : HS} {x1 : Int32} {s0 : HS} (hid : ∀ i, i < 277 → i ∈ ids) (h : f_X1_push x1 σ = some s0) : Kv l D ids ad ca yX1_push cX1_push 2 0 0 [.ref (ad 9), .int x1] σ (fun σ1 => σ1 = s0) := by
  obtain ⟨R, hR⟩ : ∃ R, s0 = R := ⟨_, rfl⟩
  replace h := h.trans (congrArg some hR)
  refine Kv.of (by decide) (Nat.le_of_ble_eq_true rfl) 0 (fun Γ C Rt => ?_)
  show AW ids ad ca Γ 0 [some (.ref (ad 9)), some (.int x1)] [] σ
  unfold f_X1_push at h
  refine a_aload_n C dX1_push_0 (i := 0) rfl rfl ?_
  refine a_get C fl_RX1_18 (i := 9) kd_9 (hid 9 (by decide)) (v := .int (σ.1 9 2)) rfl dX1_push_1 ?_
  refine a_bipush C dX1_push_4 (v := 32) rfl ?_
  refine p_ic_lt C (X := (σ.1 9 2).toInt) (Y := 32) rfl (by decide) dX1_push_6 (tgt := 17) rfl h (fun h => ?_) (fun h => ?_)
  ·
    refine a_aload_n C dX1_push_17 (i := 0) rfl rfl ?_
    refine a_get C fl_RX1_15 (i := 9) kd_9 (hid 9 (by decide)) (v := .ref (ad 11)) rfl dX1_push_18 ?_
    refine a_aload_n C dX1_push_21 (i := 0) rfl rfl ?_
    refine a_get C fl_RX1_18 (i := 9) kd_9 (hid 9 (by decide)) (v := .int (σ.1 9 2)) rfl dX1_push_22 ?_
    refine a_iload_n C dX1_push_25 (i := 1) rfl rfl ?_
    refine p_iast C (i := 11) (show rowOK 11 from ⟨kd_11, by decide⟩) hid (by rw [al_11]; rfl) dX1_push_26 h (fun σ1 h => ?_)
    refine a_aload_n C dX1_push_27 (i := 0) rfl rfl ?_
    refine a_dup C dX1_push_28 rfl ?_
    refine a_get C fl_RX1_18 (i := 9) kd_9 (hid 9 (by decide)) (v := .int (σ1.1 9 2)) rfl dX1_push_29 ?_
    refine a_iconst C dX1_push_32 (v := 1) rfl ?_
    refine a_iadd C dX1_push_33 ?_
    refine p_put C fp_RX1_18 (i := 9) kd_9 (hid 9 (by decide)) rfl rfl dX1_push_34 h (fun σ2 h => ?_)
    exact a_vret Rt dX1_push_37 (retv_eq (h.trans (congrArg some hR.symm)))
  ·
    refine a_aload_n C dX1_push_9 (i := 0) rfl rfl ?_
    refine a_iconst C dX1_push_10 (v := 1) rfl ?_
    refine p_put C fp_RX1_22 (i := 9) kd_9 (hid 9 (by decide)) (nar_z (by decide)).1 (nar_z (by decide)).2 dX1_push_11 h (fun σ3 h => ?_)
    refine a_goto C dX1_push_14 (tgt := 37) rfl ?_
    exact a_vret Rt dX1_push_37 (retv_eq (h.trans (congrArg some hR.symm)))
set_option maxHeartbeats 4000000 in
set_option maxRecDepth 100000 in
theorem Z_X1_answer {l : Launch} {D : va_G} {ids : List Nat} {ad : Nat → Nat} {ca : Nat → ClassId} {σ : HS} {p1 : Nat} {x2 : Int32} {r0 : Int32} {s0 : HS} (hid : ∀ i, i < 277 → i ∈ ids) (hp1 : rowOK p1) (h : f_X1_answer p1 x2 σ = some (r0, s0)) : Ki l D ids ad ca yX1_answer cX1_answer 8 .int 1 23 [.ref (ad 9), .ref (ad p1), .int x2] σ (fun r σ1 => r = r0 ∧ σ1 = s0) := by
  obtain ⟨R, hR⟩ : ∃ R, (r0, s0) = R := ⟨_, rfl⟩
  replace h := h.trans (congrArg some hR)
  refine Ki.of (by decide) (Nat.le_of_ble_eq_true rfl) 5 (fun Γ C Rt => ?_)
  show AW ids ad ca Γ 0 [some (.ref (ad 9)), some (.ref (ad p1)), some (.int x2), none, none, none, none, none] [] σ
  unfold f_X1_answer at h
  have j178 : ∀ (k15 : Int32 → Int32 → HS → Option (Int32 × HS)) (hk15 : ∀ (y3 : Int32) (y4 : Int32) (σ : HS), k15 y3 y4 σ = some R → AW ids ad ca Γ 15 [some (.ref (ad 9)), some (.ref (ad p1)), none, some (.int y3), some (.int y4), none, none, none] [] σ) (y3 : Int32) (y4 : Int32) (σ : HS), f_X1_answer_178 p1 k15 y3 y4 σ = some R → AW ids ad ca Γ 178 [some (.ref (ad 9)), some (.ref (ad p1)), none, some (.int y3), some (.int y4), none, none, none] [] σ := by
    intro k15 hk15 y3 y4 σ h
    unfold f_X1_answer_178 at h
    refine p_iinc C (y := (y4 + 1)) (fun z1 => [some (.ref (ad 9)), some (.ref (ad p1)), none, some (.int y3), some (.int z1), none, none, none]) dX1_answer_178 rfl rfl (by decide) rfl (fun _ => rfl) h (fun z1 h => ?_)
    refine a_goto C dX1_answer_181 (tgt := 15) rfl ?_
    exact hk15 _ _ _ h
  have j168 : ∀ (k15 : Int32 → Int32 → HS → Option (Int32 × HS)) (hk15 : ∀ (y3 : Int32) (y4 : Int32) (σ : HS), k15 y3 y4 σ = some R → AW ids ad ca Γ 15 [some (.ref (ad 9)), some (.ref (ad p1)), none, some (.int y3), some (.int y4), none, none, none] [] σ) (y3 : Int32) (y4 : Int32) (σ : HS), f_X1_answer_168 p1 k15 y3 y4 σ = some R → AW ids ad ca Γ 168 [some (.ref (ad 9)), some (.ref (ad p1)), none, some (.int y3), some (.int y4), none, none, none] [] σ := by
    intro k15 hk15 y3 y4 σ h
    unfold f_X1_answer_168 at h
    refine p_iinc C (y := (y3 + 1)) (fun z1 => [some (.ref (ad 9)), some (.ref (ad p1)), none, some (.int z1), some (.int y4), none, none, none]) dX1_answer_168 rfl rfl (by decide) rfl (fun _ => rfl) h (fun z1 h => ?_)
    refine a_goto C dX1_answer_171 (tgt := 178) rfl ?_
    exact j178 k15 hk15 _ _ _ h
  have j92 : ∀ (k15 : Int32 → Int32 → HS → Option (Int32 × HS)) (hk15 : ∀ (y3 : Int32) (y4 : Int32) (σ : HS), k15 y3 y4 σ = some R → AW ids ad ca Γ 15 [some (.ref (ad 9)), some (.ref (ad p1)), none, some (.int y3), some (.int y4), none, none, none] [] σ) (y3 : Int32) (y4 : Int32) (y5 : Int32) (σ : HS), f_X1_answer_92 p1 k15 y3 y4 y5 σ = some R → AW ids ad ca Γ 92 [some (.ref (ad 9)), some (.ref (ad p1)), none, some (.int y3), some (.int y4), some (.int y5), none, none] [] σ := by
    intro k15 hk15 y3 y4 y5 σ h
    unfold f_X1_answer_92 at h
    refine a_iload C dX1_answer_92 rfl ?_
    refine a_bipush C dX1_answer_94 (v := (-6)) rfl ?_
    refine p_ic_ne C (X := y5.toInt) (Y := (-6)) rfl (by decide) dX1_answer_96 (tgt := 119) rfl h (fun h => ?_) (fun h => ?_)
    ·
      refine a_aload_n C dX1_answer_119 (i := 0) rfl rfl ?_
      refine p_callVi C (As := []) (i := 9) kd_9 (hid 9 (by decide)) ⟨_, _, rfl⟩ (by decide) h (fun _ _ e => Z_X1_pop hid e) mi_X1_pop ml_RX1_30 rfl rfl (Nat.le_of_ble_eq_true rfl) (Nat.le_of_ble_eq_true rfl) (Nat.le_of_ble_eq_true rfl) dX1_answer_120 (fun r2 σ1 h => ?_)
      refine a_istore C dX1_answer_123 (by decide) rfl (vs1 := [some (.ref (ad 9)), some (.ref (ad p1)), none, some (.int y3), some (.int y4), some (.int y5), some (.int r2), none]) rfl ?_
      refine a_aload_n C dX1_answer_125 (i := 0) rfl rfl ?_
      refine p_callVi C (As := []) (i := 9) kd_9 (hid 9 (by decide)) ⟨_, _, rfl⟩ (by decide) h (fun _ _ e => Z_X1_pop hid e) mi_X1_pop ml_RX1_30 rfl rfl (Nat.le_of_ble_eq_true rfl) (Nat.le_of_ble_eq_true rfl) (Nat.le_of_ble_eq_true rfl) dX1_answer_126 (fun r4 σ3 h => ?_)
      refine a_istore C dX1_answer_129 (by decide) rfl (vs1 := [some (.ref (ad 9)), some (.ref (ad p1)), none, some (.int y3), some (.int y4), some (.int y5), some (.int r2), some (.int r4)]) rfl ?_
      refine a_iload C dX1_answer_131 rfl ?_
      refine a_bipush C dX1_answer_133 (v := (-5)) rfl ?_
      refine p_ic_eq C (X := y5.toInt) (Y := (-5)) rfl (by decide) dX1_answer_135 (tgt := 155) rfl h (fun h => ?_) (fun h => ?_)
      ·
        refine a_iload C dX1_answer_155 rfl ?_
        refine a_iload C dX1_answer_157 rfl ?_
        refine p_ic_lt C (X := r4.toInt) (Y := r2.toInt) rfl rfl dX1_answer_159 (tgt := 168) rfl h (fun h => ?_) (fun h => ?_)
        ·
          refine AW.sub (vs' := [some (.ref (ad 9)), some (.ref (ad p1)), none, some (.int y3), some (.int y4), none, none, none]) (lsub_of (by simp [lsubB])) ?_
          exact j168 k15 hk15 _ _ _ h
        ·
          refine a_iload_n C dX1_answer_162 (i := 3) rfl rfl ?_
          refine a_aload_n C dX1_answer_163 (i := 1) rfl rfl ?_
          refine a_alen C (by rw [hp1.1]; decide) (hid _ hp1.2) rfl dX1_answer_164 ?_
          refine p_ic_lt C (X := y3.toInt) (Y := (Int32.ofNat (al p1)).toInt) rfl rfl dX1_answer_165 (tgt := 174) rfl h (fun h => ?_) (fun h => ?_)
          ·
            refine a_aload_n C dX1_answer_174 (i := 1) rfl rfl ?_
            refine a_iload_n C dX1_answer_175 (i := 3) rfl rfl ?_
            refine p_iald C (i := p1) hp1 hid rfl dX1_answer_176 h (fun h => ?_)
            refine p_istore_n C (fun z5 => [some (.ref (ad 9)), some (.ref (ad p1)), none, some (.int z5), some (.int y4), some (.int y5), some (.int r2), some (.int r4)]) dX1_answer_177 (i := 3) rfl (by decide) rfl (fun _ => rfl) h (fun z5 h => ?_)
            refine AW.sub (vs' := [some (.ref (ad 9)), some (.ref (ad p1)), none, some (.int z5), some (.int y4), none, none, none]) (lsub_of (by simp [lsubB])) ?_
            exact j178 k15 hk15 _ _ _ h
          ·
            refine AW.sub (vs' := [some (.ref (ad 9)), some (.ref (ad p1)), none, some (.int y3), some (.int y4), none, none, none]) (lsub_of (by simp [lsubB])) ?_
            exact j168 k15 hk15 _ _ _ h
      ·
        refine a_aload_n C dX1_answer_138 (i := 0) rfl rfl ?_
        refine a_aload_n C dX1_answer_139 (i := 0) rfl rfl ?_
        refine a_iload C dX1_answer_140 rfl ?_
        refine a_iload C dX1_answer_142 rfl ?_
        refine a_iload C dX1_answer_144 rfl ?_
        refine p_callVi C (As := [.int y5, .int r4, .int r2]) (i := 9) kd_9 (hid 9 (by decide)) ⟨_, _, rfl⟩ (by decide) h (fun _ _ e => Z_X1_reckon hid e) mi_X1_reckon ml_RX1_34 rfl rfl (Nat.le_of_ble_eq_true rfl) (Nat.le_of_ble_eq_true rfl) (Nat.le_of_ble_eq_true rfl) dX1_answer_146 (fun r7 σ6 h => ?_)
        refine p_callVv C (As := [.int r7]) (i := 9) kd_9 (hid 9 (by decide)) ⟨_, _, rfl⟩ (by decide) h (fun _ e => Z_X1_push hid e) mi_X1_push ml_RX1_26 rfl rfl (Nat.le_of_ble_eq_true rfl) (Nat.le_of_ble_eq_true rfl) (Nat.le_of_ble_eq_true rfl) dX1_answer_149 (fun σ8 h => ?_)
        refine a_goto C dX1_answer_152 (tgt := 178) rfl ?_
        refine AW.sub (vs' := [some (.ref (ad 9)), some (.ref (ad p1)), none, some (.int y3), some (.int y4), none, none, none]) (lsub_of (by simp [lsubB])) ?_
        exact j178 k15 hk15 _ _ _ h
    ·
      refine a_aload_n C dX1_answer_99 (i := 0) rfl rfl ?_
      refine p_callVi C (As := []) (i := 9) kd_9 (hid 9 (by decide)) ⟨_, _, rfl⟩ (by decide) h (fun _ _ e => Z_X1_pop hid e) mi_X1_pop ml_RX1_30 rfl rfl (Nat.le_of_ble_eq_true rfl) (Nat.le_of_ble_eq_true rfl) (Nat.le_of_ble_eq_true rfl) dX1_answer_100 (fun r11 σ10 h => ?_)
      refine a_istore C dX1_answer_103 (by decide) rfl (vs1 := [some (.ref (ad 9)), some (.ref (ad p1)), none, some (.int y3), some (.int y4), some (.int y5), some (.int r11), none]) rfl ?_
      refine a_aload_n C dX1_answer_105 (i := 0) rfl rfl ?_
      refine a_get C fl_RX1_22 (i := 9) kd_9 (hid 9 (by decide)) (v := .int (σ10.1 9 3)) rfl dX1_answer_106 ?_
      refine p_if_eq C (X := (σ10.1 9 3).toInt) rfl dX1_answer_109 (tgt := 116) rfl h (fun h => ?_) (fun h => ?_)
      ·
        refine a_iload C dX1_answer_116 rfl ?_
        exact a_iret Rt dX1_answer_118 rfl (ret_eq (h.trans (congrArg some hR.symm)))
      ·
        refine a_iconst C dX1_answer_112 (v := 0) rfl ?_
        refine a_goto C dX1_answer_113 (tgt := 118) rfl ?_
        exact a_iret Rt dX1_answer_118 rfl (ret_eq (h.trans (congrArg some hR.symm)))
  have j15 : ∀ (n : Nat) (y3 : Int32) (y4 : Int32) (σ : HS), f_X1_answer_15 p1 n y3 y4 σ = some R → AW ids ad ca Γ 15 [some (.ref (ad 9)), some (.ref (ad p1)), none, some (.int y3), some (.int y4), none, none, none] [] σ := by
    intro n
    induction n with
    | zero => intro y3 y4 σ h; exact nn h
    | succ n ih =>
      intro y3 y4 σ h
      have h : b_X1_answer_15 p1 (f_X1_answer_15 p1 n) y3 y4 σ = some R := h
      unfold b_X1_answer_15 at h
      refine a_iload C dX1_answer_15 rfl ?_
      refine a_aload_n C dX1_answer_17 (i := 1) rfl rfl ?_
      refine a_alen C (by rw [hp1.1]; decide) (hid _ hp1.2) rfl dX1_answer_18 ?_
      refine p_ic_ge C (X := y4.toInt) (Y := (Int32.ofNat (al p1)).toInt) rfl rfl dX1_answer_19 (tgt := 184) rfl h (fun h => ?_) (fun h => ?_)
      ·
        refine a_iconst C dX1_answer_184 (v := 0) rfl ?_
        exact a_iret Rt dX1_answer_185 rfl (ret_eq (h.trans (congrArg some hR.symm)))
      ·
        refine a_iload_n C dX1_answer_22 (i := 3) rfl rfl ?_
        refine p_if_lt C (X := y3.toInt) rfl dX1_answer_23 (tgt := 184) rfl h (fun h => ?_) (fun h => ?_)
        ·
          refine a_iconst C dX1_answer_184 (v := 0) rfl ?_
          exact a_iret Rt dX1_answer_185 rfl (ret_eq (h.trans (congrArg some hR.symm)))
        ·
          refine a_iload_n C dX1_answer_26 (i := 3) rfl rfl ?_
          refine a_aload_n C dX1_answer_27 (i := 1) rfl rfl ?_
          refine a_alen C (by rw [hp1.1]; decide) (hid _ hp1.2) rfl dX1_answer_28 ?_
          refine p_ic_ge C (X := y3.toInt) (Y := (Int32.ofNat (al p1)).toInt) rfl rfl dX1_answer_29 (tgt := 184) rfl h (fun h => ?_) (fun h => ?_)
          ·
            refine a_iconst C dX1_answer_184 (v := 0) rfl ?_
            exact a_iret Rt dX1_answer_185 rfl (ret_eq (h.trans (congrArg some hR.symm)))
          ·
            refine a_aload_n C dX1_answer_32 (i := 0) rfl rfl ?_
            refine a_get C fl_RX1_22 (i := 9) kd_9 (hid 9 (by decide)) (v := .int (σ.1 9 3)) rfl dX1_answer_33 ?_
            refine p_if_ne C (X := (σ.1 9 3).toInt) rfl dX1_answer_36 (tgt := 184) rfl h (fun h => ?_) (fun h => ?_)
            ·
              refine a_iconst C dX1_answer_184 (v := 0) rfl ?_
              exact a_iret Rt dX1_answer_185 rfl (ret_eq (h.trans (congrArg some hR.symm)))
            ·
              refine a_aload_n C dX1_answer_39 (i := 1) rfl rfl ?_
              refine a_iload_n C dX1_answer_40 (i := 3) rfl rfl ?_
              refine p_iald C (i := p1) hp1 hid rfl dX1_answer_41 h (fun h => ?_)
              refine p_istore C (fun z1 => [some (.ref (ad 9)), some (.ref (ad p1)), none, some (.int y3), some (.int y4), some (.int z1), none, none]) dX1_answer_42 (by decide) rfl (fun _ => rfl) h (fun z1 h => ?_)
              refine p_iinc C (y := (y3 + 1)) (fun z2 => [some (.ref (ad 9)), some (.ref (ad p1)), none, some (.int z2), some (.int y4), some (.int z1), none, none]) dX1_answer_44 rfl rfl (by decide) rfl (fun _ => rfl) h (fun z2 h => ?_)
              refine a_iload C dX1_answer_47 rfl ?_
              refine p_if_lt C (X := z1.toInt) rfl dX1_answer_49 (tgt := 61) rfl h (fun h => ?_) (fun h => ?_)
              ·
                refine a_iload C dX1_answer_61 rfl ?_
                refine a_bipush C dX1_answer_63 (v := (-10)) rfl ?_
                refine p_ic_gt C (X := z1.toInt) (Y := (-10)) rfl (by decide) dX1_answer_65 (tgt := 92) rfl h (fun h => ?_) (fun h => ?_)
                ·
                  exact j92 (f_X1_answer_15 p1 n) (fun y3 y4 σ h => ih y3 y4 σ h) _ _ _ _ h
                ·
                  refine a_iload C dX1_answer_68 rfl ?_
                  refine a_bipush C dX1_answer_70 (v := (-19)) rfl ?_
                  refine p_ic_le C (X := z1.toInt) (Y := (-19)) rfl (by decide) dX1_answer_72 (tgt := 92) rfl h (fun h => ?_) (fun h => ?_)
                  ·
                    exact j92 (f_X1_answer_15 p1 n) (fun y3 y4 σ h => ih y3 y4 σ h) _ _ _ _ h
                  ·
                    refine a_aload_n C dX1_answer_75 (i := 0) rfl rfl ?_
                    refine a_aload_n C dX1_answer_76 (i := 0) rfl rfl ?_
                    refine a_get C fl_RX1_9 (i := 9) kd_9 (hid 9 (by decide)) (v := .ref (ad 10)) rfl dX1_answer_77 ?_
                    refine a_bipush C dX1_answer_80 (v := (-10)) rfl ?_
                    refine a_iload C dX1_answer_82 rfl ?_
                    refine a_isub C dX1_answer_84 ?_
                    refine p_iald C (i := 10) (show rowOK 10 from ⟨kd_10, by decide⟩) hid (by rw [al_10]; rfl) dX1_answer_85 h (fun h => ?_)
                    refine p_callVv C (As := [.int (σ.1 10 (((-10) : Int32) - z1).toInt.toNat)]) (i := 9) kd_9 (hid 9 (by decide)) ⟨_, _, rfl⟩ (by decide) h (fun _ e => Z_X1_push hid e) mi_X1_push ml_RX1_26 rfl rfl (Nat.le_of_ble_eq_true rfl) (Nat.le_of_ble_eq_true rfl) (Nat.le_of_ble_eq_true rfl) dX1_answer_86 (fun σ3 h => ?_)
                    refine a_goto C dX1_answer_89 (tgt := 178) rfl ?_
                    refine AW.sub (vs' := [some (.ref (ad 9)), some (.ref (ad p1)), none, some (.int z2), some (.int y4), none, none, none]) (lsub_of (by simp [lsubB])) ?_
                    exact j178 (f_X1_answer_15 p1 n) (fun y3 y4 σ h => ih y3 y4 σ h) _ _ _ h
              ·
                refine a_aload_n C dX1_answer_52 (i := 0) rfl rfl ?_
                refine a_iload C dX1_answer_53 rfl ?_
                refine p_callVv C (As := [.int z1]) (i := 9) kd_9 (hid 9 (by decide)) ⟨_, _, rfl⟩ (by decide) h (fun _ e => Z_X1_push hid e) mi_X1_push ml_RX1_26 rfl rfl (Nat.le_of_ble_eq_true rfl) (Nat.le_of_ble_eq_true rfl) (Nat.le_of_ble_eq_true rfl) dX1_answer_55 (fun σ5 h => ?_)
                refine a_goto C dX1_answer_58 (tgt := 178) rfl ?_
                refine AW.sub (vs' := [some (.ref (ad 9)), some (.ref (ad p1)), none, some (.int z2), some (.int y4), none, none, none]) (lsub_of (by simp [lsubB])) ?_
                exact j178 (f_X1_answer_15 p1 n) (fun y3 y4 σ h => ih y3 y4 σ h) _ _ _ h
  refine a_aload_n C dX1_answer_0 (i := 0) rfl rfl ?_
  refine a_iconst C dX1_answer_1 (v := 0) rfl ?_
  refine p_put C fp_RX1_18 (i := 9) kd_9 (hid 9 (by decide)) rfl rfl dX1_answer_2 h (fun σ1 h => ?_)
  refine a_aload_n C dX1_answer_5 (i := 0) rfl rfl ?_
  refine a_iconst C dX1_answer_6 (v := 0) rfl ?_
  refine p_put C fp_RX1_22 (i := 9) kd_9 (hid 9 (by decide)) (nar_z (by decide)).1 (nar_z (by decide)).2 dX1_answer_7 h (fun σ2 h => ?_)
  refine a_iload_n C dX1_answer_10 (i := 2) rfl rfl ?_
  refine a_istore_n C dX1_answer_11 (i := 3) rfl (by decide) rfl (vs1 := [some (.ref (ad 9)), some (.ref (ad p1)), some (.int x2), some (.int x2), none, none, none, none]) rfl ?_
  refine a_iconst C dX1_answer_12 (v := 0) rfl ?_
  refine a_istore C dX1_answer_13 (by decide) rfl (vs1 := [some (.ref (ad 9)), some (.ref (ad p1)), some (.int x2), some (.int x2), some (.int 0), none, none, none]) rfl ?_
  refine AW.sub (vs' := [some (.ref (ad 9)), some (.ref (ad p1)), none, some (.int x2), some (.int 0), none, none, none]) (lsub_of (by simp [lsubB])) ?_
  exact j15 _ _ _ _ h
set_option maxHeartbeats 4000000 in
set_option maxRecDepth 100000 in
theorem Z_X2_add {l : Launch} {D : va_G} {ids : List Nat} {ad : Nat → Nat} {ca : Nat → ClassId} {σ : HS} {x1 : Int32} {x2 : Int32} {r0 : Int32} {s0 : HS} (hid : ∀ i, i < 277 → i ∈ ids) (h : f_X2_add x1 x2 σ = some (r0, s0)) : Ki l D ids ad ca yX2_add cX2_add 3 .int 0 0 [.ref (ad 14), .int x1, .int x2] σ (fun r σ1 => r = r0 ∧ σ1 = s0) := by
  obtain ⟨R, hR⟩ : ∃ R, (r0, s0) = R := ⟨_, rfl⟩
  replace h := h.trans (congrArg some hR)
  refine Ki.of (by decide) (Nat.le_of_ble_eq_true rfl) 0 (fun Γ C Rt => ?_)
  show AW ids ad ca Γ 0 [some (.ref (ad 14)), some (.int x1), some (.int x2)] [] σ
  unfold f_X2_add at h
  refine a_aload_n C dX2_add_0 (i := 0) rfl rfl ?_
  refine a_get C fl_RX2_19 (i := 14) kd_14 (hid 14 (by decide)) (v := .int (σ.1 14 2)) rfl dX2_add_1 ?_
  refine a_bipush C dX2_add_4 (v := 20) rfl ?_
  refine p_ic_lt C (X := (σ.1 14 2).toInt) (Y := 20) rfl (by decide) dX2_add_6 (tgt := 11) rfl h (fun h => ?_) (fun h => ?_)
  ·
    refine a_aload_n C dX2_add_11 (i := 0) rfl rfl ?_
    refine a_get C fl_RX2_9 (i := 14) kd_14 (hid 14 (by decide)) (v := .ref (ad 15)) rfl dX2_add_12 ?_
    refine a_aload_n C dX2_add_15 (i := 0) rfl rfl ?_
    refine a_get C fl_RX2_19 (i := 14) kd_14 (hid 14 (by decide)) (v := .int (σ.1 14 2)) rfl dX2_add_16 ?_
    refine a_iload_n C dX2_add_19 (i := 1) rfl rfl ?_
    refine p_iast C (i := 15) (show rowOK 15 from ⟨kd_15, by decide⟩) hid (by rw [al_15]; rfl) dX2_add_20 h (fun σ1 h => ?_)
    refine a_aload_n C dX2_add_21 (i := 0) rfl rfl ?_
    refine a_get C fl_RX2_15 (i := 14) kd_14 (hid 14 (by decide)) (v := .ref (ad 16)) rfl dX2_add_22 ?_
    refine a_aload_n C dX2_add_25 (i := 0) rfl rfl ?_
    refine a_get C fl_RX2_19 (i := 14) kd_14 (hid 14 (by decide)) (v := .int (σ1.1 14 2)) rfl dX2_add_26 ?_
    refine a_iload_n C dX2_add_29 (i := 2) rfl rfl ?_
    refine ite_n h (fun hz2 h => ?_)
    refine p_zast C (i := 16) kd_16 (hid 16 (by decide)) (by rw [al_16]; rfl) hz2 dX2_add_30 h (fun σ3 h => ?_)
    refine a_aload_n C dX2_add_31 (i := 0) rfl rfl ?_
    refine a_dup C dX2_add_32 rfl ?_
    refine a_get C fl_RX2_19 (i := 14) kd_14 (hid 14 (by decide)) (v := .int (σ3.1 14 2)) rfl dX2_add_33 ?_
    refine a_iconst C dX2_add_36 (v := 1) rfl ?_
    refine a_iadd C dX2_add_37 ?_
    refine p_put C fp_RX2_19 (i := 14) kd_14 (hid 14 (by decide)) rfl rfl dX2_add_38 h (fun σ4 h => ?_)
    refine a_aload_n C dX2_add_41 (i := 0) rfl rfl ?_
    refine a_get C fl_RX2_19 (i := 14) kd_14 (hid 14 (by decide)) (v := .int (σ4.1 14 2)) rfl dX2_add_42 ?_
    refine a_iconst C dX2_add_45 (v := 1) rfl ?_
    refine a_isub C dX2_add_46 ?_
    exact a_iret Rt dX2_add_47 rfl (ret_eq (h.trans (congrArg some hR.symm)))
  ·
    refine a_iconst C dX2_add_9 (v := (-1)) rfl ?_
    exact a_iret Rt dX2_add_10 rfl (ret_eq (h.trans (congrArg some hR.symm)))
theorem dX2_agreeing_45 : decode cX2_agreeing 45 = .ok (.iconst (-1), 1) := o2 ac_cX2_agreeing_32 13 rfl
set_option maxHeartbeats 4000000 in
set_option maxRecDepth 100000 in
theorem Z_X2_agreeing {l : Launch} {D : va_G} {ids : List Nat} {ad : Nat → Nat} {ca : Nat → ClassId} {σ : HS} {p3 : Nat} {x1 : Int32} {x2 : Int32} {r0 : Int32} {s0 : HS} (hid : ∀ i, i < 277 → i ∈ ids) (hp3 : rowOK p3) (h : f_X2_agreeing p3 x1 x2 σ = some (r0, s0)) : Ki l D ids ad ca yX2_agreeing cX2_agreeing 8 .int 0 0 [.ref (ad 14), .int x1, .int x2, .ref (ad p3)] σ (fun r σ1 => r = r0 ∧ σ1 = s0) := by
  obtain ⟨R, hR⟩ : ∃ R, (r0, s0) = R := ⟨_, rfl⟩
  replace h := h.trans (congrArg some hR)
  refine Ki.of (by decide) (Nat.le_of_ble_eq_true rfl) 4 (fun Γ C Rt => ?_)
  show AW ids ad ca Γ 0 [some (.ref (ad 14)), some (.int x1), some (.int x2), some (.ref (ad p3)), none, none, none, none] [] σ
  unfold f_X2_agreeing at h
  have j85 : ∀ (k6 : Int32 → Int32 → Int32 → HS → Option (Int32 × HS)) (hk6 : ∀ (y2 : Int32) (y4 : Int32) (y5 : Int32) (σ : HS), k6 y2 y4 y5 σ = some R → AW ids ad ca Γ 6 [some (.ref (ad 14)), none, some (.int y2), some (.ref (ad p3)), some (.int y4), some (.int y5), none, none] [] σ) (y2 : Int32) (y5 : Int32) (v0 : Int32) (v1 : Int32) (σ : HS), f_X2_agreeing_85 p3 k6 y2 y5 v0 v1 σ = some R → AW ids ad ca Γ 85 [some (.ref (ad 14)), none, some (.int y2), some (.ref (ad p3)), none, some (.int y5), none, none] [.int v0, .int v1] σ := by
    intro k6 hk6 y2 y5 v0 v1 σ h
    unfold f_X2_agreeing_85 at h
    refine a_iand C dX2_agreeing_85 ?_
    refine p_istore C (fun z1 => [some (.ref (ad 14)), none, some (.int y2), some (.ref (ad p3)), some (.int z1), some (.int y5), none, none]) dX2_agreeing_86 (by decide) rfl (fun _ => rfl) h (fun z1 h => ?_)
    refine p_iinc C (y := (y5 + 1)) (fun z2 => [some (.ref (ad 14)), none, some (.int y2), some (.ref (ad p3)), some (.int z1), some (.int z2), none, none]) dX2_agreeing_88 rfl rfl (by decide) rfl (fun _ => rfl) h (fun z2 h => ?_)
    refine a_goto C dX2_agreeing_91 (tgt := 6) rfl ?_
    exact hk6 _ _ _ _ h
  have j62 : ∀ (k6 : Int32 → Int32 → Int32 → HS → Option (Int32 × HS)) (hk6 : ∀ (y2 : Int32) (y4 : Int32) (y5 : Int32) (σ : HS), k6 y2 y4 y5 σ = some R → AW ids ad ca Γ 6 [some (.ref (ad 14)), none, some (.int y2), some (.ref (ad p3)), some (.int y4), some (.int y5), none, none] [] σ) (y2 : Int32) (y4 : Int32) (y5 : Int32) (v0 : Int32) (σ : HS), f_X2_agreeing_62 p3 k6 y2 y4 y5 v0 σ = some R → AW ids ad ca Γ 62 [some (.ref (ad 14)), none, some (.int y2), some (.ref (ad p3)), some (.int y4), some (.int y5), none, none] [.int v0] σ := by
    intro k6 hk6 y2 y4 y5 v0 σ h
    unfold f_X2_agreeing_62 at h
    refine a_istore C dX2_agreeing_62 (by decide) rfl (vs1 := [some (.ref (ad 14)), none, some (.int y2), some (.ref (ad p3)), some (.int y4), some (.int y5), none, some (.int v0)]) rfl ?_
    refine a_iload C dX2_agreeing_64 rfl ?_
    refine a_aload_n C dX2_agreeing_66 (i := 0) rfl rfl ?_
    refine a_get C fl_RX2_15 (i := 14) kd_14 (hid 14 (by decide)) (v := .ref (ad 16)) rfl dX2_agreeing_67 ?_
    refine a_iload C dX2_agreeing_70 rfl ?_
    refine p_zald C (i := 16) kd_16 (hid 16 (by decide)) (by rw [al_16]; rfl) dX2_agreeing_72 h (fun h => ?_)
    refine p_if_eq C (X := (σ.1 16 y5.toInt.toNat).toInt) rfl dX2_agreeing_73 (tgt := 81) rfl h (fun h => ?_) (fun h => ?_)
    ·
      refine a_iload C dX2_agreeing_81 rfl ?_
      refine a_iconst C dX2_agreeing_83 (v := (-1)) rfl ?_
      refine a_ixor C dX2_agreeing_84 ?_
      refine AW.sub (vs' := [some (.ref (ad 14)), none, some (.int y2), some (.ref (ad p3)), none, some (.int y5), none, none]) (lsub_of (by simp [lsubB])) ?_
      exact j85 k6 hk6 _ _ _ _ _ h
    ·
      refine a_iload C dX2_agreeing_76 rfl ?_
      refine a_goto C dX2_agreeing_78 (tgt := 85) rfl ?_
      refine AW.sub (vs' := [some (.ref (ad 14)), none, some (.int y2), some (.ref (ad p3)), none, some (.int y5), none, none]) (lsub_of (by simp [lsubB])) ?_
      exact j85 k6 hk6 _ _ _ _ _ h
  have j46 : ∀ (k6 : Int32 → Int32 → Int32 → HS → Option (Int32 × HS)) (hk6 : ∀ (y2 : Int32) (y4 : Int32) (y5 : Int32) (σ : HS), k6 y2 y4 y5 σ = some R → AW ids ad ca Γ 6 [some (.ref (ad 14)), none, some (.int y2), some (.ref (ad p3)), some (.int y4), some (.int y5), none, none] [] σ) (y2 : Int32) (y4 : Int32) (y5 : Int32) (v0 : Int32) (σ : HS), f_X2_agreeing_46 p3 k6 y2 y4 y5 v0 σ = some R → AW ids ad ca Γ 46 [some (.ref (ad 14)), none, some (.int y2), some (.ref (ad p3)), some (.int y4), some (.int y5), none, none] [.int v0] σ := by
    intro k6 hk6 y2 y4 y5 v0 σ h
    unfold f_X2_agreeing_46 at h
    refine a_istore C dX2_agreeing_46 (by decide) rfl (vs1 := [some (.ref (ad 14)), none, some (.int y2), some (.ref (ad p3)), some (.int y4), some (.int y5), some (.int v0), none]) rfl ?_
    refine a_iload C dX2_agreeing_48 rfl ?_
    refine a_iconst C dX2_agreeing_50 (v := (-1)) rfl ?_
    refine p_ic_ne C (X := v0.toInt) (Y := (-1)) rfl (by decide) dX2_agreeing_51 (tgt := 58) rfl h (fun h => ?_) (fun h => ?_)
    ·
      refine a_iconst C dX2_agreeing_58 (v := 1) rfl ?_
      refine a_iload C dX2_agreeing_59 rfl ?_
      refine a_ishl C dX2_agreeing_61 ?_
      refine AW.sub (vs' := [some (.ref (ad 14)), none, some (.int y2), some (.ref (ad p3)), some (.int y4), some (.int y5), none, none]) (lsub_of (by simp [lsubB])) ?_
      exact j62 k6 hk6 _ _ _ _ _ h
    ·
      refine a_iconst C dX2_agreeing_54 (v := 0) rfl ?_
      refine a_goto C dX2_agreeing_55 (tgt := 62) rfl ?_
      refine AW.sub (vs' := [some (.ref (ad 14)), none, some (.int y2), some (.ref (ad p3)), some (.int y4), some (.int y5), none, none]) (lsub_of (by simp [lsubB])) ?_
      exact j62 k6 hk6 _ _ _ _ _ h
  have j6 : ∀ (n : Nat) (y2 : Int32) (y4 : Int32) (y5 : Int32) (σ : HS), f_X2_agreeing_6 p3 n y2 y4 y5 σ = some R → AW ids ad ca Γ 6 [some (.ref (ad 14)), none, some (.int y2), some (.ref (ad p3)), some (.int y4), some (.int y5), none, none] [] σ := by
    intro n
    induction n with
    | zero => intro y2 y4 y5 σ h; exact nn h
    | succ n ih =>
      intro y2 y4 y5 σ h
      have h : b_X2_agreeing_6 p3 (f_X2_agreeing_6 p3 n) y2 y4 y5 σ = some R := h
      unfold b_X2_agreeing_6 at h
      refine a_iload C dX2_agreeing_6 rfl ?_
      refine a_iload_n C dX2_agreeing_8 (i := 2) rfl rfl ?_
      refine p_ic_ge C (X := y5.toInt) (Y := y2.toInt) rfl rfl dX2_agreeing_9 (tgt := 94) rfl h (fun h => ?_) (fun h => ?_)
      ·
        refine a_iload C dX2_agreeing_94 rfl ?_
        exact a_iret Rt dX2_agreeing_96 rfl (ret_eq (h.trans (congrArg some hR.symm)))
      ·
        refine a_iload C dX2_agreeing_12 rfl ?_
        refine a_aload_n C dX2_agreeing_14 (i := 0) rfl rfl ?_
        refine a_get C fl_RX2_19 (i := 14) kd_14 (hid 14 (by decide)) (v := .int (σ.1 14 2)) rfl dX2_agreeing_15 ?_
        refine p_ic_ge C (X := y5.toInt) (Y := (σ.1 14 2).toInt) rfl rfl dX2_agreeing_18 (tgt := 94) rfl h (fun h => ?_) (fun h => ?_)
        ·
          refine a_iload C dX2_agreeing_94 rfl ?_
          exact a_iret Rt dX2_agreeing_96 rfl (ret_eq (h.trans (congrArg some hR.symm)))
        ·
          refine a_aload_n C dX2_agreeing_21 (i := 0) rfl rfl ?_
          refine a_get C fl_RX2_9 (i := 14) kd_14 (hid 14 (by decide)) (v := .ref (ad 15)) rfl dX2_agreeing_22 ?_
          refine a_iload C dX2_agreeing_25 rfl ?_
          refine p_iald C (i := 15) (show rowOK 15 from ⟨kd_15, by decide⟩) hid (by rw [al_15]; rfl) dX2_agreeing_27 h (fun h => ?_)
          refine a_aload_n C dX2_agreeing_28 (i := 3) rfl rfl ?_
          refine a_alen C (by rw [hp3.1]; decide) (hid _ hp3.2) rfl dX2_agreeing_29 ?_
          refine p_ic_ge C (X := (σ.1 15 y5.toInt.toNat).toInt) (Y := (Int32.ofNat (al p3)).toInt) rfl rfl dX2_agreeing_30 (tgt := 45) rfl h (fun h => ?_) (fun h => ?_)
          ·
            refine a_iconst C dX2_agreeing_45 (v := (-1)) rfl ?_
            exact j46 (f_X2_agreeing_6 p3 n) (fun y2 y4 y5 σ h => ih y2 y4 y5 σ h) _ _ _ _ _ h
          ·
            refine a_aload_n C dX2_agreeing_33 (i := 3) rfl rfl ?_
            refine a_aload_n C dX2_agreeing_34 (i := 0) rfl rfl ?_
            refine a_get C fl_RX2_9 (i := 14) kd_14 (hid 14 (by decide)) (v := .ref (ad 15)) rfl dX2_agreeing_35 ?_
            refine a_iload C dX2_agreeing_38 rfl ?_
            refine p_iald C (i := 15) (show rowOK 15 from ⟨kd_15, by decide⟩) hid (by rw [al_15]; rfl) dX2_agreeing_40 h (fun h => ?_)
            refine p_iald C (i := p3) hp3 hid rfl dX2_agreeing_41 h (fun h => ?_)
            refine a_goto C dX2_agreeing_42 (tgt := 46) rfl ?_
            exact j46 (f_X2_agreeing_6 p3 n) (fun y2 y4 y5 σ h => ih y2 y4 y5 σ h) _ _ _ _ _ h
  refine a_iload_n C dX2_agreeing_0 (i := 1) rfl rfl ?_
  refine a_istore C dX2_agreeing_1 (by decide) rfl (vs1 := [some (.ref (ad 14)), some (.int x1), some (.int x2), some (.ref (ad p3)), some (.int x1), none, none, none]) rfl ?_
  refine a_iconst C dX2_agreeing_3 (v := 0) rfl ?_
  refine a_istore C dX2_agreeing_4 (by decide) rfl (vs1 := [some (.ref (ad 14)), some (.int x1), some (.int x2), some (.ref (ad p3)), some (.int x1), some (.int 0), none, none]) rfl ?_
  refine AW.sub (vs' := [some (.ref (ad 14)), none, some (.int x2), some (.ref (ad p3)), some (.int x1), some (.int 0), none, none]) (lsub_of (by simp [lsubB])) ?_
  exact j6 _ _ _ _ _ h

set_option maxHeartbeats 4000000 in
set_option maxRecDepth 100000 in
theorem Z_X3_close {l : Launch} {D : va_G} {ids : List Nat} {ad : Nat → Nat} {ca : Nat → ClassId} {σ : HS} {p1 : Nat} {x2 : Int32} {r0 : Int32} {s0 : HS} (hid : ∀ i, i < 277 → i ∈ ids) (hp1 : rowOK p1) (h : f_X3_close p1 x2 σ = some (r0, s0)) : Ki l D ids ad ca yX3_close cX3_close 5 .boolean 0 0 [.ref (ad p1), .int x2] σ (fun r σ1 => r = r0 ∧ σ1 = s0) := by
  obtain ⟨R, hR⟩ : ∃ R, (r0, s0) = R := ⟨_, rfl⟩
  replace h := h.trans (congrArg some hR)
  refine Ki.of (by decide) (Nat.le_of_ble_eq_true rfl) 3 (fun Γ C Rt => ?_)
  show AW ids ad ca Γ 0 [some (.ref (ad p1)), some (.int x2), none, none, none] [] σ
  unfold f_X3_close at h
  have j4 : ∀ (n : Nat) (y1 : Int32) (y2 : Int32) (y3 : Int32) (σ : HS), f_X3_close_4 p1 n y1 y2 y3 σ = some R → AW ids ad ca Γ 4 [some (.ref (ad p1)), some (.int y1), some (.int y2), some (.int y3), none] [] σ := by
    intro n
    induction n with
    | zero => intro y1 y2 y3 σ h; exact nn h
    | succ n ih =>
      intro y1 y2 y3 σ h
      have h : b_X3_close_4 p1 (f_X3_close_4 p1 n) y1 y2 y3 σ = some R := h
      unfold b_X3_close_4 at h
      refine a_iload_n C dX3_close_4 (i := 3) rfl rfl ?_
      refine a_iload_n C dX3_close_5 (i := 1) rfl rfl ?_
      refine p_ic_ge C (X := y3.toInt) (Y := y1.toInt) rfl rfl dX3_close_6 (tgt := 40) rfl h (fun h => ?_) (fun h => ?_)
      ·
        refine a_iconst C dX3_close_40 (v := 1) rfl ?_
        exact a_iret Rt dX3_close_41 (nar_z (by decide)).1 (ret_eq (h.trans (congrArg some hR.symm)))
      ·
        refine a_iconst C dX3_close_9 (v := 1) rfl ?_
        refine a_iload_n C dX3_close_10 (i := 3) rfl rfl ?_
        refine a_aload_n C dX3_close_11 (i := 0) rfl rfl ?_
        refine a_iload_n C dX3_close_12 (i := 3) rfl rfl ?_
        refine p_iald C (i := p1) hp1 hid rfl dX3_close_13 h (fun h => ?_)
        refine a_iadd C dX3_close_14 ?_
        refine a_iload_n C dX3_close_15 (i := 1) rfl rfl ?_
        refine p_irem C rfl dX3_close_16 h (fun h => ?_)
        refine a_ishl C dX3_close_17 ?_
        refine p_istore C (fun z1 => [some (.ref (ad p1)), some (.int y1), some (.int y2), some (.int y3), some (.int z1)]) dX3_close_18 (by decide) rfl (fun _ => rfl) h (fun z1 h => ?_)
        refine a_iload_n C dX3_close_20 (i := 2) rfl rfl ?_
        refine a_iload C dX3_close_21 rfl ?_
        refine a_iand C dX3_close_23 ?_
        refine p_if_eq C (X := (y2 &&& z1).toInt) rfl dX3_close_24 (tgt := 29) rfl h (fun h => ?_) (fun h => ?_)
        ·
          refine a_iload_n C dX3_close_29 (i := 2) rfl rfl ?_
          refine a_iload C dX3_close_30 rfl ?_
          refine a_ior C dX3_close_32 ?_
          refine p_istore_n C (fun z2 => [some (.ref (ad p1)), some (.int y1), some (.int z2), some (.int y3), some (.int z1)]) dX3_close_33 (i := 2) rfl (by decide) rfl (fun _ => rfl) h (fun z2 h => ?_)
          refine p_iinc C (y := (y3 + 1)) (fun z3 => [some (.ref (ad p1)), some (.int y1), some (.int z2), some (.int z3), some (.int z1)]) dX3_close_34 rfl rfl (by decide) rfl (fun _ => rfl) h (fun z3 h => ?_)
          refine a_goto C dX3_close_37 (tgt := 4) rfl ?_
          refine AW.sub (vs' := [some (.ref (ad p1)), some (.int y1), some (.int z2), some (.int z3), none]) (lsub_of (by simp [lsubB])) ?_
          exact ih _ _ _ _ h
        ·
          refine a_iconst C dX3_close_27 (v := 0) rfl ?_
          exact a_iret Rt dX3_close_28 (nar_z (by decide)).1 (ret_eq (h.trans (congrArg some hR.symm)))
  refine a_iconst C dX3_close_0 (v := 0) rfl ?_
  refine a_istore_n C dX3_close_1 (i := 2) rfl (by decide) rfl (vs1 := [some (.ref (ad p1)), some (.int x2), some (.int 0), none, none]) rfl ?_
  refine a_iconst C dX3_close_2 (v := 0) rfl ?_
  refine a_istore_n C dX3_close_3 (i := 3) rfl (by decide) rfl (vs1 := [some (.ref (ad p1)), some (.int x2), some (.int 0), some (.int 0), none]) rfl ?_
  exact j4 _ _ _ _ _ h
set_option maxHeartbeats 4000000 in
set_option maxRecDepth 100000 in
theorem Z_X3_kept {l : Launch} {D : va_G} {ids : List Nat} {ad : Nat → Nat} {ca : Nat → ClassId} {σ : HS} {p1 : Nat} {x2 : Int32} {r0 : Int32} {s0 : HS} (hid : ∀ i, i < 277 → i ∈ ids) (hp1 : rowOK p1) (h : f_X3_kept p1 x2 σ = some (r0, s0)) : Ki l D ids ad ca yX3_kept cX3_kept 4 .int 0 0 [.ref (ad p1), .int x2] σ (fun r σ1 => r = r0 ∧ σ1 = s0) := by
  obtain ⟨R, hR⟩ : ∃ R, (r0, s0) = R := ⟨_, rfl⟩
  replace h := h.trans (congrArg some hR)
  refine Ki.of (by decide) (Nat.le_of_ble_eq_true rfl) 2 (fun Γ C Rt => ?_)
  show AW ids ad ca Γ 0 [some (.ref (ad p1)), some (.int x2), none, none] [] σ
  unfold f_X3_kept at h
  have j4 : ∀ (n : Nat) (y1 : Int32) (y2 : Int32) (y3 : Int32) (σ : HS), f_X3_kept_4 p1 n y1 y2 y3 σ = some R → AW ids ad ca Γ 4 [some (.ref (ad p1)), some (.int y1), some (.int y2), some (.int y3)] [] σ := by
    intro n
    induction n with
    | zero => intro y1 y2 y3 σ h; exact nn h
    | succ n ih =>
      intro y1 y2 y3 σ h
      have h : b_X3_kept_4 p1 (f_X3_kept_4 p1 n) y1 y2 y3 σ = some R := h
      unfold b_X3_kept_4 at h
      refine a_iload_n C dX3_kept_4 (i := 3) rfl rfl ?_
      refine a_iload_n C dX3_kept_5 (i := 1) rfl rfl ?_
      refine p_ic_ge C (X := y3.toInt) (Y := y1.toInt) rfl rfl dX3_kept_6 (tgt := 21) rfl h (fun h => ?_) (fun h => ?_)
      ·
        refine a_iload_n C dX3_kept_21 (i := 1) rfl rfl ?_
        refine a_iconst C dX3_kept_22 (v := 1) rfl ?_
        refine p_ic_ge C (X := y1.toInt) (Y := 1) rfl (by decide) dX3_kept_23 (tgt := 30) rfl h (fun h => ?_) (fun h => ?_)
        ·
          refine a_iload_n C dX3_kept_30 (i := 2) rfl rfl ?_
          refine a_iload_n C dX3_kept_31 (i := 1) rfl rfl ?_
          refine p_idiv C rfl dX3_kept_32 h (fun h => ?_)
          exact a_iret Rt dX3_kept_33 rfl (ret_eq (h.trans (congrArg some hR.symm)))
        ·
          refine a_iconst C dX3_kept_26 (v := 0) rfl ?_
          refine a_goto C dX3_kept_27 (tgt := 33) rfl ?_
          exact a_iret Rt dX3_kept_33 rfl (ret_eq (h.trans (congrArg some hR.symm)))
      ·
        refine a_iload_n C dX3_kept_9 (i := 2) rfl rfl ?_
        refine a_aload_n C dX3_kept_10 (i := 0) rfl rfl ?_
        refine a_iload_n C dX3_kept_11 (i := 3) rfl rfl ?_
        refine p_iald C (i := p1) hp1 hid rfl dX3_kept_12 h (fun h => ?_)
        refine a_iadd C dX3_kept_13 ?_
        refine p_istore_n C (fun z1 => [some (.ref (ad p1)), some (.int y1), some (.int z1), some (.int y3)]) dX3_kept_14 (i := 2) rfl (by decide) rfl (fun _ => rfl) h (fun z1 h => ?_)
        refine p_iinc C (y := (y3 + 1)) (fun z2 => [some (.ref (ad p1)), some (.int y1), some (.int z1), some (.int z2)]) dX3_kept_15 rfl rfl (by decide) rfl (fun _ => rfl) h (fun z2 h => ?_)
        refine a_goto C dX3_kept_18 (tgt := 4) rfl ?_
        exact ih _ _ _ _ h
  refine a_iconst C dX3_kept_0 (v := 0) rfl ?_
  refine a_istore_n C dX3_kept_1 (i := 2) rfl (by decide) rfl (vs1 := [some (.ref (ad p1)), some (.int x2), some (.int 0), none]) rfl ?_
  refine a_iconst C dX3_kept_2 (v := 0) rfl ?_
  refine a_istore_n C dX3_kept_3 (i := 3) rfl (by decide) rfl (vs1 := [some (.ref (ad p1)), some (.int x2), some (.int 0), some (.int 0)]) rfl ?_
  exact j4 _ _ _ _ _ h
set_option maxHeartbeats 4000000 in
set_option maxRecDepth 100000 in
theorem Z_X3_highest {l : Launch} {D : va_G} {ids : List Nat} {ad : Nat → Nat} {ca : Nat → ClassId} {σ : HS} {p1 : Nat} {x2 : Int32} {r0 : Int32} {s0 : HS} (hid : ∀ i, i < 277 → i ∈ ids) (hp1 : rowOK p1) (h : f_X3_highest p1 x2 σ = some (r0, s0)) : Ki l D ids ad ca yX3_highest cX3_highest 4 .int 1 21 [.ref (ad p1), .int x2] σ (fun r σ1 => r = r0 ∧ σ1 = s0) := by
  obtain ⟨R, hR⟩ : ∃ R, (r0, s0) = R := ⟨_, rfl⟩
  replace h := h.trans (congrArg some hR)
  refine Ki.of (by decide) (Nat.le_of_ble_eq_true rfl) 2 (fun Γ C Rt => ?_)
  show AW ids ad ca Γ 0 [some (.ref (ad p1)), some (.int x2), none, none] [] σ
  unfold f_X3_highest at h
  have j4 : ∀ (n : Nat) (y1 : Int32) (y2 : Int32) (y3 : Int32) (σ : HS), f_X3_highest_4 p1 n y1 y2 y3 σ = some R → AW ids ad ca Γ 4 [some (.ref (ad p1)), some (.int y1), some (.int y2), some (.int y3)] [] σ := by
    intro n
    induction n with
    | zero => intro y1 y2 y3 σ h; exact nn h
    | succ n ih =>
      intro y1 y2 y3 σ h
      have h : b_X3_highest_4 p1 (f_X3_highest_4 p1 n) y1 y2 y3 σ = some R := h
      unfold b_X3_highest_4 at h
      refine a_iload_n C dX3_highest_4 (i := 3) rfl rfl ?_
      refine a_iload_n C dX3_highest_5 (i := 1) rfl rfl ?_
      refine p_ic_ge C (X := y3.toInt) (Y := y1.toInt) rfl rfl dX3_highest_6 (tgt := 23) rfl h (fun h => ?_) (fun h => ?_)
      ·
        refine a_iload_n C dX3_highest_23 (i := 2) rfl rfl ?_
        exact a_iret Rt dX3_highest_24 rfl (ret_eq (h.trans (congrArg some hR.symm)))
      ·
        refine a_iload_n C dX3_highest_9 (i := 2) rfl rfl ?_
        refine a_aload_n C dX3_highest_10 (i := 0) rfl rfl ?_
        refine a_iload_n C dX3_highest_11 (i := 3) rfl rfl ?_
        refine p_iald C (i := p1) hp1 hid rfl dX3_highest_12 h (fun h => ?_)
        refine a_mmax C dX3_highest_13 mm_RX3_9 mm_max.1 mm_max.2.1 mm_max.2.2 (Nat.le_of_ble_eq_true rfl) (Nat.le_of_ble_eq_true rfl) ?_
        refine p_istore_n C (fun z1 => [some (.ref (ad p1)), some (.int y1), some (.int z1), some (.int y3)]) dX3_highest_16 (i := 2) rfl (by decide) rfl (fun _ => rfl) h (fun z1 h => ?_)
        refine p_iinc C (y := (y3 + 1)) (fun z2 => [some (.ref (ad p1)), some (.int y1), some (.int z1), some (.int z2)]) dX3_highest_17 rfl rfl (by decide) rfl (fun _ => rfl) h (fun z2 h => ?_)
        refine a_goto C dX3_highest_20 (tgt := 4) rfl ?_
        exact ih _ _ _ _ h
  refine a_iconst C dX3_highest_0 (v := 0) rfl ?_
  refine a_istore_n C dX3_highest_1 (i := 2) rfl (by decide) rfl (vs1 := [some (.ref (ad p1)), some (.int x2), some (.int 0), none]) rfl ?_
  refine a_iconst C dX3_highest_2 (v := 0) rfl ?_
  refine a_istore_n C dX3_highest_3 (i := 3) rfl (by decide) rfl (vs1 := [some (.ref (ad p1)), some (.int x2), some (.int 0), some (.int 0)]) rfl ?_
  exact j4 _ _ _ _ _ h
set_option maxHeartbeats 4000000 in
set_option maxRecDepth 100000 in
theorem Z_X3_turns {l : Launch} {D : va_G} {ids : List Nat} {ad : Nat → Nat} {ca : Nat → ClassId} {σ : HS} {p1 : Nat} {p2 : Nat} {x3 : Int32} {r0 : Int32} {s0 : HS} (hid : ∀ i, i < 277 → i ∈ ids) (hp1 : rowOK p1) (hp2 : rowOK p2) (h : f_X3_turns p1 p2 x3 σ = some (r0, s0)) : Ki l D ids ad ca yX3_turns cX3_turns 6 .int 0 0 [.ref (ad p1), .ref (ad p2), .int x3] σ (fun r σ1 => r = r0 ∧ σ1 = s0) := by
  obtain ⟨R, hR⟩ : ∃ R, (r0, s0) = R := ⟨_, rfl⟩
  replace h := h.trans (congrArg some hR)
  refine Ki.of (by decide) (Nat.le_of_ble_eq_true rfl) 3 (fun Γ C Rt => ?_)
  show AW ids ad ca Γ 0 [some (.ref (ad p1)), some (.ref (ad p2)), some (.int x3), none, none, none] [] σ
  unfold f_X3_turns at h
  have j44 : ∀ (k2 : Int32 → Int32 → HS → Option (Int32 × HS)) (hk2 : ∀ (y2 : Int32) (y3 : Int32) (σ : HS), k2 y2 y3 σ = some R → AW ids ad ca Γ 2 [some (.ref (ad p1)), some (.ref (ad p2)), some (.int y2), some (.int y3), none, none] [] σ) (k13 : Int32 → Int32 → Int32 → Int32 → HS → Option (Int32 × HS)) (hk13 : ∀ (y2 : Int32) (y3 : Int32) (y4 : Int32) (y5 : Int32) (σ : HS), k13 y2 y3 y4 y5 σ = some R → AW ids ad ca Γ 13 [some (.ref (ad p1)), some (.ref (ad p2)), some (.int y2), some (.int y3), some (.int y4), some (.int y5)] [] σ) (y2 : Int32) (y3 : Int32) (y5 : Int32) (v0 : Int32) (σ : HS), f_X3_turns_44 p1 p2 k2 k13 y2 y3 y5 v0 σ = some R → AW ids ad ca Γ 44 [some (.ref (ad p1)), some (.ref (ad p2)), some (.int y2), some (.int y3), none, some (.int y5)] [.int v0] σ := by
    intro k2 hk2 k13 hk13 y2 y3 y5 v0 σ h
    unfold f_X3_turns_44 at h
    refine a_istore C dX3_turns_44 (by decide) rfl (vs1 := [some (.ref (ad p1)), some (.ref (ad p2)), some (.int y2), some (.int y3), some (.int v0), some (.int y5)]) rfl ?_
    refine p_iinc C (y := (y5 + 1)) (fun z1 => [some (.ref (ad p1)), some (.ref (ad p2)), some (.int y2), some (.int y3), some (.int v0), some (.int z1)]) dX3_turns_46 rfl rfl (by decide) rfl (fun _ => rfl) h (fun z1 h => ?_)
    refine a_goto C dX3_turns_49 (tgt := 13) rfl ?_
    exact hk13 _ _ _ _ _ h
  have j43 : ∀ (k2 : Int32 → Int32 → HS → Option (Int32 × HS)) (hk2 : ∀ (y2 : Int32) (y3 : Int32) (σ : HS), k2 y2 y3 σ = some R → AW ids ad ca Γ 2 [some (.ref (ad p1)), some (.ref (ad p2)), some (.int y2), some (.int y3), none, none] [] σ) (k13 : Int32 → Int32 → Int32 → Int32 → HS → Option (Int32 × HS)) (hk13 : ∀ (y2 : Int32) (y3 : Int32) (y4 : Int32) (y5 : Int32) (σ : HS), k13 y2 y3 y4 y5 σ = some R → AW ids ad ca Γ 13 [some (.ref (ad p1)), some (.ref (ad p2)), some (.int y2), some (.int y3), some (.int y4), some (.int y5)] [] σ) (y2 : Int32) (y3 : Int32) (y5 : Int32) (σ : HS), f_X3_turns_43 p1 p2 k2 k13 y2 y3 y5 σ = some R → AW ids ad ca Γ 43 [some (.ref (ad p1)), some (.ref (ad p2)), some (.int y2), some (.int y3), none, some (.int y5)] [] σ := by
    intro k2 hk2 k13 hk13 y2 y3 y5 σ h
    unfold f_X3_turns_43 at h
    refine a_iconst C dX3_turns_43 (v := 0) rfl ?_
    exact j44 k2 hk2 k13 hk13 _ _ _ _ _ h
  have j13 : ∀ (k2 : Int32 → Int32 → HS → Option (Int32 × HS)) (hk2 : ∀ (y2 : Int32) (y3 : Int32) (σ : HS), k2 y2 y3 σ = some R → AW ids ad ca Γ 2 [some (.ref (ad p1)), some (.ref (ad p2)), some (.int y2), some (.int y3), none, none] [] σ) (n : Nat) (y2 : Int32) (y3 : Int32) (y4 : Int32) (y5 : Int32) (σ : HS), f_X3_turns_13 p1 p2 k2 n y2 y3 y4 y5 σ = some R → AW ids ad ca Γ 13 [some (.ref (ad p1)), some (.ref (ad p2)), some (.int y2), some (.int y3), some (.int y4), some (.int y5)] [] σ := by
    intro k2 hk2 n
    induction n with
    | zero => intro y2 y3 y4 y5 σ h; exact nn h
    | succ n ih =>
      intro y2 y3 y4 y5 σ h
      have h : b_X3_turns_13 p1 p2 k2 (f_X3_turns_13 p1 p2 k2 n) y2 y3 y4 y5 σ = some R := h
      unfold b_X3_turns_13 at h
      refine a_iload C dX3_turns_13 rfl ?_
      refine a_iload_n C dX3_turns_15 (i := 2) rfl rfl ?_
      refine p_ic_ge C (X := y5.toInt) (Y := y2.toInt) rfl rfl dX3_turns_16 (tgt := 52) rfl h (fun h => ?_) (fun h => ?_)
      ·
        refine a_iload C dX3_turns_52 rfl ?_
        refine p_if_eq C (X := y4.toInt) rfl dX3_turns_54 (tgt := 59) rfl h (fun h => ?_) (fun h => ?_)
        ·
          refine p_iinc C (y := (y3 + 1)) (fun z1 => [some (.ref (ad p1)), some (.ref (ad p2)), some (.int y2), some (.int z1), some (.int y4), some (.int y5)]) dX3_turns_59 rfl rfl (by decide) rfl (fun _ => rfl) h (fun z1 h => ?_)
          refine a_goto C dX3_turns_62 (tgt := 2) rfl ?_
          refine AW.sub (vs' := [some (.ref (ad p1)), some (.ref (ad p2)), some (.int y2), some (.int z1), none, none]) (lsub_of (by simp [lsubB])) ?_
          exact hk2 _ _ _ h
        ·
          refine a_iload_n C dX3_turns_57 (i := 3) rfl rfl ?_
          exact a_iret Rt dX3_turns_58 rfl (ret_eq (h.trans (congrArg some hR.symm)))
      ·
        refine a_iload C dX3_turns_19 rfl ?_
        refine p_if_eq C (X := y4.toInt) rfl dX3_turns_21 (tgt := 43) rfl h (fun h => ?_) (fun h => ?_)
        ·
          refine AW.sub (vs' := [some (.ref (ad p1)), some (.ref (ad p2)), some (.int y2), some (.int y3), none, some (.int y5)]) (lsub_of (by simp [lsubB])) ?_
          exact j43 k2 hk2 (f_X3_turns_13 p1 p2 k2 n) (fun y2 y3 y4 y5 σ h => ih y2 y3 y4 y5 σ h) _ _ _ _ h
        ·
          refine a_aload_n C dX3_turns_24 (i := 0) rfl rfl ?_
          refine a_iload C dX3_turns_25 rfl ?_
          refine a_iload_n C dX3_turns_27 (i := 3) rfl rfl ?_
          refine a_iadd C dX3_turns_28 ?_
          refine a_iload_n C dX3_turns_29 (i := 2) rfl rfl ?_
          refine p_irem C rfl dX3_turns_30 h (fun h => ?_)
          refine p_iald C (i := p1) hp1 hid rfl dX3_turns_31 h (fun h => ?_)
          refine a_aload_n C dX3_turns_32 (i := 1) rfl rfl ?_
          refine a_iload C dX3_turns_33 rfl ?_
          refine p_iald C (i := p2) hp2 hid rfl dX3_turns_35 h (fun h => ?_)
          refine p_ic_ne C (X := (σ.1 p1 ((y5 + y3) - (y5 + y3) / y2 * y2).toInt.toNat).toInt) (Y := (σ.1 p2 y5.toInt.toNat).toInt) rfl rfl dX3_turns_36 (tgt := 43) rfl h (fun h => ?_) (fun h => ?_)
          ·
            refine AW.sub (vs' := [some (.ref (ad p1)), some (.ref (ad p2)), some (.int y2), some (.int y3), none, some (.int y5)]) (lsub_of (by simp [lsubB])) ?_
            exact j43 k2 hk2 (f_X3_turns_13 p1 p2 k2 n) (fun y2 y3 y4 y5 σ h => ih y2 y3 y4 y5 σ h) _ _ _ _ h
          ·
            refine a_iconst C dX3_turns_39 (v := 1) rfl ?_
            refine a_goto C dX3_turns_40 (tgt := 44) rfl ?_
            refine AW.sub (vs' := [some (.ref (ad p1)), some (.ref (ad p2)), some (.int y2), some (.int y3), none, some (.int y5)]) (lsub_of (by simp [lsubB])) ?_
            exact j44 k2 hk2 (f_X3_turns_13 p1 p2 k2 n) (fun y2 y3 y4 y5 σ h => ih y2 y3 y4 y5 σ h) _ _ _ _ _ h
  have j2 : ∀ (n : Nat) (y2 : Int32) (y3 : Int32) (σ : HS), f_X3_turns_2 p1 p2 n y2 y3 σ = some R → AW ids ad ca Γ 2 [some (.ref (ad p1)), some (.ref (ad p2)), some (.int y2), some (.int y3), none, none] [] σ := by
    intro n
    induction n with
    | zero => intro y2 y3 σ h; exact nn h
    | succ n ih =>
      intro y2 y3 σ h
      have h : b_X3_turns_2 p1 p2 (f_X3_turns_2 p1 p2 n) y2 y3 σ = some R := h
      unfold b_X3_turns_2 at h
      refine a_iload_n C dX3_turns_2 (i := 3) rfl rfl ?_
      refine a_iload_n C dX3_turns_3 (i := 2) rfl rfl ?_
      refine p_ic_ge C (X := y3.toInt) (Y := y2.toInt) rfl rfl dX3_turns_4 (tgt := 65) rfl h (fun h => ?_) (fun h => ?_)
      ·
        refine a_bipush C dX3_turns_65 (v := (-2)) rfl ?_
        exact a_iret Rt dX3_turns_67 rfl (ret_eq (h.trans (congrArg some hR.symm)))
      ·
        refine a_iconst C dX3_turns_7 (v := 1) rfl ?_
        refine a_istore C dX3_turns_8 (by decide) rfl (vs1 := [some (.ref (ad p1)), some (.ref (ad p2)), some (.int y2), some (.int y3), some (.int 1), none]) rfl ?_
        refine a_iconst C dX3_turns_10 (v := 0) rfl ?_
        refine a_istore C dX3_turns_11 (by decide) rfl (vs1 := [some (.ref (ad p1)), some (.ref (ad p2)), some (.int y2), some (.int y3), some (.int 1), some (.int 0)]) rfl ?_
        exact j13 (f_X3_turns_2 p1 p2 n) (fun y2 y3 σ h => ih y2 y3 σ h) _ _ _ _ _ _ h
  refine a_iconst C dX3_turns_0 (v := 0) rfl ?_
  refine a_istore_n C dX3_turns_1 (i := 3) rfl (by decide) rfl (vs1 := [some (.ref (ad p1)), some (.ref (ad p2)), some (.int x3), some (.int 0), none, none]) rfl ?_
  exact j2 _ _ _ _ h
set_option maxHeartbeats 4000000 in
set_option maxRecDepth 100000 in
theorem Z_X3_rounds {l : Launch} {D : va_G} {ids : List Nat} {ad : Nat → Nat} {ca : Nat → ClassId} {σ : HS} {p1 : Nat} {x2 : Int32} {r0 : Int32} {s0 : HS} (hid : ∀ i, i < 277 → i ∈ ids) (hp1 : rowOK p1) (h : f_X3_rounds p1 x2 σ = some (r0, s0)) : Ki l D ids ad ca yX3_rounds cX3_rounds 7 .int 0 0 [.ref (ad p1), .int x2] σ (fun r σ1 => r = r0 ∧ σ1 = s0) := by
  obtain ⟨R, hR⟩ : ∃ R, (r0, s0) = R := ⟨_, rfl⟩
  replace h := h.trans (congrArg some hR)
  refine Ki.of (by decide) (Nat.le_of_ble_eq_true rfl) 5 (fun Γ C Rt => ?_)
  show AW ids ad ca Γ 0 [some (.ref (ad p1)), some (.int x2), none, none, none, none, none] [] σ
  unfold f_X3_rounds at h
  have j62 : ∀ (k7 : Int32 → Int32 → Int32 → Int32 → HS → Option (Int32 × HS)) (hk7 : ∀ (y1 : Int32) (y2 : Int32) (y3 : Int32) (y4 : Int32) (σ : HS), k7 y1 y2 y3 y4 σ = some R → AW ids ad ca Γ 7 [some (.ref (ad p1)), some (.int y1), some (.int y2), some (.int y3), some (.int y4), none, none] [] σ) (y1 : Int32) (y2 : Int32) (y3 : Int32) (y4 : Int32) (σ : HS), f_X3_rounds_62 p1 k7 y1 y2 y3 y4 σ = some R → AW ids ad ca Γ 62 [some (.ref (ad p1)), some (.int y1), some (.int y2), some (.int y3), some (.int y4), none, none] [] σ := by
    intro k7 hk7 y1 y2 y3 y4 σ h
    unfold f_X3_rounds_62 at h
    refine p_iinc C (y := (y4 + 1)) (fun z1 => [some (.ref (ad p1)), some (.int y1), some (.int y2), some (.int y3), some (.int z1), none, none]) dX3_rounds_62 rfl rfl (by decide) rfl (fun _ => rfl) h (fun z1 h => ?_)
    refine a_goto C dX3_rounds_65 (tgt := 7) rfl ?_
    exact hk7 _ _ _ _ _ h
  have j32 : ∀ (k7 : Int32 → Int32 → Int32 → Int32 → HS → Option (Int32 × HS)) (hk7 : ∀ (y1 : Int32) (y2 : Int32) (y3 : Int32) (y4 : Int32) (σ : HS), k7 y1 y2 y3 y4 σ = some R → AW ids ad ca Γ 7 [some (.ref (ad p1)), some (.int y1), some (.int y2), some (.int y3), some (.int y4), none, none] [] σ) (n : Nat) (y1 : Int32) (y2 : Int32) (y3 : Int32) (y4 : Int32) (y5 : Int32) (y6 : Int32) (σ : HS), f_X3_rounds_32 p1 k7 n y1 y2 y3 y4 y5 y6 σ = some R → AW ids ad ca Γ 32 [some (.ref (ad p1)), some (.int y1), some (.int y2), some (.int y3), some (.int y4), some (.int y5), some (.int y6)] [] σ := by
    intro k7 hk7 n
    induction n with
    | zero => intro y1 y2 y3 y4 y5 y6 σ h; exact nn h
    | succ n ih =>
      intro y1 y2 y3 y4 y5 y6 σ h
      have h : b_X3_rounds_32 p1 k7 (f_X3_rounds_32 p1 k7 n) y1 y2 y3 y4 y5 y6 σ = some R := h
      unfold b_X3_rounds_32 at h
      refine a_iload C dX3_rounds_32 rfl ?_
      refine a_iload_n C dX3_rounds_34 (i := 1) rfl rfl ?_
      refine p_ic_ge C (X := y6.toInt) (Y := y1.toInt) rfl rfl dX3_rounds_35 (tgt := 62) rfl h (fun h => ?_) (fun h => ?_)
      ·
        refine AW.sub (vs' := [some (.ref (ad p1)), some (.int y1), some (.int y2), some (.int y3), some (.int y4), none, none]) (lsub_of (by simp [lsubB])) ?_
        exact j62 k7 hk7 _ _ _ _ _ h
      ·
        refine a_iload_n C dX3_rounds_38 (i := 2) rfl rfl ?_
        refine a_iconst C dX3_rounds_39 (v := 1) rfl ?_
        refine a_iload C dX3_rounds_40 rfl ?_
        refine a_ishl C dX3_rounds_42 ?_
        refine a_ior C dX3_rounds_43 ?_
        refine p_istore_n C (fun z1 => [some (.ref (ad p1)), some (.int y1), some (.int z1), some (.int y3), some (.int y4), some (.int y5), some (.int y6)]) dX3_rounds_44 (i := 2) rfl (by decide) rfl (fun _ => rfl) h (fun z1 h => ?_)
        refine a_iload C dX3_rounds_45 rfl ?_
        refine a_aload_n C dX3_rounds_47 (i := 0) rfl rfl ?_
        refine a_iload C dX3_rounds_48 rfl ?_
        refine p_iald C (i := p1) hp1 hid rfl dX3_rounds_50 h (fun h => ?_)
        refine a_iadd C dX3_rounds_51 ?_
        refine a_iload_n C dX3_rounds_52 (i := 1) rfl rfl ?_
        refine p_irem C rfl dX3_rounds_53 h (fun h => ?_)
        refine p_istore C (fun z2 => [some (.ref (ad p1)), some (.int y1), some (.int z1), some (.int y3), some (.int y4), some (.int z2), some (.int y6)]) dX3_rounds_54 (by decide) rfl (fun _ => rfl) h (fun z2 h => ?_)
        refine p_iinc C (y := (y6 + 1)) (fun z3 => [some (.ref (ad p1)), some (.int y1), some (.int z1), some (.int y3), some (.int y4), some (.int z2), some (.int z3)]) dX3_rounds_56 rfl rfl (by decide) rfl (fun _ => rfl) h (fun z3 h => ?_)
        refine a_goto C dX3_rounds_59 (tgt := 32) rfl ?_
        exact ih _ _ _ _ _ _ _ h
  have j7 : ∀ (n : Nat) (y1 : Int32) (y2 : Int32) (y3 : Int32) (y4 : Int32) (σ : HS), f_X3_rounds_7 p1 n y1 y2 y3 y4 σ = some R → AW ids ad ca Γ 7 [some (.ref (ad p1)), some (.int y1), some (.int y2), some (.int y3), some (.int y4), none, none] [] σ := by
    intro n
    induction n with
    | zero => intro y1 y2 y3 y4 σ h; exact nn h
    | succ n ih =>
      intro y1 y2 y3 y4 σ h
      have h : b_X3_rounds_7 p1 (f_X3_rounds_7 p1 n) y1 y2 y3 y4 σ = some R := h
      unfold b_X3_rounds_7 at h
      refine a_iload C dX3_rounds_7 rfl ?_
      refine a_iload_n C dX3_rounds_9 (i := 1) rfl rfl ?_
      refine p_ic_ge C (X := y4.toInt) (Y := y1.toInt) rfl rfl dX3_rounds_10 (tgt := 68) rfl h (fun h => ?_) (fun h => ?_)
      ·
        refine a_iload_n C dX3_rounds_68 (i := 3) rfl rfl ?_
        exact a_iret Rt dX3_rounds_69 rfl (ret_eq (h.trans (congrArg some hR.symm)))
      ·
        refine a_iload_n C dX3_rounds_13 (i := 2) rfl rfl ?_
        refine a_iload C dX3_rounds_14 rfl ?_
        refine a_ishr C dX3_rounds_16 ?_
        refine a_iconst C dX3_rounds_17 (v := 1) rfl ?_
        refine a_iand C dX3_rounds_18 ?_
        refine p_if_ne C (X := ((y2 >>> (y4 &&& 31)) &&& (1 : Int32)).toInt) rfl dX3_rounds_19 (tgt := 62) rfl h (fun h => ?_) (fun h => ?_)
        ·
          exact j62 (f_X3_rounds_7 p1 n) (fun y1 y2 y3 y4 σ h => ih y1 y2 y3 y4 σ h) _ _ _ _ _ h
        ·
          refine p_iinc C (y := (y3 + 1)) (fun z1 => [some (.ref (ad p1)), some (.int y1), some (.int y2), some (.int z1), some (.int y4), none, none]) dX3_rounds_22 rfl rfl (by decide) rfl (fun _ => rfl) h (fun z1 h => ?_)
          refine a_iload C dX3_rounds_25 rfl ?_
          refine a_istore C dX3_rounds_27 (by decide) rfl (vs1 := [some (.ref (ad p1)), some (.int y1), some (.int y2), some (.int z1), some (.int y4), some (.int y4), none]) rfl ?_
          refine a_iconst C dX3_rounds_29 (v := 0) rfl ?_
          refine a_istore C dX3_rounds_30 (by decide) rfl (vs1 := [some (.ref (ad p1)), some (.int y1), some (.int y2), some (.int z1), some (.int y4), some (.int y4), some (.int 0)]) rfl ?_
          exact j32 (f_X3_rounds_7 p1 n) (fun y1 y2 y3 y4 σ h => ih y1 y2 y3 y4 σ h) _ _ _ _ _ _ _ _ h
  refine a_iconst C dX3_rounds_0 (v := 0) rfl ?_
  refine a_istore_n C dX3_rounds_1 (i := 2) rfl (by decide) rfl (vs1 := [some (.ref (ad p1)), some (.int x2), some (.int 0), none, none, none, none]) rfl ?_
  refine a_iconst C dX3_rounds_2 (v := 0) rfl ?_
  refine a_istore_n C dX3_rounds_3 (i := 3) rfl (by decide) rfl (vs1 := [some (.ref (ad p1)), some (.int x2), some (.int 0), some (.int 0), none, none, none]) rfl ?_
  refine a_iconst C dX3_rounds_4 (v := 0) rfl ?_
  refine a_istore C dX3_rounds_5 (by decide) rfl (vs1 := [some (.ref (ad p1)), some (.int x2), some (.int 0), some (.int 0), some (.int 0), none, none]) rfl ?_
  exact j7 _ _ _ _ _ _ h
set_option maxHeartbeats 4000000 in
set_option maxRecDepth 100000 in
theorem Z_X11_isHeight {l : Launch} {D : va_G} {ids : List Nat} {ad : Nat → Nat} {ca : Nat → ClassId} {σ : HS} {x1 : Int32} {r0 : Int32} {s0 : HS} (hid : ∀ i, i < 277 → i ∈ ids) (h : f_X11_isHeight x1 σ = some (r0, s0)) : Ki l D ids ad ca yX11_isHeight cX11_isHeight 1 .boolean 0 0 [.int x1] σ (fun r σ1 => r = r0 ∧ σ1 = s0) := by
  obtain ⟨R, hR⟩ : ∃ R, (r0, s0) = R := ⟨_, rfl⟩
  replace h := h.trans (congrArg some hR)
  refine Ki.of (by decide) (Nat.le_of_ble_eq_true rfl) 0 (fun Γ C Rt => ?_)
  show AW ids ad ca Γ 0 [some (.int x1)] [] σ
  unfold f_X11_isHeight at h
  refine a_iload_n C dX11_isHeight_0 (i := 0) rfl rfl ?_
  refine p_if_lt C (X := x1.toInt) rfl dX11_isHeight_1 (tgt := 14) rfl h (fun h => ?_) (fun h => ?_)
  ·
    refine a_iconst C dX11_isHeight_14 (v := 0) rfl ?_
    exact a_iret Rt dX11_isHeight_15 (nar_z (by decide)).1 (ret_eq (h.trans (congrArg some hR.symm)))
  ·
    refine a_iload_n C dX11_isHeight_4 (i := 0) rfl rfl ?_
    refine a_bipush C dX11_isHeight_5 (v := 9) rfl ?_
    refine p_ic_gt C (X := x1.toInt) (Y := 9) rfl (by decide) dX11_isHeight_7 (tgt := 14) rfl h (fun h => ?_) (fun h => ?_)
    ·
      refine a_iconst C dX11_isHeight_14 (v := 0) rfl ?_
      exact a_iret Rt dX11_isHeight_15 (nar_z (by decide)).1 (ret_eq (h.trans (congrArg some hR.symm)))
    ·
      refine a_iconst C dX11_isHeight_10 (v := 1) rfl ?_
      refine a_goto C dX11_isHeight_11 (tgt := 15) rfl ?_
      exact a_iret Rt dX11_isHeight_15 (nar_z (by decide)).1 (ret_eq (h.trans (congrArg some hR.symm)))
set_option maxHeartbeats 4000000 in
set_option maxRecDepth 100000 in
theorem Z_X3_pairsToSwap {l : Launch} {D : va_G} {ids : List Nat} {ad : Nat → Nat} {ca : Nat → ClassId} {σ : HS} {p1 : Nat} {x2 : Int32} {r0 : Int32} {s0 : HS} (hid : ∀ i, i < 277 → i ∈ ids) (hp1 : rowOK p1) (h : f_X3_pairsToSwap p1 x2 σ = some (r0, s0)) : Ki l D ids ad ca yX3_pairsToSwap cX3_pairsToSwap 5 .int 1 20 [.ref (ad p1), .int x2] σ (fun r σ1 => r = r0 ∧ σ1 = s0) := by
  obtain ⟨R, hR⟩ : ∃ R, (r0, s0) = R := ⟨_, rfl⟩
  replace h := h.trans (congrArg some hR)
  refine Ki.of (by decide) (Nat.le_of_ble_eq_true rfl) 3 (fun Γ C Rt => ?_)
  show AW ids ad ca Γ 0 [some (.ref (ad p1)), some (.int x2), none, none, none] [] σ
  unfold f_X3_pairsToSwap at h
  have j50 : ∀ (k4 : Int32 → Int32 → Int32 → HS → Option (Int32 × HS)) (hk4 : ∀ (y1 : Int32) (y2 : Int32) (y3 : Int32) (σ : HS), k4 y1 y2 y3 σ = some R → AW ids ad ca Γ 4 [some (.ref (ad p1)), some (.int y1), some (.int y2), some (.int y3), none] [] σ) (k12 : Int32 → Int32 → Int32 → Int32 → HS → Option (Int32 × HS)) (hk12 : ∀ (y1 : Int32) (y2 : Int32) (y3 : Int32) (y4 : Int32) (σ : HS), k12 y1 y2 y3 y4 σ = some R → AW ids ad ca Γ 12 [some (.ref (ad p1)), some (.int y1), some (.int y2), some (.int y3), some (.int y4)] [] σ) (y1 : Int32) (y2 : Int32) (y3 : Int32) (y4 : Int32) (σ : HS), f_X3_pairsToSwap_50 p1 k4 k12 y1 y2 y3 y4 σ = some R → AW ids ad ca Γ 50 [some (.ref (ad p1)), some (.int y1), some (.int y2), some (.int y3), some (.int y4)] [] σ := by
    intro k4 hk4 k12 hk12 y1 y2 y3 y4 σ h
    unfold f_X3_pairsToSwap_50 at h
    refine p_iinc C (y := (y4 + 1)) (fun z1 => [some (.ref (ad p1)), some (.int y1), some (.int y2), some (.int y3), some (.int z1)]) dX3_pairsToSwap_50 rfl rfl (by decide) rfl (fun _ => rfl) h (fun z1 h => ?_)
    refine a_goto C dX3_pairsToSwap_53 (tgt := 12) rfl ?_
    exact hk12 _ _ _ _ _ h
  have j12 : ∀ (k4 : Int32 → Int32 → Int32 → HS → Option (Int32 × HS)) (hk4 : ∀ (y1 : Int32) (y2 : Int32) (y3 : Int32) (σ : HS), k4 y1 y2 y3 σ = some R → AW ids ad ca Γ 4 [some (.ref (ad p1)), some (.int y1), some (.int y2), some (.int y3), none] [] σ) (n : Nat) (y1 : Int32) (y2 : Int32) (y3 : Int32) (y4 : Int32) (σ : HS), f_X3_pairsToSwap_12 p1 k4 n y1 y2 y3 y4 σ = some R → AW ids ad ca Γ 12 [some (.ref (ad p1)), some (.int y1), some (.int y2), some (.int y3), some (.int y4)] [] σ := by
    intro k4 hk4 n
    induction n with
    | zero => intro y1 y2 y3 y4 σ h; exact nn h
    | succ n ih =>
      intro y1 y2 y3 y4 σ h
      have h : b_X3_pairsToSwap_12 p1 k4 (f_X3_pairsToSwap_12 p1 k4 n) y1 y2 y3 y4 σ = some R := h
      unfold b_X3_pairsToSwap_12 at h
      refine a_iload C dX3_pairsToSwap_12 rfl ?_
      refine a_iload_n C dX3_pairsToSwap_14 (i := 3) rfl rfl ?_
      refine p_ic_ge C (X := y4.toInt) (Y := y3.toInt) rfl rfl dX3_pairsToSwap_15 (tgt := 56) rfl h (fun h => ?_) (fun h => ?_)
      ·
        refine p_iinc C (y := (y3 + 1)) (fun z1 => [some (.ref (ad p1)), some (.int y1), some (.int y2), some (.int z1), some (.int y4)]) dX3_pairsToSwap_56 rfl rfl (by decide) rfl (fun _ => rfl) h (fun z1 h => ?_)
        refine a_goto C dX3_pairsToSwap_59 (tgt := 4) rfl ?_
        refine AW.sub (vs' := [some (.ref (ad p1)), some (.int y1), some (.int y2), some (.int z1), none]) (lsub_of (by simp [lsubB])) ?_
        exact hk4 _ _ _ _ h
      ·
        refine a_aload_n C dX3_pairsToSwap_18 (i := 0) rfl rfl ?_
        refine a_iload_n C dX3_pairsToSwap_19 (i := 3) rfl rfl ?_
        refine p_iald C (i := p1) hp1 hid rfl dX3_pairsToSwap_20 h (fun h => ?_)
        refine a_iload_n C dX3_pairsToSwap_21 (i := 3) rfl rfl ?_
        refine a_iadd C dX3_pairsToSwap_22 ?_
        refine a_iload C dX3_pairsToSwap_23 rfl ?_
        refine a_isub C dX3_pairsToSwap_25 ?_
        refine p_callSNi C (As := [.int (((σ.1 p1 y3.toInt.toNat) + y3) - y4)]) h (fun _ _ e => Z_X11_isHeight hid e) ms_X11_isHeight (host := "StateJuggler") (by decide +kernel) rfl rfl (Nat.le_of_ble_eq_true rfl) (Nat.le_of_ble_eq_true rfl) (Nat.le_of_ble_eq_true rfl) dX3_pairsToSwap_26 (fun r3 σ2 h => ?_)
        refine p_if_eq C (X := r3.toInt) rfl dX3_pairsToSwap_29 (tgt := 50) rfl h (fun h => ?_) (fun h => ?_)
        ·
          exact j50 k4 hk4 (f_X3_pairsToSwap_12 p1 k4 n) (fun y1 y2 y3 y4 σ h => ih y1 y2 y3 y4 σ h) _ _ _ _ _ h
        ·
          refine a_aload_n C dX3_pairsToSwap_32 (i := 0) rfl rfl ?_
          refine a_iload C dX3_pairsToSwap_33 rfl ?_
          refine p_iald C (i := p1) hp1 hid rfl dX3_pairsToSwap_35 h (fun h => ?_)
          refine a_iload_n C dX3_pairsToSwap_36 (i := 3) rfl rfl ?_
          refine a_iload C dX3_pairsToSwap_37 rfl ?_
          refine a_isub C dX3_pairsToSwap_39 ?_
          refine a_isub C dX3_pairsToSwap_40 ?_
          refine p_callSNi C (As := [.int ((σ2.1 p1 y4.toInt.toNat) - (y3 - y4))]) h (fun _ _ e => Z_X11_isHeight hid e) ms_X11_isHeight (host := "StateJuggler") (by decide +kernel) rfl rfl (Nat.le_of_ble_eq_true rfl) (Nat.le_of_ble_eq_true rfl) (Nat.le_of_ble_eq_true rfl) dX3_pairsToSwap_41 (fun r5 σ4 h => ?_)
          refine p_if_eq C (X := r5.toInt) rfl dX3_pairsToSwap_44 (tgt := 50) rfl h (fun h => ?_) (fun h => ?_)
          ·
            exact j50 k4 hk4 (f_X3_pairsToSwap_12 p1 k4 n) (fun y1 y2 y3 y4 σ h => ih y1 y2 y3 y4 σ h) _ _ _ _ _ h
          ·
            refine p_iinc C (y := (y2 + 1)) (fun z6 => [some (.ref (ad p1)), some (.int y1), some (.int z6), some (.int y3), some (.int y4)]) dX3_pairsToSwap_47 rfl rfl (by decide) rfl (fun _ => rfl) h (fun z6 h => ?_)
            exact j50 k4 hk4 (f_X3_pairsToSwap_12 p1 k4 n) (fun y1 y2 y3 y4 σ h => ih y1 y2 y3 y4 σ h) _ _ _ _ _ h
  have j4 : ∀ (n : Nat) (y1 : Int32) (y2 : Int32) (y3 : Int32) (σ : HS), f_X3_pairsToSwap_4 p1 n y1 y2 y3 σ = some R → AW ids ad ca Γ 4 [some (.ref (ad p1)), some (.int y1), some (.int y2), some (.int y3), none] [] σ := by
    intro n
    induction n with
    | zero => intro y1 y2 y3 σ h; exact nn h
    | succ n ih =>
      intro y1 y2 y3 σ h
      have h : b_X3_pairsToSwap_4 p1 (f_X3_pairsToSwap_4 p1 n) y1 y2 y3 σ = some R := h
      unfold b_X3_pairsToSwap_4 at h
      refine a_iload_n C dX3_pairsToSwap_4 (i := 3) rfl rfl ?_
      refine a_iload_n C dX3_pairsToSwap_5 (i := 1) rfl rfl ?_
      refine p_ic_ge C (X := y3.toInt) (Y := y1.toInt) rfl rfl dX3_pairsToSwap_6 (tgt := 62) rfl h (fun h => ?_) (fun h => ?_)
      ·
        refine a_iload_n C dX3_pairsToSwap_62 (i := 2) rfl rfl ?_
        exact a_iret Rt dX3_pairsToSwap_63 rfl (ret_eq (h.trans (congrArg some hR.symm)))
      ·
        refine a_iconst C dX3_pairsToSwap_9 (v := 0) rfl ?_
        refine a_istore C dX3_pairsToSwap_10 (by decide) rfl (vs1 := [some (.ref (ad p1)), some (.int y1), some (.int y2), some (.int y3), some (.int 0)]) rfl ?_
        exact j12 (f_X3_pairsToSwap_4 p1 n) (fun y1 y2 y3 σ h => ih y1 y2 y3 σ h) _ _ _ _ _ _ h
  refine a_iconst C dX3_pairsToSwap_0 (v := 0) rfl ?_
  refine a_istore_n C dX3_pairsToSwap_1 (i := 2) rfl (by decide) rfl (vs1 := [some (.ref (ad p1)), some (.int x2), some (.int 0), none, none]) rfl ?_
  refine a_iconst C dX3_pairsToSwap_2 (v := 1) rfl ?_
  refine a_istore_n C dX3_pairsToSwap_3 (i := 3) rfl (by decide) rfl (vs1 := [some (.ref (ad p1)), some (.int x2), some (.int 0), some (.int 1), none]) rfl ?_
  exact j4 _ _ _ _ _ h
set_option maxHeartbeats 4000000 in
set_option maxRecDepth 100000 in
theorem Z_X3_landingBits {l : Launch} {D : va_G} {ids : List Nat} {ad : Nat → Nat} {ca : Nat → ClassId} {σ : HS} {p1 : Nat} {x2 : Int32} {r0 : Int32} {s0 : HS} (hid : ∀ i, i < 277 → i ∈ ids) (hp1 : rowOK p1) (h : f_X3_landingBits p1 x2 σ = some (r0, s0)) : Ki l D ids ad ca yX3_landingBits cX3_landingBits 5 .int 1 22 [.ref (ad p1), .int x2] σ (fun r σ1 => r = r0 ∧ σ1 = s0) := by
  obtain ⟨R, hR⟩ : ∃ R, (r0, s0) = R := ⟨_, rfl⟩
  replace h := h.trans (congrArg some hR)
  refine Ki.of (by decide) (Nat.le_of_ble_eq_true rfl) 3 (fun Γ C Rt => ?_)
  show AW ids ad ca Γ 0 [some (.ref (ad p1)), some (.int x2), none, none, none] [] σ
  unfold f_X3_landingBits at h
  have j38 : ∀ (k4 : Int32 → Int32 → Int32 → HS → Option (Int32 × HS)) (hk4 : ∀ (y1 : Int32) (y2 : Int32) (y3 : Int32) (σ : HS), k4 y1 y2 y3 σ = some R → AW ids ad ca Γ 4 [some (.ref (ad p1)), some (.int y1), some (.int y2), some (.int y3), none] [] σ) (y1 : Int32) (y2 : Int32) (y3 : Int32) (σ : HS), f_X3_landingBits_38 p1 k4 y1 y2 y3 σ = some R → AW ids ad ca Γ 38 [some (.ref (ad p1)), some (.int y1), some (.int y2), some (.int y3), none] [] σ := by
    intro k4 hk4 y1 y2 y3 σ h
    unfold f_X3_landingBits_38 at h
    refine p_iinc C (y := (y3 + 1)) (fun z1 => [some (.ref (ad p1)), some (.int y1), some (.int y2), some (.int z1), none]) dX3_landingBits_38 rfl rfl (by decide) rfl (fun _ => rfl) h (fun z1 h => ?_)
    refine a_goto C dX3_landingBits_41 (tgt := 4) rfl ?_
    exact hk4 _ _ _ _ h
  have j4 : ∀ (n : Nat) (y1 : Int32) (y2 : Int32) (y3 : Int32) (σ : HS), f_X3_landingBits_4 p1 n y1 y2 y3 σ = some R → AW ids ad ca Γ 4 [some (.ref (ad p1)), some (.int y1), some (.int y2), some (.int y3), none] [] σ := by
    intro n
    induction n with
    | zero => intro y1 y2 y3 σ h; exact nn h
    | succ n ih =>
      intro y1 y2 y3 σ h
      have h : b_X3_landingBits_4 p1 (f_X3_landingBits_4 p1 n) y1 y2 y3 σ = some R := h
      unfold b_X3_landingBits_4 at h
      refine a_iload_n C dX3_landingBits_4 (i := 3) rfl rfl ?_
      refine a_bipush C dX3_landingBits_5 (v := 9) rfl ?_
      refine p_ic_gt C (X := y3.toInt) (Y := 9) rfl (by decide) dX3_landingBits_7 (tgt := 44) rfl h (fun h => ?_) (fun h => ?_)
      ·
        refine a_iload_n C dX3_landingBits_44 (i := 2) rfl rfl ?_
        exact a_iret Rt dX3_landingBits_45 rfl (ret_eq (h.trans (congrArg some hR.symm)))
      ·
        refine a_iload_n C dX3_landingBits_10 (i := 1) rfl rfl ?_
        refine p_if_le C (X := y1.toInt) rfl dX3_landingBits_11 (tgt := 44) rfl h (fun h => ?_) (fun h => ?_)
        ·
          refine a_iload_n C dX3_landingBits_44 (i := 2) rfl rfl ?_
          exact a_iret Rt dX3_landingBits_45 rfl (ret_eq (h.trans (congrArg some hR.symm)))
        ·
          refine a_aload_n C dX3_landingBits_14 (i := 0) rfl rfl ?_
          refine a_iload_n C dX3_landingBits_15 (i := 3) rfl rfl ?_
          refine a_ineg C dX3_landingBits_16 ?_
          refine a_iload_n C dX3_landingBits_17 (i := 1) rfl rfl ?_
          refine p_callSi C (As := [.int (-y3), .int y1]) h (fun _ _ e => Z_J9_floorMod_7cf53 hid e) ms_J9_floorMod_7cf53 ml_RX3_19 rfl rfl (Nat.le_of_ble_eq_true rfl) (Nat.le_of_ble_eq_true rfl) (Nat.le_of_ble_eq_true rfl) dX3_landingBits_18 (fun r2 σ1 h => ?_)
          refine p_iald C (i := p1) hp1 hid rfl dX3_landingBits_21 h (fun h => ?_)
          refine a_iload_n C dX3_landingBits_22 (i := 3) rfl rfl ?_
          refine a_isub C dX3_landingBits_23 ?_
          refine p_istore C (fun z3 => [some (.ref (ad p1)), some (.int y1), some (.int y2), some (.int y3), some (.int z3)]) dX3_landingBits_24 (by decide) rfl (fun _ => rfl) h (fun z3 h => ?_)
          refine a_iload C dX3_landingBits_26 rfl ?_
          refine p_if_lt C (X := z3.toInt) rfl dX3_landingBits_28 (tgt := 38) rfl h (fun h => ?_) (fun h => ?_)
          ·
            refine AW.sub (vs' := [some (.ref (ad p1)), some (.int y1), some (.int y2), some (.int y3), none]) (lsub_of (by simp [lsubB])) ?_
            exact j38 (f_X3_landingBits_4 p1 n) (fun y1 y2 y3 σ h => ih y1 y2 y3 σ h) _ _ _ _ h
          ·
            refine a_iload_n C dX3_landingBits_31 (i := 2) rfl rfl ?_
            refine a_iconst C dX3_landingBits_32 (v := 1) rfl ?_
            refine a_iload C dX3_landingBits_33 rfl ?_
            refine a_ishl C dX3_landingBits_35 ?_
            refine a_ior C dX3_landingBits_36 ?_
            refine p_istore_n C (fun z4 => [some (.ref (ad p1)), some (.int y1), some (.int z4), some (.int y3), some (.int z3)]) dX3_landingBits_37 (i := 2) rfl (by decide) rfl (fun _ => rfl) h (fun z4 h => ?_)
            refine AW.sub (vs' := [some (.ref (ad p1)), some (.int y1), some (.int z4), some (.int y3), none]) (lsub_of (by simp [lsubB])) ?_
            exact j38 (f_X3_landingBits_4 p1 n) (fun y1 y2 y3 σ h => ih y1 y2 y3 σ h) _ _ _ _ h
  refine a_iconst C dX3_landingBits_0 (v := 0) rfl ?_
  refine a_istore_n C dX3_landingBits_1 (i := 2) rfl (by decide) rfl (vs1 := [some (.ref (ad p1)), some (.int x2), some (.int 0), none, none]) rfl ?_
  refine a_iconst C dX3_landingBits_2 (v := 1) rfl ?_
  refine a_istore_n C dX3_landingBits_3 (i := 3) rfl (by decide) rfl (vs1 := [some (.ref (ad p1)), some (.int x2), some (.int 0), some (.int 1), none]) rfl ?_
  exact j4 _ _ _ _ _ h
set_option maxHeartbeats 4000000 in
set_option maxRecDepth 100000 in
theorem Z_X4_lookAt {l : Launch} {D : va_G} {ids : List Nat} {ad : Nat → Nat} {ca : Nat → ClassId} {σ : HS} {p1 : Nat} {p2 : Nat} {x3 : Int32} {x4 : Int32} {s0 : HS} (hid : ∀ i, i < 277 → i ∈ ids) (hp1 : txtOK p1) (hp2 : airOK p2) (h : f_X4_lookAt p1 p2 x3 x4 σ = some s0) : Kv l D ids ad ca yX4_lookAt cX4_lookAt 5 0 0 [.ref (ad 8), .ref (ad p1), .ref (ad p2), .int x3, .int x4] σ (fun σ1 => σ1 = s0) := by
  obtain ⟨R, hR⟩ : ∃ R, s0 = R := ⟨_, rfl⟩
  replace h := h.trans (congrArg some hR)
  refine Kv.of (by decide) (Nat.le_of_ble_eq_true rfl) 0 (fun Γ C Rt => ?_)
  show AW ids ad ca Γ 0 [some (.ref (ad 8)), some (.ref (ad p1)), some (.ref (ad p2)), some (.int x3), some (.int x4)] [] σ
  unfold f_X4_lookAt at h
  refine a_aload_n C dX4_lookAt_0 (i := 0) rfl rfl ?_
  refine a_get C fl_RX4_12 (i := 8) kd_8 (hid 8 (by decide)) (v := .ref (ad 9)) rfl dX4_lookAt_1 ?_
  refine a_get C fl_RX4_107 (i := 9) kd_9 (hid 9 (by decide)) (v := .ref (ad 10)) rfl dX4_lookAt_4 ?_
  refine a_iconst C dX4_lookAt_7 (v := 0) rfl ?_
  refine a_aload_n C dX4_lookAt_8 (i := 1) rfl rfl ?_
  refine a_get C fl_RX4_110 (i := p1) hp1.1.1 (hid _ hp1.1.2) (v := .ref (ad (p1 + 1))) rfl dX4_lookAt_9 ?_
  refine a_iload_n C dX4_lookAt_12 (i := 3) rfl rfl ?_
  refine p_iald C (i := (p1 + 1)) hp1.2.1.1 hid (by rw [hp1.2.1.2]; rfl) dX4_lookAt_13 h (fun h => ?_)
  refine p_iastc C (i := 10) 0 (show rowOK 10 from ⟨kd_10, by decide⟩) hid (by decide) (by rw [al_10]; decide) dX4_lookAt_14 h (fun σ1 h => ?_)
  refine a_aload_n C dX4_lookAt_15 (i := 0) rfl rfl ?_
  refine a_get C fl_RX4_12 (i := 8) kd_8 (hid 8 (by decide)) (v := .ref (ad 9)) rfl dX4_lookAt_16 ?_
  refine a_get C fl_RX4_107 (i := 9) kd_9 (hid 9 (by decide)) (v := .ref (ad 10)) rfl dX4_lookAt_19 ?_
  refine a_iconst C dX4_lookAt_22 (v := 1) rfl ?_
  refine a_aload_n C dX4_lookAt_23 (i := 1) rfl rfl ?_
  refine a_get C fl_RX4_113 (i := p1) hp1.1.1 (hid _ hp1.1.2) (v := .ref (ad (p1 + 2))) rfl dX4_lookAt_24 ?_
  refine a_iload_n C dX4_lookAt_27 (i := 3) rfl rfl ?_
  refine p_iald C (i := (p1 + 2)) hp1.2.2.1.1 hid (by rw [hp1.2.2.1.2]; rfl) dX4_lookAt_28 h (fun h => ?_)
  refine p_iastc C (i := 10) 1 (show rowOK 10 from ⟨kd_10, by decide⟩) hid (by decide) (by rw [al_10]; decide) dX4_lookAt_29 h (fun σ2 h => ?_)
  refine a_aload_n C dX4_lookAt_30 (i := 0) rfl rfl ?_
  refine a_get C fl_RX4_12 (i := 8) kd_8 (hid 8 (by decide)) (v := .ref (ad 9)) rfl dX4_lookAt_31 ?_
  refine a_get C fl_RX4_107 (i := 9) kd_9 (hid 9 (by decide)) (v := .ref (ad 10)) rfl dX4_lookAt_34 ?_
  refine a_iconst C dX4_lookAt_37 (v := 3) rfl ?_
  refine a_aload_n C dX4_lookAt_38 (i := 2) rfl rfl ?_
  refine a_get C fl_RX4_78 (i := p2) hp2.1.1 (hid _ hp2.1.2) (v := .int (σ2.1 p2 4)) rfl dX4_lookAt_39 ?_
  refine p_iastc C (i := 10) 3 (show rowOK 10 from ⟨kd_10, by decide⟩) hid (by decide) (by rw [al_10]; decide) dX4_lookAt_42 h (fun σ3 h => ?_)
  refine a_aload_n C dX4_lookAt_43 (i := 0) rfl rfl ?_
  refine a_get C fl_RX4_12 (i := 8) kd_8 (hid 8 (by decide)) (v := .ref (ad 9)) rfl dX4_lookAt_44 ?_
  refine a_get C fl_RX4_107 (i := 9) kd_9 (hid 9 (by decide)) (v := .ref (ad 10)) rfl dX4_lookAt_47 ?_
  refine a_iconst C dX4_lookAt_50 (v := 4) rfl ?_
  refine a_aload_n C dX4_lookAt_51 (i := 2) rfl rfl ?_
  refine a_get C fl_RX4_42 (i := p2) hp2.1.1 (hid _ hp2.1.2) (v := .int (σ3.1 p2 5)) rfl dX4_lookAt_52 ?_
  refine p_iastc C (i := 10) 4 (show rowOK 10 from ⟨kd_10, by decide⟩) hid (by decide) (by rw [al_10]; decide) dX4_lookAt_55 h (fun σ4 h => ?_)
  refine a_aload_n C dX4_lookAt_56 (i := 0) rfl rfl ?_
  refine a_get C fl_RX4_12 (i := 8) kd_8 (hid 8 (by decide)) (v := .ref (ad 9)) rfl dX4_lookAt_57 ?_
  refine a_get C fl_RX4_107 (i := 9) kd_9 (hid 9 (by decide)) (v := .ref (ad 10)) rfl dX4_lookAt_60 ?_
  refine a_iconst C dX4_lookAt_63 (v := 5) rfl ?_
  refine a_iload C dX4_lookAt_64 rfl ?_
  refine p_iastc C (i := 10) 5 (show rowOK 10 from ⟨kd_10, by decide⟩) hid (by decide) (by rw [al_10]; decide) dX4_lookAt_66 h (fun σ5 h => ?_)
  refine a_aload_n C dX4_lookAt_67 (i := 0) rfl rfl ?_
  refine a_get C fl_RX4_12 (i := 8) kd_8 (hid 8 (by decide)) (v := .ref (ad 9)) rfl dX4_lookAt_68 ?_
  refine a_get C fl_RX4_107 (i := 9) kd_9 (hid 9 (by decide)) (v := .ref (ad 10)) rfl dX4_lookAt_71 ?_
  refine a_bipush C dX4_lookAt_74 (v := 6) rfl ?_
  refine a_iload_n C dX4_lookAt_76 (i := 3) rfl rfl ?_
  refine p_iastc C (i := 10) 6 (show rowOK 10 from ⟨kd_10, by decide⟩) hid (by decide) (by rw [al_10]; decide) dX4_lookAt_77 h (fun σ6 h => ?_)
  refine a_aload_n C dX4_lookAt_78 (i := 0) rfl rfl ?_
  refine a_get C fl_RX4_12 (i := 8) kd_8 (hid 8 (by decide)) (v := .ref (ad 9)) rfl dX4_lookAt_79 ?_
  refine a_get C fl_RX4_107 (i := 9) kd_9 (hid 9 (by decide)) (v := .ref (ad 10)) rfl dX4_lookAt_82 ?_
  refine a_bipush C dX4_lookAt_85 (v := 7) rfl ?_
  refine a_aload_n C dX4_lookAt_87 (i := 2) rfl rfl ?_
  refine a_get C fl_RX4_98 (i := p2) hp2.1.1 (hid _ hp2.1.2) (v := .int (σ6.1 p2 7)) rfl dX4_lookAt_88 ?_
  refine p_iastc C (i := 10) 7 (show rowOK 10 from ⟨kd_10, by decide⟩) hid (by decide) (by rw [al_10]; decide) dX4_lookAt_91 h (fun σ7 h => ?_)
  refine a_aload_n C dX4_lookAt_92 (i := 0) rfl rfl ?_
  refine a_get C fl_RX4_12 (i := 8) kd_8 (hid 8 (by decide)) (v := .ref (ad 9)) rfl dX4_lookAt_93 ?_
  refine a_get C fl_RX4_107 (i := 9) kd_9 (hid 9 (by decide)) (v := .ref (ad 10)) rfl dX4_lookAt_96 ?_
  refine a_bipush C dX4_lookAt_99 (v := 8) rfl ?_
  refine a_aload_n C dX4_lookAt_101 (i := 2) rfl rfl ?_
  refine a_get C fl_RX4_78 (i := p2) hp2.1.1 (hid _ hp2.1.2) (v := .int (σ7.1 p2 4)) rfl dX4_lookAt_102 ?_
  refine a_iconst C dX4_lookAt_105 (v := 1) rfl ?_
  refine a_iand C dX4_lookAt_106 ?_
  refine p_iastc C (i := 10) 8 (show rowOK 10 from ⟨kd_10, by decide⟩) hid (by decide) (by rw [al_10]; decide) dX4_lookAt_107 h (fun σ8 h => ?_)
  exact a_vret Rt dX4_lookAt_108 (retv_eq (h.trans (congrArg some hR.symm)))
set_option maxHeartbeats 4000000 in
set_option maxRecDepth 100000 in
theorem Z_X4_asks {l : Launch} {D : va_G} {ids : List Nat} {ad : Nat → Nat} {ca : Nat → ClassId} {σ : HS} {p1 : Nat} {x2 : Int32} {x3 : Int32} {r0 : Int32} {s0 : HS} (hid : ∀ i, i < 277 → i ∈ ids) (hp1 : txtOK p1) (h : f_X4_asks p1 x2 x3 σ = some (r0, s0)) : Ki l D ids ad ca yX4_asks cX4_asks 5 .int 2 50 [.ref (ad 8), .ref (ad p1), .int x2, .int x3] σ (fun r σ1 => r = r0 ∧ σ1 = s0) := by
  obtain ⟨R, hR⟩ : ∃ R, (r0, s0) = R := ⟨_, rfl⟩
  replace h := h.trans (congrArg some hR)
  refine Ki.of (by decide) (Nat.le_of_ble_eq_true rfl) 1 (fun Γ C Rt => ?_)
  show AW ids ad ca Γ 0 [some (.ref (ad 8)), some (.ref (ad p1)), some (.int x2), some (.int x3), none] [] σ
  unfold f_X4_asks at h
  refine a_aload_n C dX4_asks_0 (i := 0) rfl rfl ?_
  refine a_get C fl_RX4_12 (i := 8) kd_8 (hid 8 (by decide)) (v := .ref (ad 9)) rfl dX4_asks_1 ?_
  refine a_get C fl_RX4_107 (i := 9) kd_9 (hid 9 (by decide)) (v := .ref (ad 10)) rfl dX4_asks_4 ?_
  refine a_iconst C dX4_asks_7 (v := 2) rfl ?_
  refine a_iload_n C dX4_asks_8 (i := 3) rfl rfl ?_
  refine p_iastc C (i := 10) 2 (show rowOK 10 from ⟨kd_10, by decide⟩) hid (by decide) (by rw [al_10]; decide) dX4_asks_9 h (fun σ1 h => ?_)
  refine a_aload_n C dX4_asks_10 (i := 0) rfl rfl ?_
  refine a_get C fl_RX4_12 (i := 8) kd_8 (hid 8 (by decide)) (v := .ref (ad 9)) rfl dX4_asks_11 ?_
  refine a_aload_n C dX4_asks_14 (i := 1) rfl rfl ?_
  refine a_get C fl_RX4_116 (i := p1) hp1.1.1 (hid _ hp1.1.2) (v := .ref (ad (p1 + 11))) rfl dX4_asks_15 ?_
  refine a_aload_n C dX4_asks_18 (i := 1) rfl rfl ?_
  refine a_get C fl_RX4_119 (i := p1) hp1.1.1 (hid _ hp1.1.2) (v := .ref (ad (p1 + 12))) rfl dX4_asks_19 ?_
  refine a_iload_n C dX4_asks_22 (i := 2) rfl rfl ?_
  refine p_iald C (i := (p1 + 12)) hp1.2.2.2.2.2.2.1.1 hid (by rw [hp1.2.2.2.2.2.2.1.2]; rfl) dX4_asks_23 h (fun h => ?_)
  refine p_callVi C (As := [.ref (ad (p1 + 11)), .int (σ1.1 (p1 + 12) x2.toInt.toNat)]) (i := 9) kd_9 (hid 9 (by decide)) ⟨_, _, rfl⟩ (by decide) h (fun _ _ e => Z_X1_answer hid hp1.2.2.2.2.2.1.1 e) mi_X1_answer ml_RX4_122 rfl rfl (Nat.le_of_ble_eq_true rfl) (Nat.le_of_ble_eq_true rfl) (Nat.le_of_ble_eq_true rfl) dX4_asks_24 (fun r3 σ2 h => ?_)
  refine a_istore C dX4_asks_27 (by decide) rfl (vs1 := [some (.ref (ad 8)), some (.ref (ad p1)), some (.int x2), some (.int x3), some (.int r3)]) rfl ?_
  refine a_iload_n C dX4_asks_29 (i := 2) rfl rfl ?_
  refine ite_k h (fun c1 h => ?_) (fun c1 h => ?_)
  ·
    refine a_lookup C dX4_asks_30 (by decide) (by rw [c1] <;> rfl) (tgt := 56) rfl ?_
    refine a_iconst C dX4_asks_56 (v := 0) rfl ?_
    refine a_bipush C dX4_asks_57 (v := 100) rfl ?_
    refine a_iload C dX4_asks_59 rfl ?_
    refine a_mmin C dX4_asks_61 mm_RX4_95 mm_min.1 mm_min.2.1 mm_min.2.2 (Nat.le_of_ble_eq_true rfl) (Nat.le_of_ble_eq_true rfl) ?_
    refine a_mmax C dX4_asks_64 mm_RX4_51 mm_max.1 mm_max.2.1 mm_max.2.2 (Nat.le_of_ble_eq_true rfl) (Nat.le_of_ble_eq_true rfl) ?_
    exact a_iret Rt dX4_asks_67 rfl (ret_eq (h.trans (congrArg some hR.symm)))
  ·
    refine ite_k h (fun c2 h => ?_) (fun c2 h => ?_)
    ·
      refine a_lookup C dX4_asks_30 (by decide) (by rw [c2] <;> rfl) (tgt := 68) rfl ?_
      refine a_bipush C dX4_asks_68 (v := (-99)) rfl ?_
      refine a_bipush C dX4_asks_70 (v := 99) rfl ?_
      refine a_iload C dX4_asks_72 rfl ?_
      refine a_mmin C dX4_asks_74 mm_RX4_95 mm_min.1 mm_min.2.1 mm_min.2.2 (Nat.le_of_ble_eq_true rfl) (Nat.le_of_ble_eq_true rfl) ?_
      refine a_mmax C dX4_asks_77 mm_RX4_51 mm_max.1 mm_max.2.1 mm_max.2.2 (Nat.le_of_ble_eq_true rfl) (Nat.le_of_ble_eq_true rfl) ?_
      exact a_iret Rt dX4_asks_80 rfl (ret_eq (h.trans (congrArg some hR.symm)))
    ·
      refine a_lookup C dX4_asks_30 (by decide) (off := 51) (by simp [Op.lookupswitch.offset]; rw [if_neg (by omega), if_neg (by omega)]) (tgt := 81) rfl ?_
      refine a_iconst C dX4_asks_81 (v := 0) rfl ?_
      refine a_bipush C dX4_asks_82 (v := 99) rfl ?_
      refine a_iload C dX4_asks_84 rfl ?_
      refine a_mmin C dX4_asks_86 mm_RX4_95 mm_min.1 mm_min.2.1 mm_min.2.2 (Nat.le_of_ble_eq_true rfl) (Nat.le_of_ble_eq_true rfl) ?_
      refine a_mmax C dX4_asks_89 mm_RX4_51 mm_max.1 mm_max.2.1 mm_max.2.2 (Nat.le_of_ble_eq_true rfl) (Nat.le_of_ble_eq_true rfl) ?_
      exact a_iret Rt dX4_asks_92 rfl (ret_eq (h.trans (congrArg some hR.symm)))
set_option maxHeartbeats 4000000 in
set_option maxRecDepth 100000 in
theorem Z_X4_stir {l : Launch} {D : va_G} {ids : List Nat} {ad : Nat → Nat} {ca : Nat → ClassId} {σ : HS} {x1 : Int32} {x2 : Int32} {r0 : Int32} {s0 : HS} (hid : ∀ i, i < 277 → i ∈ ids) (h : f_X4_stir x1 x2 σ = some (r0, s0)) : Ki l D ids ad ca yX4_stir cX4_stir 3 .int 0 0 [.int x1, .int x2] σ (fun r σ1 => r = r0 ∧ σ1 = s0) := by
  obtain ⟨R, hR⟩ : ∃ R, (r0, s0) = R := ⟨_, rfl⟩
  replace h := h.trans (congrArg some hR)
  refine Ki.of (by decide) (Nat.le_of_ble_eq_true rfl) 1 (fun Γ C Rt => ?_)
  show AW ids ad ca Γ 0 [some (.int x1), some (.int x2), none] [] σ
  unfold f_X4_stir at h
  refine a_iload_n C dX4_stir_0 (i := 0) rfl rfl ?_
  refine a_iload_n C dX4_stir_1 (i := 1) rfl rfl ?_
  refine a_ixor C dX4_stir_2 ?_
  refine a_ldc C dX4_stir_3 ko_RX4_129 ?_
  refine a_imul C dX4_stir_5 ?_
  refine a_sipush C dX4_stir_6 (v := 12345) rfl ?_
  refine a_iadd C dX4_stir_9 ?_
  refine p_istore_n C (fun z1 => [some (.int x1), some (.int x2), some (.int z1)]) dX4_stir_10 (i := 2) rfl (by decide) rfl (fun _ => rfl) h (fun z1 h => ?_)
  refine a_iload_n C dX4_stir_11 (i := 2) rfl rfl ?_
  refine a_iload_n C dX4_stir_12 (i := 2) rfl rfl ?_
  refine a_bipush C dX4_stir_13 (v := 15) rfl ?_
  refine a_iushr C dX4_stir_15 ?_
  refine a_ixor C dX4_stir_16 ?_
  exact a_iret Rt dX4_stir_17 rfl (ret_eq (h.trans (congrArg some hR.symm)))
set_option maxHeartbeats 4000000 in
set_option maxRecDepth 100000 in
theorem Z_X4_lot {l : Launch} {D : va_G} {ids : List Nat} {ad : Nat → Nat} {ca : Nat → ClassId} {σ : HS} {x1 : Int32} {x2 : Int32} {x3 : Int32} {r0 : Int32} {s0 : HS} (hid : ∀ i, i < 277 → i ∈ ids) (h : f_X4_lot x1 x2 x3 σ = some (r0, s0)) : Ki l D ids ad ca yX4_lot cX4_lot 4 .int 1 22 [.int x1, .int x2, .int x3] σ (fun r σ1 => r = r0 ∧ σ1 = s0) := by
  obtain ⟨R, hR⟩ : ∃ R, (r0, s0) = R := ⟨_, rfl⟩
  replace h := h.trans (congrArg some hR)
  refine Ki.of (by decide) (Nat.le_of_ble_eq_true rfl) 1 (fun Γ C Rt => ?_)
  show AW ids ad ca Γ 0 [some (.int x1), some (.int x2), some (.int x3), none] [] σ
  unfold f_X4_lot at h
  refine a_iload_n C dX4_lot_0 (i := 1) rfl rfl ?_
  refine a_bipush C dX4_lot_1 (v := 125) rfl ?_
  refine p_callSi C (As := [.int x2, .int 125]) h (fun _ _ e => Z_X4_stir hid e) ms_X4_stir ml_RX4_126 rfl rfl (Nat.le_of_ble_eq_true rfl) (Nat.le_of_ble_eq_true rfl) (Nat.le_of_ble_eq_true rfl) dX4_lot_3 (fun r2 σ1 h => ?_)
  refine a_iload_n C dX4_lot_6 (i := 2) rfl rfl ?_
  refine p_callSi C (As := [.int r2, .int x3]) h (fun _ _ e => Z_X4_stir hid e) ms_X4_stir ml_RX4_126 rfl rfl (Nat.le_of_ble_eq_true rfl) (Nat.le_of_ble_eq_true rfl) (Nat.le_of_ble_eq_true rfl) dX4_lot_7 (fun r4 σ3 h => ?_)
  refine a_istore_n C dX4_lot_10 (i := 3) rfl (by decide) rfl (vs1 := [some (.int x1), some (.int x2), some (.int x3), some (.int r4)]) rfl ?_
  refine a_iload_n C dX4_lot_11 (i := 0) rfl rfl ?_
  refine a_iconst C dX4_lot_12 (v := 1) rfl ?_
  refine p_ic_ge C (X := x1.toInt) (Y := 1) rfl (by decide) dX4_lot_13 (tgt := 20) rfl h (fun h => ?_) (fun h => ?_)
  ·
    refine a_iload_n C dX4_lot_20 (i := 3) rfl rfl ?_
    refine a_iconst C dX4_lot_21 (v := 1) rfl ?_
    refine a_iushr C dX4_lot_22 ?_
    refine a_iload_n C dX4_lot_23 (i := 0) rfl rfl ?_
    refine p_irem C rfl dX4_lot_24 h (fun h => ?_)
    exact a_iret Rt dX4_lot_25 rfl (ret_eq (h.trans (congrArg some hR.symm)))
  ·
    refine a_iconst C dX4_lot_16 (v := 0) rfl ?_
    refine a_goto C dX4_lot_17 (tgt := 25) rfl ?_
    exact a_iret Rt dX4_lot_25 rfl (ret_eq (h.trans (congrArg some hR.symm)))
set_option maxHeartbeats 4000000 in
set_option maxRecDepth 100000 in
theorem Z_X4_catchOne {l : Launch} {D : va_G} {ids : List Nat} {ad : Nat → Nat} {ca : Nat → ClassId} {σ : HS} {p1 : Nat} {p2 : Nat} {x3 : Int32} {x4 : Int32} {s0 : HS} (hid : ∀ i, i < 277 → i ∈ ids) (hp1 : txtOK p1) (hp2 : airOK p2) (h : f_X4_catchOne p1 p2 x3 x4 σ = some s0) : Kv l D ids ad ca yX4_catchOne cX4_catchOne 6 3 74 [.ref (ad 8), .ref (ad p1), .ref (ad p2), .int x3, .int x4] σ (fun σ1 => σ1 = s0) := by
  obtain ⟨R, hR⟩ : ∃ R, s0 = R := ⟨_, rfl⟩
  replace h := h.trans (congrArg some hR)
  refine Kv.of (by decide) (Nat.le_of_ble_eq_true rfl) 1 (fun Γ C Rt => ?_)
  show AW ids ad ca Γ 0 [some (.ref (ad 8)), some (.ref (ad p1)), some (.ref (ad p2)), some (.int x3), some (.int x4), none] [] σ
  unfold f_X4_catchOne at h
  have j43 : ∀ (y3 : Int32) (y5 : Int32) (σ : HS), f_X4_catchOne_43 p1 p2 y3 y5 σ = some R → AW ids ad ca Γ 43 [some (.ref (ad 8)), some (.ref (ad p1)), some (.ref (ad p2)), some (.int y3), none, some (.int y5)] [] σ := by
    intro y3 y5 σ h
    unfold f_X4_catchOne_43 at h
    refine a_aload_n C dX4_catchOne_43 (i := 2) rfl rfl ?_
    refine a_dup C dX4_catchOne_44 rfl ?_
    refine a_get C fl_RX4_92 (i := p2) hp2.1.1 (hid _ hp2.1.2) (v := .int (σ.1 p2 8)) rfl dX4_catchOne_45 ?_
    refine a_aload_n C dX4_catchOne_48 (i := 0) rfl rfl ?_
    refine a_aload_n C dX4_catchOne_49 (i := 1) rfl rfl ?_
    refine a_iconst C dX4_catchOne_50 (v := 3) rfl ?_
    refine a_iconst C dX4_catchOne_51 (v := 0) rfl ?_
    refine p_callVi C (As := [.ref (ad p1), .int 3, .int 0]) (i := 8) kd_8 (hid 8 (by decide)) ⟨_, _, rfl⟩ (by decide) h (fun _ _ e => Z_X4_asks hid hp1 e) mi_X4_asks ml_RX4_38 rfl rfl (Nat.le_of_ble_eq_true rfl) (Nat.le_of_ble_eq_true rfl) (Nat.le_of_ble_eq_true rfl) dX4_catchOne_52 (fun r2 σ1 h => ?_)
    refine a_iadd C dX4_catchOne_55 ?_
    refine p_put C fp_RX4_92 (i := p2) hp2.1.1 (hid _ hp2.1.2) rfl rfl dX4_catchOne_56 h (fun σ3 h => ?_)
    refine a_aload_n C dX4_catchOne_59 (i := 2) rfl rfl ?_
    refine a_sipush C dX4_catchOne_60 (v := 999) rfl ?_
    refine a_aload_n C dX4_catchOne_63 (i := 2) rfl rfl ?_
    refine a_get C fl_RX4_42 (i := p2) hp2.1.1 (hid _ hp2.1.2) (v := .int (σ3.1 p2 5)) rfl dX4_catchOne_64 ?_
    refine a_aload_n C dX4_catchOne_67 (i := 0) rfl rfl ?_
    refine a_aload_n C dX4_catchOne_68 (i := 1) rfl rfl ?_
    refine a_iconst C dX4_catchOne_69 (v := 0) rfl ?_
    refine a_iload C dX4_catchOne_70 rfl ?_
    refine p_callVi C (As := [.ref (ad p1), .int 0, .int y5]) (i := 8) kd_8 (hid 8 (by decide)) ⟨_, _, rfl⟩ (by decide) h (fun _ _ e => Z_X4_asks hid hp1 e) mi_X4_asks ml_RX4_38 rfl rfl (Nat.le_of_ble_eq_true rfl) (Nat.le_of_ble_eq_true rfl) (Nat.le_of_ble_eq_true rfl) dX4_catchOne_72 (fun r5 σ4 h => ?_)
    refine a_iadd C dX4_catchOne_75 ?_
    refine a_mmin C dX4_catchOne_76 mm_RX4_95 mm_min.1 mm_min.2.1 mm_min.2.2 (Nat.le_of_ble_eq_true rfl) (Nat.le_of_ble_eq_true rfl) ?_
    refine p_put C fp_RX4_42 (i := p2) hp2.1.1 (hid _ hp2.1.2) rfl rfl dX4_catchOne_79 h (fun σ6 h => ?_)
    refine a_aload_n C dX4_catchOne_82 (i := 2) rfl rfl ?_
    refine a_dup C dX4_catchOne_83 rfl ?_
    refine a_get C fl_RX4_98 (i := p2) hp2.1.1 (hid _ hp2.1.2) (v := .int (σ6.1 p2 7)) rfl dX4_catchOne_84 ?_
    refine a_iconst C dX4_catchOne_87 (v := 1) rfl ?_
    refine a_iadd C dX4_catchOne_88 ?_
    refine p_put C fp_RX4_98 (i := p2) hp2.1.1 (hid _ hp2.1.2) rfl rfl dX4_catchOne_89 h (fun σ7 h => ?_)
    refine a_aload_n C dX4_catchOne_92 (i := 2) rfl rfl ?_
    refine a_get C fl_RX4_101 (i := p2) hp2.1.1 (hid _ hp2.1.2) (v := .ref (ad (p2 + 3))) rfl dX4_catchOne_93 ?_
    refine a_iload_n C dX4_catchOne_96 (i := 3) rfl rfl ?_
    refine a_dup2 C dX4_catchOne_97 rfl rfl ?_
    refine p_iald C (i := (p2 + 3)) hp2.2.2.2.1 hid (by rw [hp2.2.2.2.2]; rfl) dX4_catchOne_98 h (fun h => ?_)
    refine a_iconst C dX4_catchOne_99 (v := 1) rfl ?_
    refine a_iadd C dX4_catchOne_100 ?_
    refine p_iast C (i := (p2 + 3)) hp2.2.2.2.1 hid (by rw [hp2.2.2.2.2]; rfl) dX4_catchOne_101 h (fun σ8 h => ?_)
    refine a_aload_n C dX4_catchOne_102 (i := 2) rfl rfl ?_
    refine a_get C fl_RX4_74 (i := p2) hp2.1.1 (hid _ hp2.1.2) (v := .ref (ad (p2 + 2))) rfl dX4_catchOne_103 ?_
    refine a_iload_n C dX4_catchOne_106 (i := 3) rfl rfl ?_
    refine a_iload C dX4_catchOne_107 rfl ?_
    refine p_iast C (i := (p2 + 2)) hp2.2.2.1.1 hid (by rw [hp2.2.2.1.2]; rfl) dX4_catchOne_109 h (fun σ9 h => ?_)
    refine a_iload C dX4_catchOne_110 rfl ?_
    refine p_if_ne C (X := y5.toInt) rfl dX4_catchOne_112 (tgt := 122) rfl h (fun h => ?_) (fun h => ?_)
    ·
      exact a_vret Rt dX4_catchOne_122 (retv_eq (h.trans (congrArg some hR.symm)))
    ·
      refine a_aload_n C dX4_catchOne_115 (i := 2) rfl rfl ?_
      refine a_get C fl_RX4_104 (i := p2) hp2.1.1 (hid _ hp2.1.2) (v := .ref (ad (p2 + 1))) rfl dX4_catchOne_116 ?_
      refine a_iload_n C dX4_catchOne_119 (i := 3) rfl rfl ?_
      refine a_iconst C dX4_catchOne_120 (v := 1) rfl ?_
      refine p_iast C (i := (p2 + 1)) hp2.2.1.1 hid (by rw [hp2.2.1.2]; rfl) dX4_catchOne_121 h (fun σ10 h => ?_)
      exact a_vret Rt dX4_catchOne_122 (retv_eq (h.trans (congrArg some hR.symm)))
  refine a_aload_n C dX4_catchOne_0 (i := 2) rfl rfl ?_
  refine a_aload_n C dX4_catchOne_1 (i := 1) rfl rfl ?_
  refine p_callVi C (As := [.ref (ad p1)]) (i := p2) hp2.1.1 (hid _ hp2.1.2) ⟨_, _, rfl⟩ (by decide) h (fun _ _ e => Z_X0_heightBy hid hp2 hp1 e) mi_X0_heightBy ml_RX4_84 rfl rfl (Nat.le_of_ble_eq_true rfl) (Nat.le_of_ble_eq_true rfl) (Nat.le_of_ble_eq_true rfl) dX4_catchOne_2 (fun r2 σ1 h => ?_)
  refine a_istore C dX4_catchOne_5 (by decide) rfl (vs1 := [some (.ref (ad 8)), some (.ref (ad p1)), some (.ref (ad p2)), some (.int x3), some (.int x4), some (.int r2)]) rfl ?_
  refine a_iload C dX4_catchOne_7 rfl ?_
  refine a_iconst C dX4_catchOne_9 (v := (-1)) rfl ?_
  refine p_ic_eq C (X := x4.toInt) (Y := (-1)) rfl (by decide) dX4_catchOne_10 (tgt := 43) rfl h (fun h => ?_) (fun h => ?_)
  ·
    refine AW.sub (vs' := [some (.ref (ad 8)), some (.ref (ad p1)), some (.ref (ad p2)), some (.int x3), none, some (.int r2)]) (lsub_of (by simp [lsubB])) ?_
    exact j43 _ _ _ h
  ·
    refine a_bipush C dX4_catchOne_13 (v := 100) rfl ?_
    refine a_iload C dX4_catchOne_15 rfl ?_
    refine a_iconst C dX4_catchOne_17 (v := 4) rfl ?_
    refine a_aload_n C dX4_catchOne_18 (i := 2) rfl rfl ?_
    refine a_get C fl_RX4_78 (i := p2) hp2.1.1 (hid _ hp2.1.2) (v := .int (σ1.1 p2 4)) rfl dX4_catchOne_19 ?_
    refine a_imul C dX4_catchOne_22 ?_
    refine p_callSi C (As := [.int 100, .int x4, .int ((4 : Int32) * (σ1.1 p2 4))]) h (fun _ _ e => Z_X4_lot hid e) ms_X4_lot ml_RX4_88 rfl rfl (Nat.le_of_ble_eq_true rfl) (Nat.le_of_ble_eq_true rfl) (Nat.le_of_ble_eq_true rfl) dX4_catchOne_23 (fun r4 σ3 h => ?_)
    refine a_aload_n C dX4_catchOne_26 (i := 0) rfl rfl ?_
    refine a_aload_n C dX4_catchOne_27 (i := 1) rfl rfl ?_
    refine a_iconst C dX4_catchOne_28 (v := 1) rfl ?_
    refine a_iload C dX4_catchOne_29 rfl ?_
    refine p_callVi C (As := [.ref (ad p1), .int 1, .int r2]) (i := 8) kd_8 (hid 8 (by decide)) ⟨_, _, rfl⟩ (by decide) h (fun _ _ e => Z_X4_asks hid hp1 e) mi_X4_asks ml_RX4_38 rfl rfl (Nat.le_of_ble_eq_true rfl) (Nat.le_of_ble_eq_true rfl) (Nat.le_of_ble_eq_true rfl) dX4_catchOne_31 (fun r6 σ5 h => ?_)
    refine p_ic_ge C (X := r4.toInt) (Y := r6.toInt) rfl rfl dX4_catchOne_34 (tgt := 43) rfl h (fun h => ?_) (fun h => ?_)
    ·
      refine AW.sub (vs' := [some (.ref (ad 8)), some (.ref (ad p1)), some (.ref (ad p2)), some (.int x3), none, some (.int r2)]) (lsub_of (by simp [lsubB])) ?_
      exact j43 _ _ _ h
    ·
      refine a_aload_n C dX4_catchOne_37 (i := 2) rfl rfl ?_
      refine a_iload_n C dX4_catchOne_38 (i := 3) rfl rfl ?_
      refine p_callVv C (As := [.int x3]) (i := p2) hp2.1.1 (hid _ hp2.1.2) ⟨_, _, rfl⟩ (by decide) h (fun _ e => Z_X0_drop hid hp2 e) mi_X0_drop ml_RX4_64 rfl rfl (Nat.le_of_ble_eq_true rfl) (Nat.le_of_ble_eq_true rfl) (Nat.le_of_ble_eq_true rfl) dX4_catchOne_39 (fun σ7 h => ?_)
      exact a_vret Rt dX4_catchOne_42 (retv_eq (h.trans (congrArg some hR.symm)))
set_option maxHeartbeats 4000000 in
set_option maxRecDepth 100000 in
theorem Z_X4_oneBeat {l : Launch} {D : va_G} {ids : List Nat} {ad : Nat → Nat} {ca : Nat → ClassId} {σ : HS} {p1 : Nat} {p2 : Nat} {x3 : Int32} {s0 : HS} (hid : ∀ i, i < 277 → i ∈ ids) (hp1 : txtOK p1) (hp2 : airOK p2) (h : f_X4_oneBeat p1 p2 x3 σ = some s0) : Kv l D ids ad ca yX4_oneBeat cX4_oneBeat 6 4 99 [.ref (ad 8), .ref (ad p1), .ref (ad p2), .int x3] σ (fun σ1 => σ1 = s0) := by
  obtain ⟨R, hR⟩ : ∃ R, s0 = R := ⟨_, rfl⟩
  replace h := h.trans (congrArg some hR)
  refine Kv.of (by decide) (Nat.le_of_ble_eq_true rfl) 2 (fun Γ C Rt => ?_)
  show AW ids ad ca Γ 0 [some (.ref (ad 8)), some (.ref (ad p1)), some (.ref (ad p2)), some (.int x3), none, none] [] σ
  unfold f_X4_oneBeat at h
  have j121 : ∀ (k92 : Int32 → HS → Option (HS)) (hk92 : ∀ (y5 : Int32) (σ : HS), k92 y5 σ = some R → AW ids ad ca Γ 92 [none, none, some (.ref (ad p2)), none, none, some (.int y5)] [] σ) (y5 : Int32) (σ : HS), f_X4_oneBeat_121 p1 p2 k92 y5 σ = some R → AW ids ad ca Γ 121 [none, none, some (.ref (ad p2)), none, none, some (.int y5)] [] σ := by
    intro k92 hk92 y5 σ h
    unfold f_X4_oneBeat_121 at h
    refine p_iinc C (y := (y5 + 1)) (fun z1 => [none, none, some (.ref (ad p2)), none, none, some (.int z1)]) dX4_oneBeat_121 rfl rfl (by decide) rfl (fun _ => rfl) h (fun z1 h => ?_)
    refine a_goto C dX4_oneBeat_124 (tgt := 92) rfl ?_
    exact hk92 _ _ h
  have j92 : ∀ (n : Nat) (y5 : Int32) (σ : HS), f_X4_oneBeat_92 p1 p2 n y5 σ = some R → AW ids ad ca Γ 92 [none, none, some (.ref (ad p2)), none, none, some (.int y5)] [] σ := by
    intro n
    induction n with
    | zero => intro y5 σ h; exact nn h
    | succ n ih =>
      intro y5 σ h
      have h : b_X4_oneBeat_92 p1 p2 (f_X4_oneBeat_92 p1 p2 n) y5 σ = some R := h
      unfold b_X4_oneBeat_92 at h
      refine a_iload C dX4_oneBeat_92 rfl ?_
      refine a_aload_n C dX4_oneBeat_94 (i := 2) rfl rfl ?_
      refine a_get C fl_RX4_57 (i := p2) hp2.1.1 (hid _ hp2.1.2) (v := .int (σ.1 p2 0)) rfl dX4_oneBeat_95 ?_
      refine p_ic_ge C (X := y5.toInt) (Y := (σ.1 p2 0).toInt) rfl rfl dX4_oneBeat_98 (tgt := 127) rfl h (fun h => ?_) (fun h => ?_)
      ·
        refine a_aload_n C dX4_oneBeat_127 (i := 2) rfl rfl ?_
        refine a_dup C dX4_oneBeat_128 rfl ?_
        refine a_get C fl_RX4_78 (i := p2) hp2.1.1 (hid _ hp2.1.2) (v := .int (σ.1 p2 4)) rfl dX4_oneBeat_129 ?_
        refine a_iconst C dX4_oneBeat_132 (v := 1) rfl ?_
        refine a_iadd C dX4_oneBeat_133 ?_
        refine p_put C fp_RX4_78 (i := p2) hp2.1.1 (hid _ hp2.1.2) rfl rfl dX4_oneBeat_134 h (fun σ1 h => ?_)
        refine a_aload_n C dX4_oneBeat_137 (i := 2) rfl rfl ?_
        refine a_iconst C dX4_oneBeat_138 (v := (-1)) rfl ?_
        refine p_put C fp_RX4_81 (i := p2) hp2.1.1 (hid _ hp2.1.2) rfl rfl dX4_oneBeat_139 h (fun σ2 h => ?_)
        exact a_vret Rt dX4_oneBeat_142 (retv_eq (h.trans (congrArg some hR.symm)))
      ·
        refine a_aload_n C dX4_oneBeat_101 (i := 2) rfl rfl ?_
        refine a_iload C dX4_oneBeat_102 rfl ?_
        refine p_callVi C (As := [.int y5]) (i := p2) hp2.1.1 (hid _ hp2.1.2) ⟨_, _, rfl⟩ (by decide) h (fun _ _ e => Z_X0_isUp hid hp2 e) mi_X0_isUp ml_RX4_71 rfl rfl (Nat.le_of_ble_eq_true rfl) (Nat.le_of_ble_eq_true rfl) (Nat.le_of_ble_eq_true rfl) dX4_oneBeat_104 (fun r4 σ3 h => ?_)
        refine p_if_eq C (X := r4.toInt) rfl dX4_oneBeat_107 (tgt := 121) rfl h (fun h => ?_) (fun h => ?_)
        ·
          exact j121 (f_X4_oneBeat_92 p1 p2 n) (fun y5 σ h => ih y5 σ h) _ _ h
        ·
          refine a_aload_n C dX4_oneBeat_110 (i := 2) rfl rfl ?_
          refine a_get C fl_RX4_74 (i := p2) hp2.1.1 (hid _ hp2.1.2) (v := .ref (ad (p2 + 2))) rfl dX4_oneBeat_111 ?_
          refine a_iload C dX4_oneBeat_114 rfl ?_
          refine a_dup2 C dX4_oneBeat_116 rfl rfl ?_
          refine p_iald C (i := (p2 + 2)) hp2.2.2.1.1 hid (by rw [hp2.2.2.1.2]; rfl) dX4_oneBeat_117 h (fun h => ?_)
          refine a_iconst C dX4_oneBeat_118 (v := 1) rfl ?_
          refine a_isub C dX4_oneBeat_119 ?_
          refine p_iast C (i := (p2 + 2)) hp2.2.2.1.1 hid (by rw [hp2.2.2.1.2]; rfl) dX4_oneBeat_120 h (fun σ5 h => ?_)
          exact j121 (f_X4_oneBeat_92 p1 p2 n) (fun y5 σ h => ih y5 σ h) _ _ h
  have j89 : ∀ (σ : HS), f_X4_oneBeat_89 p1 p2 σ = some R → AW ids ad ca Γ 89 [none, none, some (.ref (ad p2)), none, none, none] [] σ := by
    intro σ h
    unfold f_X4_oneBeat_89 at h
    refine a_iconst C dX4_oneBeat_89 (v := 0) rfl ?_
    refine a_istore C dX4_oneBeat_90 (by decide) rfl (vs1 := [none, none, some (.ref (ad p2)), none, none, some (.int 0)]) rfl ?_
    exact j92 _ _ _ h
  have j62 : ∀ (k38 : Int32 → Int32 → Int32 → HS → Option (HS)) (hk38 : ∀ (y3 : Int32) (y4 : Int32) (y5 : Int32) (σ : HS), k38 y3 y4 y5 σ = some R → AW ids ad ca Γ 38 [some (.ref (ad 8)), some (.ref (ad p1)), some (.ref (ad p2)), some (.int y3), some (.int y4), some (.int y5)] [] σ) (y3 : Int32) (y4 : Int32) (y5 : Int32) (σ : HS), f_X4_oneBeat_62 p1 p2 k38 y3 y4 y5 σ = some R → AW ids ad ca Γ 62 [some (.ref (ad 8)), some (.ref (ad p1)), some (.ref (ad p2)), some (.int y3), some (.int y4), some (.int y5)] [] σ := by
    intro k38 hk38 y3 y4 y5 σ h
    unfold f_X4_oneBeat_62 at h
    refine p_iinc C (y := (y5 + 1)) (fun z1 => [some (.ref (ad 8)), some (.ref (ad p1)), some (.ref (ad p2)), some (.int y3), some (.int y4), some (.int z1)]) dX4_oneBeat_62 rfl rfl (by decide) rfl (fun _ => rfl) h (fun z1 h => ?_)
    refine a_goto C dX4_oneBeat_65 (tgt := 38) rfl ?_
    exact hk38 _ _ _ _ h
  have j38 : ∀ (n : Nat) (y3 : Int32) (y4 : Int32) (y5 : Int32) (σ : HS), f_X4_oneBeat_38 p1 p2 n y3 y4 y5 σ = some R → AW ids ad ca Γ 38 [some (.ref (ad 8)), some (.ref (ad p1)), some (.ref (ad p2)), some (.int y3), some (.int y4), some (.int y5)] [] σ := by
    intro n
    induction n with
    | zero => intro y3 y4 y5 σ h; exact nn h
    | succ n ih =>
      intro y3 y4 y5 σ h
      have h : b_X4_oneBeat_38 p1 p2 (f_X4_oneBeat_38 p1 p2 n) y3 y4 y5 σ = some R := h
      unfold b_X4_oneBeat_38 at h
      refine a_iload C dX4_oneBeat_38 rfl ?_
      refine a_aload_n C dX4_oneBeat_40 (i := 2) rfl rfl ?_
      refine a_get C fl_RX4_57 (i := p2) hp2.1.1 (hid _ hp2.1.2) (v := .int (σ.1 p2 0)) rfl dX4_oneBeat_41 ?_
      refine p_ic_ge C (X := y5.toInt) (Y := (σ.1 p2 0).toInt) rfl rfl dX4_oneBeat_44 (tgt := 68) rfl h (fun h => ?_) (fun h => ?_)
      ·
        refine a_aload_n C dX4_oneBeat_68 (i := 0) rfl rfl ?_
        refine a_aload_n C dX4_oneBeat_69 (i := 1) rfl rfl ?_
        refine a_aload_n C dX4_oneBeat_70 (i := 2) rfl rfl ?_
        refine a_iload C dX4_oneBeat_71 rfl ?_
        refine a_aload_n C dX4_oneBeat_73 (i := 2) rfl rfl ?_
        refine p_callVi C (As := []) (i := p2) hp2.1.1 (hid _ hp2.1.2) ⟨_, _, rfl⟩ (by decide) h (fun _ _ e => Z_X0_howManyUp hid hp2 e) mi_X0_howManyUp ml_RX4_28 rfl rfl (Nat.le_of_ble_eq_true rfl) (Nat.le_of_ble_eq_true rfl) (Nat.le_of_ble_eq_true rfl) dX4_oneBeat_74 (fun r2 σ1 h => ?_)
        refine p_callVv C (As := [.ref (ad p1), .ref (ad p2), .int y4, .int r2]) (i := 8) kd_8 (hid 8 (by decide)) ⟨_, _, rfl⟩ (by decide) h (fun _ e => Z_X4_lookAt hid hp1 hp2 e) mi_X4_lookAt ml_RX4_34 rfl rfl (Nat.le_of_ble_eq_true rfl) (Nat.le_of_ble_eq_true rfl) (Nat.le_of_ble_eq_true rfl) dX4_oneBeat_77 (fun σ3 h => ?_)
        refine a_aload_n C dX4_oneBeat_80 (i := 0) rfl rfl ?_
        refine a_aload_n C dX4_oneBeat_81 (i := 1) rfl rfl ?_
        refine a_aload_n C dX4_oneBeat_82 (i := 2) rfl rfl ?_
        refine a_iload C dX4_oneBeat_83 rfl ?_
        refine a_iload_n C dX4_oneBeat_85 (i := 3) rfl rfl ?_
        refine p_callVv C (As := [.ref (ad p1), .ref (ad p2), .int y4, .int y3]) (i := 8) kd_8 (hid 8 (by decide)) ⟨_, _, rfl⟩ (by decide) h (fun _ e => Z_X4_catchOne hid hp1 hp2 e) mi_X4_catchOne ml_RX4_68 rfl rfl (Nat.le_of_ble_eq_true rfl) (Nat.le_of_ble_eq_true rfl) (Nat.le_of_ble_eq_true rfl) dX4_oneBeat_86 (fun σ5 h => ?_)
        refine AW.sub (vs' := [none, none, some (.ref (ad p2)), none, none, none]) (lsub_of (by simp [lsubB])) ?_
        exact j89 _ h
      ·
        refine a_aload_n C dX4_oneBeat_47 (i := 2) rfl rfl ?_
        refine a_iload C dX4_oneBeat_48 rfl ?_
        refine p_callVi C (As := [.int y5]) (i := p2) hp2.1.1 (hid _ hp2.1.2) ⟨_, _, rfl⟩ (by decide) h (fun _ _ e => Z_X0_landsNow hid hp2 e) mi_X0_landsNow ml_RX4_60 rfl rfl (Nat.le_of_ble_eq_true rfl) (Nat.le_of_ble_eq_true rfl) (Nat.le_of_ble_eq_true rfl) dX4_oneBeat_50 (fun r8 σ7 h => ?_)
        refine p_if_eq C (X := r8.toInt) rfl dX4_oneBeat_53 (tgt := 62) rfl h (fun h => ?_) (fun h => ?_)
        ·
          exact j62 (f_X4_oneBeat_38 p1 p2 n) (fun y3 y4 y5 σ h => ih y3 y4 y5 σ h) _ _ _ _ h
        ·
          refine a_aload_n C dX4_oneBeat_56 (i := 2) rfl rfl ?_
          refine a_iload C dX4_oneBeat_57 rfl ?_
          refine p_callVv C (As := [.int y5]) (i := p2) hp2.1.1 (hid _ hp2.1.2) ⟨_, _, rfl⟩ (by decide) h (fun _ e => Z_X0_drop hid hp2 e) mi_X0_drop ml_RX4_64 rfl rfl (Nat.le_of_ble_eq_true rfl) (Nat.le_of_ble_eq_true rfl) (Nat.le_of_ble_eq_true rfl) dX4_oneBeat_59 (fun σ9 h => ?_)
          exact j62 (f_X4_oneBeat_38 p1 p2 n) (fun y3 y4 y5 σ h => ih y3 y4 y5 σ h) _ _ _ _ h
  refine a_aload_n C dX4_oneBeat_0 (i := 2) rfl rfl ?_
  refine p_callVi C (As := []) (i := p2) hp2.1.1 (hid _ hp2.1.2) ⟨_, _, rfl⟩ (by decide) h (fun _ _ e => Z_X0_firstLanding hid hp2 e) mi_X0_firstLanding ml_RX4_22 rfl rfl (Nat.le_of_ble_eq_true rfl) (Nat.le_of_ble_eq_true rfl) (Nat.le_of_ble_eq_true rfl) dX4_oneBeat_1 (fun r2 σ1 h => ?_)
  refine a_istore C dX4_oneBeat_4 (by decide) rfl (vs1 := [some (.ref (ad 8)), some (.ref (ad p1)), some (.ref (ad p2)), some (.int x3), some (.int r2), none]) rfl ?_
  refine a_iload C dX4_oneBeat_6 rfl ?_
  refine a_iconst C dX4_oneBeat_8 (v := (-1)) rfl ?_
  refine p_ic_ne C (X := r2.toInt) (Y := (-1)) rfl (by decide) dX4_oneBeat_9 (tgt := 32) rfl h (fun h => ?_) (fun h => ?_)
  ·
    refine a_iload C dX4_oneBeat_32 rfl ?_
    refine a_iconst C dX4_oneBeat_34 (v := 1) rfl ?_
    refine a_iadd C dX4_oneBeat_35 ?_
    refine p_istore C (fun z3 => [some (.ref (ad 8)), some (.ref (ad p1)), some (.ref (ad p2)), some (.int x3), some (.int r2), some (.int z3)]) dX4_oneBeat_36 (by decide) rfl (fun _ => rfl) h (fun z3 h => ?_)
    exact j38 _ _ _ _ _ h
  ·
    refine a_aload_n C dX4_oneBeat_12 (i := 2) rfl rfl ?_
    refine a_iconst C dX4_oneBeat_13 (v := 0) rfl ?_
    refine a_aload_n C dX4_oneBeat_14 (i := 2) rfl rfl ?_
    refine a_get C fl_RX4_42 (i := p2) hp2.1.1 (hid _ hp2.1.2) (v := .int (σ1.1 p2 5)) rfl dX4_oneBeat_15 ?_
    refine a_aload_n C dX4_oneBeat_18 (i := 1) rfl rfl ?_
    refine a_get C fl_RX4_46 (i := p1) hp1.1.1 (hid _ hp1.1.2) (v := .int (σ1.1 p1 10)) rfl dX4_oneBeat_19 ?_
    refine a_isub C dX4_oneBeat_22 ?_
    refine a_mmax C dX4_oneBeat_23 mm_RX4_51 mm_max.1 mm_max.2.1 mm_max.2.2 (Nat.le_of_ble_eq_true rfl) (Nat.le_of_ble_eq_true rfl) ?_
    refine p_put C fp_RX4_42 (i := p2) hp2.1.1 (hid _ hp2.1.2) rfl rfl dX4_oneBeat_26 h (fun σ4 h => ?_)
    refine a_goto C dX4_oneBeat_29 (tgt := 89) rfl ?_
    refine AW.sub (vs' := [none, none, some (.ref (ad p2)), none, none, none]) (lsub_of (by simp [lsubB])) ?_
    exact j89 _ h
set_option maxHeartbeats 4000000 in
set_option maxRecDepth 100000 in
theorem Z_X4_goOn {l : Launch} {D : va_G} {ids : List Nat} {ad : Nat → Nat} {ca : Nat → ClassId} {σ : HS} {p1 : Nat} {p2 : Nat} {x3 : Int32} {x4 : Int32} {s0 : HS} (hid : ∀ i, i < 277 → i ∈ ids) (hp1 : txtOK p1) (hp2 : airOK p2) (h : f_X4_goOn p1 p2 x3 x4 σ = some s0) : Kv l D ids ad ca yX4_goOn cX4_goOn 6 5 124 [.ref (ad 8), .ref (ad p1), .ref (ad p2), .int x3, .int x4] σ (fun σ1 => σ1 = s0) := by
  obtain ⟨R, hR⟩ : ∃ R, s0 = R := ⟨_, rfl⟩
  replace h := h.trans (congrArg some hR)
  refine Kv.of (by decide) (Nat.le_of_ble_eq_true rfl) 1 (fun Γ C Rt => ?_)
  show AW ids ad ca Γ 0 [some (.ref (ad 8)), some (.ref (ad p1)), some (.ref (ad p2)), some (.int x3), some (.int x4), none] [] σ
  unfold f_X4_goOn at h
  have j3 : ∀ (n : Nat) (y3 : Int32) (y4 : Int32) (y5 : Int32) (σ : HS), f_X4_goOn_3 p1 p2 n y3 y4 y5 σ = some R → AW ids ad ca Γ 3 [some (.ref (ad 8)), some (.ref (ad p1)), some (.ref (ad p2)), some (.int y3), some (.int y4), some (.int y5)] [] σ := by
    intro n
    induction n with
    | zero => intro y3 y4 y5 σ h; exact nn h
    | succ n ih =>
      intro y3 y4 y5 σ h
      have h : b_X4_goOn_3 p1 p2 (f_X4_goOn_3 p1 p2 n) y3 y4 y5 σ = some R := h
      unfold b_X4_goOn_3 at h
      refine a_iload C dX4_goOn_3 rfl ?_
      refine a_iload_n C dX4_goOn_5 (i := 3) rfl rfl ?_
      refine p_ic_ge C (X := y5.toInt) (Y := y3.toInt) rfl rfl dX4_goOn_6 (tgt := 23) rfl h (fun h => ?_) (fun h => ?_)
      ·
        exact a_vret Rt dX4_goOn_23 (retv_eq (h.trans (congrArg some hR.symm)))
      ·
        refine a_aload_n C dX4_goOn_9 (i := 0) rfl rfl ?_
        refine a_aload_n C dX4_goOn_10 (i := 1) rfl rfl ?_
        refine a_aload_n C dX4_goOn_11 (i := 2) rfl rfl ?_
        refine a_iload C dX4_goOn_12 rfl ?_
        refine p_callVv C (As := [.ref (ad p1), .ref (ad p2), .int y4]) (i := 8) kd_8 (hid 8 (by decide)) ⟨_, _, rfl⟩ (by decide) h (fun _ e => Z_X4_oneBeat hid hp1 hp2 e) mi_X4_oneBeat ml_RX4_18 rfl rfl (Nat.le_of_ble_eq_true rfl) (Nat.le_of_ble_eq_true rfl) (Nat.le_of_ble_eq_true rfl) dX4_goOn_14 (fun σ1 h => ?_)
        refine p_iinc C (y := (y5 + 1)) (fun z3 => [some (.ref (ad 8)), some (.ref (ad p1)), some (.ref (ad p2)), some (.int y3), some (.int y4), some (.int z3)]) dX4_goOn_17 rfl rfl (by decide) rfl (fun _ => rfl) h (fun z3 h => ?_)
        refine a_goto C dX4_goOn_20 (tgt := 3) rfl ?_
        exact ih _ _ _ _ h
  refine a_iconst C dX4_goOn_0 (v := 0) rfl ?_
  refine a_istore C dX4_goOn_1 (by decide) rfl (vs1 := [some (.ref (ad 8)), some (.ref (ad p1)), some (.ref (ad p2)), some (.int x3), some (.int x4), some (.int 0)]) rfl ?_
  exact j3 _ _ _ _ _ h
set_option maxHeartbeats 4000000 in
set_option maxRecDepth 100000 in
theorem Z_X4_goOnSafely {l : Launch} {D : va_G} {ids : List Nat} {ad : Nat → Nat} {ca : Nat → ClassId} {σ : HS} {p1 : Nat} {p2 : Nat} {s0 : HS} (hid : ∀ i, i < 277 → i ∈ ids) (hp1 : txtOK p1) (hp2 : airOK p2) (h : f_X4_goOnSafely p1 p2 σ = some s0) : Kv l D ids ad ca yX4_goOnSafely cX4_goOnSafely 3 5 124 [.ref (ad 8), .ref (ad p1), .ref (ad p2)] σ (fun σ1 => σ1 = s0) := by
  obtain ⟨R, hR⟩ : ∃ R, s0 = R := ⟨_, rfl⟩
  replace h := h.trans (congrArg some hR)
  refine Kv.of (by decide) (Nat.le_of_ble_eq_true rfl) 0 (fun Γ C Rt => ?_)
  show AW ids ad ca Γ 0 [some (.ref (ad 8)), some (.ref (ad p1)), some (.ref (ad p2))] [] σ
  unfold f_X4_goOnSafely at h
  refine a_aload_n C dX4_goOnSafely_0 (i := 0) rfl rfl ?_
  refine a_aload_n C dX4_goOnSafely_1 (i := 1) rfl rfl ?_
  refine a_aload_n C dX4_goOnSafely_2 (i := 2) rfl rfl ?_
  refine a_iconst C dX4_goOnSafely_3 (v := (-1)) rfl ?_
  refine p_callVv C (As := [.ref (ad p1), .ref (ad p2), .int (-1)]) (i := 8) kd_8 (hid 8 (by decide)) ⟨_, _, rfl⟩ (by decide) h (fun _ e => Z_X4_oneBeat hid hp1 hp2 e) mi_X4_oneBeat ml_RX4_18 rfl rfl (Nat.le_of_ble_eq_true rfl) (Nat.le_of_ble_eq_true rfl) (Nat.le_of_ble_eq_true rfl) dX4_goOnSafely_4 (fun σ1 h => ?_)
  exact a_vret Rt dX4_goOnSafely_7 (retv_eq (h.trans (congrArg some hR.symm)))
set_option maxHeartbeats 4000000 in
set_option maxRecDepth 100000 in
theorem Z_X4_inForce {l : Launch} {D : va_G} {ids : List Nat} {ad : Nat → Nat} {ca : Nat → ClassId} {σ : HS} {p1 : Nat} {p2 : Nat} {r0 : Int32} {s0 : HS} (hid : ∀ i, i < 277 → i ∈ ids) (hp1 : txtOK p1) (hp2 : airOK p2) (h : f_X4_inForce p1 p2 σ = some (r0, s0)) : Ki l D ids ad ca yX4_inForce cX4_inForce 4 .int 3 74 [.ref (ad 8), .ref (ad p1), .ref (ad p2)] σ (fun r σ1 => r = r0 ∧ σ1 = s0) := by
  obtain ⟨R, hR⟩ : ∃ R, (r0, s0) = R := ⟨_, rfl⟩
  replace h := h.trans (congrArg some hR)
  refine Ki.of (by decide) (Nat.le_of_ble_eq_true rfl) 1 (fun Γ C Rt => ?_)
  show AW ids ad ca Γ 0 [some (.ref (ad 8)), some (.ref (ad p1)), some (.ref (ad p2)), none] [] σ
  unfold f_X4_inForce at h
  refine a_aload_n C dX4_inForce_0 (i := 2) rfl rfl ?_
  refine p_callVi C (As := []) (i := p2) hp2.1.1 (hid _ hp2.1.2) ⟨_, _, rfl⟩ (by decide) h (fun _ _ e => Z_X0_firstLanding hid hp2 e) mi_X0_firstLanding ml_RX4_22 rfl rfl (Nat.le_of_ble_eq_true rfl) (Nat.le_of_ble_eq_true rfl) (Nat.le_of_ble_eq_true rfl) dX4_inForce_1 (fun r2 σ1 h => ?_)
  refine a_istore_n C dX4_inForce_4 (i := 3) rfl (by decide) rfl (vs1 := [some (.ref (ad 8)), some (.ref (ad p1)), some (.ref (ad p2)), some (.int r2)]) rfl ?_
  refine a_iload_n C dX4_inForce_5 (i := 3) rfl rfl ?_
  refine a_iconst C dX4_inForce_6 (v := (-1)) rfl ?_
  refine p_ic_ne C (X := r2.toInt) (Y := (-1)) rfl (by decide) dX4_inForce_7 (tgt := 12) rfl h (fun h => ?_) (fun h => ?_)
  ·
    refine a_aload_n C dX4_inForce_12 (i := 0) rfl rfl ?_
    refine a_aload_n C dX4_inForce_13 (i := 1) rfl rfl ?_
    refine a_aload_n C dX4_inForce_14 (i := 2) rfl rfl ?_
    refine a_iload_n C dX4_inForce_15 (i := 3) rfl rfl ?_
    refine a_aload_n C dX4_inForce_16 (i := 2) rfl rfl ?_
    refine p_callVi C (As := []) (i := p2) hp2.1.1 (hid _ hp2.1.2) ⟨_, _, rfl⟩ (by decide) h (fun _ _ e => Z_X0_howManyUp hid hp2 e) mi_X0_howManyUp ml_RX4_28 rfl rfl (Nat.le_of_ble_eq_true rfl) (Nat.le_of_ble_eq_true rfl) (Nat.le_of_ble_eq_true rfl) dX4_inForce_17 (fun r4 σ3 h => ?_)
    refine a_aload_n C dX4_inForce_20 (i := 2) rfl rfl ?_
    refine p_callVi C (As := []) (i := p2) hp2.1.1 (hid _ hp2.1.2) ⟨_, _, rfl⟩ (by decide) h (fun _ _ e => Z_X0_howManyLand hid hp2 e) mi_X0_howManyLand ml_RX4_31 rfl rfl (Nat.le_of_ble_eq_true rfl) (Nat.le_of_ble_eq_true rfl) (Nat.le_of_ble_eq_true rfl) dX4_inForce_21 (fun r6 σ5 h => ?_)
    refine a_iconst C dX4_inForce_24 (v := 1) rfl ?_
    refine a_isub C dX4_inForce_25 ?_
    refine a_isub C dX4_inForce_26 ?_
    refine p_callVv C (As := [.ref (ad p1), .ref (ad p2), .int r2, .int (r4 - (r6 - (1 : Int32)))]) (i := 8) kd_8 (hid 8 (by decide)) ⟨_, _, rfl⟩ (by decide) h (fun _ e => Z_X4_lookAt hid hp1 hp2 e) mi_X4_lookAt ml_RX4_34 rfl rfl (Nat.le_of_ble_eq_true rfl) (Nat.le_of_ble_eq_true rfl) (Nat.le_of_ble_eq_true rfl) dX4_inForce_27 (fun σ7 h => ?_)
    refine a_aload_n C dX4_inForce_30 (i := 0) rfl rfl ?_
    refine a_aload_n C dX4_inForce_31 (i := 1) rfl rfl ?_
    refine a_iconst C dX4_inForce_32 (v := 2) rfl ?_
    refine a_iconst C dX4_inForce_33 (v := 0) rfl ?_
    refine p_callVi C (As := [.ref (ad p1), .int 2, .int 0]) (i := 8) kd_8 (hid 8 (by decide)) ⟨_, _, rfl⟩ (by decide) h (fun _ _ e => Z_X4_asks hid hp1 e) mi_X4_asks ml_RX4_38 rfl rfl (Nat.le_of_ble_eq_true rfl) (Nat.le_of_ble_eq_true rfl) (Nat.le_of_ble_eq_true rfl) dX4_inForce_34 (fun r10 σ9 h => ?_)
    exact a_iret Rt dX4_inForce_37 rfl (ret_eq (h.trans (congrArg some hR.symm)))
  ·
    refine a_iconst C dX4_inForce_10 (v := 0) rfl ?_
    exact a_iret Rt dX4_inForce_11 rfl (ret_eq (h.trans (congrArg some hR.symm)))
set_option maxHeartbeats 4000000 in
set_option maxRecDepth 100000 in
theorem Z_X5_clear {l : Launch} {D : va_G} {ids : List Nat} {ad : Nat → Nat} {ca : Nat → ClassId} {σ : HS} {s0 : HS} (hid : ∀ i, i < 277 → i ∈ ids) (h : f_X5_clear σ = some s0) : Kv l D ids ad ca yX5_clear cX5_clear 1 0 0 [.ref (ad 12)] σ (fun σ1 => σ1 = s0) := by
  obtain ⟨R, hR⟩ : ∃ R, s0 = R := ⟨_, rfl⟩
  replace h := h.trans (congrArg some hR)
  refine Kv.of (by decide) (Nat.le_of_ble_eq_true rfl) 0 (fun Γ C Rt => ?_)
  show AW ids ad ca Γ 0 [some (.ref (ad 12))] [] σ
  unfold f_X5_clear at h
  refine a_aload_n C dX5_clear_0 (i := 0) rfl rfl ?_
  refine a_iconst C dX5_clear_1 (v := 0) rfl ?_
  refine p_put C fp_RX5_18 (i := 12) kd_12 (hid 12 (by decide)) rfl rfl dX5_clear_2 h (fun σ1 h => ?_)
  exact a_vret Rt dX5_clear_5 (retv_eq (h.trans (congrArg some hR.symm)))
set_option maxHeartbeats 4000000 in
set_option maxRecDepth 100000 in
theorem Z_X5_keep {l : Launch} {D : va_G} {ids : List Nat} {ad : Nat → Nat} {ca : Nat → ClassId} {σ : HS} {p1 : Nat} {s0 : HS} (hid : ∀ i, i < 277 → i ∈ ids) (hp1 : airOK p1) (h : f_X5_keep p1 σ = some s0) : Kv l D ids ad ca yX5_keep cX5_keep 2 2 81 [.ref (ad 12), .ref (ad p1)] σ (fun σ1 => σ1 = s0) := by
  obtain ⟨R, hR⟩ : ∃ R, s0 = R := ⟨_, rfl⟩
  replace h := h.trans (congrArg some hR)
  refine Kv.of (by decide) (Nat.le_of_ble_eq_true rfl) 0 (fun Γ C Rt => ?_)
  show AW ids ad ca Γ 0 [some (.ref (ad 12)), some (.ref (ad p1))] [] σ
  unfold f_X5_keep at h
  refine a_aload_n C dX5_keep_0 (i := 0) rfl rfl ?_
  refine a_get C fl_RX5_11 (i := 12) kd_12 (hid 12 (by decide)) (v := .ref (ad 13)) rfl dX5_keep_1 ?_
  refine a_aload_n C dX5_keep_4 (i := 0) rfl rfl ?_
  refine a_get C fl_RX5_22 (i := 12) kd_12 (hid 12 (by decide)) (v := .int (σ.1 12 1)) rfl dX5_keep_5 ?_
  refine p_aaldR C hid dX5_keep_8 h (fun hr1 h => ?_)
  refine a_aload_n C dX5_keep_9 (i := 1) rfl rfl ?_
  refine p_callVv C (As := [.ref (ad p1)]) (i := (76 + 4 * (σ.1 12 1).toInt.toNat)) hr1.1.1 (hid _ hr1.1.2) ⟨_, _, rfl⟩ (by decide) h (fun _ e => Z_X0_copy hid hr1 hp1 e) mi_X0_copy ml_RX5_25 rfl rfl (Nat.le_of_ble_eq_true rfl) (Nat.le_of_ble_eq_true rfl) (Nat.le_of_ble_eq_true rfl) dX5_keep_10 (fun σ2 h => ?_)
  refine a_aload_n C dX5_keep_13 (i := 0) rfl rfl ?_
  refine a_aload_n C dX5_keep_14 (i := 0) rfl rfl ?_
  refine a_get C fl_RX5_22 (i := 12) kd_12 (hid 12 (by decide)) (v := .int (σ2.1 12 1)) rfl dX5_keep_15 ?_
  refine a_iconst C dX5_keep_18 (v := 1) rfl ?_
  refine a_iadd C dX5_keep_19 ?_
  refine a_bipush C dX5_keep_20 (v := 40) rfl ?_
  refine a_irem C dX5_keep_22 (by decide) ?_
  refine p_put C fp_RX5_22 (i := 12) kd_12 (hid 12 (by decide)) rfl rfl dX5_keep_23 h (fun σ4 h => ?_)
  refine a_aload_n C dX5_keep_26 (i := 0) rfl rfl ?_
  refine a_bipush C dX5_keep_27 (v := 40) rfl ?_
  refine a_aload_n C dX5_keep_29 (i := 0) rfl rfl ?_
  refine a_get C fl_RX5_18 (i := 12) kd_12 (hid 12 (by decide)) (v := .int (σ4.1 12 2)) rfl dX5_keep_30 ?_
  refine a_iconst C dX5_keep_33 (v := 1) rfl ?_
  refine a_iadd C dX5_keep_34 ?_
  refine a_mmin C dX5_keep_35 mm_RX5_29 mm_min.1 mm_min.2.1 mm_min.2.2 (Nat.le_of_ble_eq_true rfl) (Nat.le_of_ble_eq_true rfl) ?_
  refine p_put C fp_RX5_18 (i := 12) kd_12 (hid 12 (by decide)) rfl rfl dX5_keep_38 h (fun σ5 h => ?_)
  exact a_vret Rt dX5_keep_41 (retv_eq (h.trans (congrArg some hR.symm)))
set_option maxHeartbeats 4000000 in
set_option maxRecDepth 100000 in
theorem Z_X5_giveBack {l : Launch} {D : va_G} {ids : List Nat} {ad : Nat → Nat} {ca : Nat → ClassId} {σ : HS} {p1 : Nat} {r0 : Int32} {s0 : HS} (hid : ∀ i, i < 277 → i ∈ ids) (hp1 : airOK p1) (h : f_X5_giveBack p1 σ = some (r0, s0)) : Ki l D ids ad ca yX5_giveBack cX5_giveBack 2 .boolean 2 81 [.ref (ad 12), .ref (ad p1)] σ (fun r σ1 => r = r0 ∧ σ1 = s0) := by
  obtain ⟨R, hR⟩ : ∃ R, (r0, s0) = R := ⟨_, rfl⟩
  replace h := h.trans (congrArg some hR)
  refine Ki.of (by decide) (Nat.le_of_ble_eq_true rfl) 0 (fun Γ C Rt => ?_)
  show AW ids ad ca Γ 0 [some (.ref (ad 12)), some (.ref (ad p1))] [] σ
  unfold f_X5_giveBack at h
  refine a_aload_n C dX5_giveBack_0 (i := 0) rfl rfl ?_
  refine a_get C fl_RX5_18 (i := 12) kd_12 (hid 12 (by decide)) (v := .int (σ.1 12 2)) rfl dX5_giveBack_1 ?_
  refine p_if_ne C (X := (σ.1 12 2).toInt) rfl dX5_giveBack_4 (tgt := 9) rfl h (fun h => ?_) (fun h => ?_)
  ·
    refine a_aload_n C dX5_giveBack_9 (i := 0) rfl rfl ?_
    refine a_aload_n C dX5_giveBack_10 (i := 0) rfl rfl ?_
    refine a_get C fl_RX5_22 (i := 12) kd_12 (hid 12 (by decide)) (v := .int (σ.1 12 1)) rfl dX5_giveBack_11 ?_
    refine a_bipush C dX5_giveBack_14 (v := 40) rfl ?_
    refine a_iadd C dX5_giveBack_16 ?_
    refine a_iconst C dX5_giveBack_17 (v := 1) rfl ?_
    refine a_isub C dX5_giveBack_18 ?_
    refine a_bipush C dX5_giveBack_19 (v := 40) rfl ?_
    refine a_irem C dX5_giveBack_21 (by decide) ?_
    refine p_put C fp_RX5_22 (i := 12) kd_12 (hid 12 (by decide)) rfl rfl dX5_giveBack_22 h (fun σ1 h => ?_)
    refine a_aload_n C dX5_giveBack_25 (i := 1) rfl rfl ?_
    refine a_aload_n C dX5_giveBack_26 (i := 0) rfl rfl ?_
    refine a_get C fl_RX5_11 (i := 12) kd_12 (hid 12 (by decide)) (v := .ref (ad 13)) rfl dX5_giveBack_27 ?_
    refine a_aload_n C dX5_giveBack_30 (i := 0) rfl rfl ?_
    refine a_get C fl_RX5_22 (i := 12) kd_12 (hid 12 (by decide)) (v := .int (σ1.1 12 1)) rfl dX5_giveBack_31 ?_
    refine p_aaldR C hid dX5_giveBack_34 h (fun hr2 h => ?_)
    refine p_callVv C (As := [.ref (ad (76 + 4 * (σ1.1 12 1).toInt.toNat))]) (i := p1) hp1.1.1 (hid _ hp1.1.2) ⟨_, _, rfl⟩ (by decide) h (fun _ e => Z_X0_copy hid hp1 hr2 e) mi_X0_copy ml_RX5_25 rfl rfl (Nat.le_of_ble_eq_true rfl) (Nat.le_of_ble_eq_true rfl) (Nat.le_of_ble_eq_true rfl) dX5_giveBack_35 (fun σ3 h => ?_)
    refine a_aload_n C dX5_giveBack_38 (i := 0) rfl rfl ?_
    refine a_dup C dX5_giveBack_39 rfl ?_
    refine a_get C fl_RX5_18 (i := 12) kd_12 (hid 12 (by decide)) (v := .int (σ3.1 12 2)) rfl dX5_giveBack_40 ?_
    refine a_iconst C dX5_giveBack_43 (v := 1) rfl ?_
    refine a_isub C dX5_giveBack_44 ?_
    refine p_put C fp_RX5_18 (i := 12) kd_12 (hid 12 (by decide)) rfl rfl dX5_giveBack_45 h (fun σ5 h => ?_)
    refine a_iconst C dX5_giveBack_48 (v := 1) rfl ?_
    exact a_iret Rt dX5_giveBack_49 (nar_z (by decide)).1 (ret_eq (h.trans (congrArg some hR.symm)))
  ·
    refine a_iconst C dX5_giveBack_7 (v := 0) rfl ?_
    exact a_iret Rt dX5_giveBack_8 (nar_z (by decide)).1 (ret_eq (h.trans (congrArg some hR.symm)))
set_option maxHeartbeats 4000000 in
set_option maxRecDepth 100000 in
theorem Z_X10_emit {l : Launch} {D : va_G} {ids : List Nat} {ad : Nat → Nat} {ca : Nat → ClassId} {σ : HS} {t : Nat} {x1 : Int32} {s0 : HS} (hid : ∀ i, i < 277 → i ∈ ids) (ht : txtOK t) (h : f_X10_emit t x1 σ = some s0) : Kv l D ids ad ca yX10_emit cX10_emit 2 0 0 [.ref (ad t), .int x1] σ (fun σ1 => σ1 = s0) := by
  obtain ⟨R, hR⟩ : ∃ R, s0 = R := ⟨_, rfl⟩
  replace h := h.trans (congrArg some hR)
  refine Kv.of (by decide) (Nat.le_of_ble_eq_true rfl) 0 (fun Γ C Rt => ?_)
  show AW ids ad ca Γ 0 [some (.ref (ad t)), some (.int x1)] [] σ
  unfold f_X10_emit at h
  refine a_aload_n C dX10_emit_0 (i := 0) rfl rfl ?_
  refine a_get C fl_RX10_51 (i := t) ht.1.1 (hid _ ht.1.2) (v := .int (σ.1 t 8)) rfl dX10_emit_1 ?_
  refine a_aload_n C dX10_emit_4 (i := 0) rfl rfl ?_
  refine a_get C fl_RX10_29 (i := t) ht.1.1 (hid _ ht.1.2) (v := .ref (ad (t + 11))) rfl dX10_emit_5 ?_
  refine a_alen C (by rw [ht.2.2.2.2.2.1.1.1]; decide) (hid _ ht.2.2.2.2.2.1.1.2) rfl dX10_emit_8 ?_
  refine p_ic_ge C (X := (σ.1 t 8).toInt) (Y := (Int32.ofNat (al (t + 11))).toInt) rfl rfl dX10_emit_9 (tgt := 32) rfl h (fun h => ?_) (fun h => ?_)
  ·
    exact a_vret Rt dX10_emit_32 (retv_eq (h.trans (congrArg some hR.symm)))
  ·
    refine a_aload_n C dX10_emit_12 (i := 0) rfl rfl ?_
    refine a_get C fl_RX10_29 (i := t) ht.1.1 (hid _ ht.1.2) (v := .ref (ad (t + 11))) rfl dX10_emit_13 ?_
    refine a_aload_n C dX10_emit_16 (i := 0) rfl rfl ?_
    refine a_get C fl_RX10_51 (i := t) ht.1.1 (hid _ ht.1.2) (v := .int (σ.1 t 8)) rfl dX10_emit_17 ?_
    refine a_iload_n C dX10_emit_20 (i := 1) rfl rfl ?_
    refine p_iast C (i := (t + 11)) ht.2.2.2.2.2.1.1 hid (by rw [ht.2.2.2.2.2.1.2]; rfl) dX10_emit_21 h (fun σ1 h => ?_)
    refine a_aload_n C dX10_emit_22 (i := 0) rfl rfl ?_
    refine a_dup C dX10_emit_23 rfl ?_
    refine a_get C fl_RX10_51 (i := t) ht.1.1 (hid _ ht.1.2) (v := .int (σ1.1 t 8)) rfl dX10_emit_24 ?_
    refine a_iconst C dX10_emit_27 (v := 1) rfl ?_
    refine a_iadd C dX10_emit_28 ?_
    refine p_put C fp_RX10_51 (i := t) ht.1.1 (hid _ ht.1.2) rfl rfl dX10_emit_29 h (fun σ2 h => ?_)
    exact a_vret Rt dX10_emit_32 (retv_eq (h.trans (congrArg some hR.symm)))

set_option maxHeartbeats 4000000 in
set_option maxRecDepth 100000 in
theorem Z_X10_clear {l : Launch} {D : va_G} {ids : List Nat} {ad : Nat → Nat} {ca : Nat → ClassId} {σ : HS} {t : Nat} {s0 : HS} (hid : ∀ i, i < 277 → i ∈ ids) (ht : txtOK t) (h : f_X10_clear t σ = some s0) : Kv l D ids ad ca yX10_clear cX10_clear 2 1 21 [.ref (ad t)] σ (fun σ1 => σ1 = s0) := by
  obtain ⟨R, hR⟩ : ∃ R, s0 = R := ⟨_, rfl⟩
  replace h := h.trans (congrArg some hR)
  refine Kv.of (by decide) (Nat.le_of_ble_eq_true rfl) 1 (fun Γ C Rt => ?_)
  show AW ids ad ca Γ 0 [some (.ref (ad t)), none] [] σ
  unfold f_X10_clear at h
  have j54 : ∀ (k27 : Int32 → HS → Option (HS)) (hk27 : ∀ (y1 : Int32) (σ : HS), k27 y1 σ = some R → AW ids ad ca Γ 27 [some (.ref (ad t)), some (.int y1)] [] σ) (y1 : Int32) (v0 : Int32) (σ : HS), f_X10_clear_54 t k27 y1 v0 σ = some R → AW ids ad ca Γ 54 [some (.ref (ad t)), some (.int y1)] [.int v0, .ref (ad t)] σ := by
    intro k27 hk27 y1 v0 σ h
    unfold f_X10_clear_54 at h
    refine p_callVv C (As := [.int v0]) (i := t) ht.1.1 (hid _ ht.1.2) ⟨_, _, rfl⟩ (by decide) h (fun _ e => Z_X10_emit hid ht e) mi_X10_emit ml_RX10_54 rfl rfl (Nat.le_of_ble_eq_true rfl) (Nat.le_of_ble_eq_true rfl) (Nat.le_of_ble_eq_true rfl) dX10_clear_54 (fun σ1 h => ?_)
    refine a_aload_n C dX10_clear_57 (i := 0) rfl rfl ?_
    refine a_bipush C dX10_clear_58 (v := (-6)) rfl ?_
    refine p_callVv C (As := [.int (-6)]) (i := t) ht.1.1 (hid _ ht.1.2) ⟨_, _, rfl⟩ (by decide) h (fun _ e => Z_X10_emit hid ht e) mi_X10_emit ml_RX10_54 rfl rfl (Nat.le_of_ble_eq_true rfl) (Nat.le_of_ble_eq_true rfl) (Nat.le_of_ble_eq_true rfl) dX10_clear_60 (fun σ3 h => ?_)
    refine p_iinc C (y := (y1 + 1)) (fun z5 => [some (.ref (ad t)), some (.int z5)]) dX10_clear_63 rfl rfl (by decide) rfl (fun _ => rfl) h (fun z5 h => ?_)
    refine a_goto C dX10_clear_66 (tgt := 27) rfl ?_
    exact hk27 _ _ h
  have j27 : ∀ (n : Nat) (y1 : Int32) (σ : HS), f_X10_clear_27 t n y1 σ = some R → AW ids ad ca Γ 27 [some (.ref (ad t)), some (.int y1)] [] σ := by
    intro n
    induction n with
    | zero => intro y1 σ h; exact nn h
    | succ n ih =>
      intro y1 σ h
      have h : b_X10_clear_27 t (f_X10_clear_27 t n) y1 σ = some R := h
      unfold b_X10_clear_27 at h
      refine a_iload_n C dX10_clear_27 (i := 1) rfl rfl ?_
      refine a_iconst C dX10_clear_28 (v := 4) rfl ?_
      refine p_ic_ge C (X := y1.toInt) (Y := 4) rfl (by decide) dX10_clear_29 (tgt := 69) rfl h (fun h => ?_) (fun h => ?_)
      ·
        exact a_vret Rt dX10_clear_69 (retv_eq (h.trans (congrArg some hR.symm)))
      ·
        refine a_aload_n C dX10_clear_32 (i := 0) rfl rfl ?_
        refine a_get C fl_RX10_32 (i := t) ht.1.1 (hid _ ht.1.2) (v := .ref (ad (t + 12))) rfl dX10_clear_33 ?_
        refine a_iload_n C dX10_clear_36 (i := 1) rfl rfl ?_
        refine a_aload_n C dX10_clear_37 (i := 0) rfl rfl ?_
        refine a_get C fl_RX10_51 (i := t) ht.1.1 (hid _ ht.1.2) (v := .int (σ.1 t 8)) rfl dX10_clear_38 ?_
        refine p_iast C (i := (t + 12)) ht.2.2.2.2.2.2.1.1 hid (by rw [ht.2.2.2.2.2.2.1.2]; rfl) dX10_clear_41 h (fun σ1 h => ?_)
        refine a_aload_n C dX10_clear_42 (i := 0) rfl rfl ?_
        refine a_iload_n C dX10_clear_43 (i := 1) rfl rfl ?_
        refine a_iconst C dX10_clear_44 (v := 2) rfl ?_
        refine p_ic_ne C (X := y1.toInt) (Y := 2) rfl (by decide) dX10_clear_45 (tgt := 53) rfl h (fun h => ?_) (fun h => ?_)
        ·
          refine a_iconst C dX10_clear_53 (v := 0) rfl ?_
          exact j54 (f_X10_clear_27 t n) (fun y1 σ h => ih y1 σ h) _ _ _ h
        ·
          refine a_bipush C dX10_clear_48 (v := (-11)) rfl ?_
          refine a_goto C dX10_clear_50 (tgt := 54) rfl ?_
          exact j54 (f_X10_clear_27 t n) (fun y1 σ h => ih y1 σ h) _ _ _ h
  refine a_aload_n C dX10_clear_0 (i := 0) rfl rfl ?_
  refine a_iconst C dX10_clear_1 (v := 0) rfl ?_
  refine p_put C fp_RX10_38 (i := t) ht.1.1 (hid _ ht.1.2) rfl rfl dX10_clear_2 h (fun σ1 h => ?_)
  refine a_aload_n C dX10_clear_5 (i := 0) rfl rfl ?_
  refine a_iconst C dX10_clear_6 (v := 0) rfl ?_
  refine p_put C fp_RX10_42 (i := t) ht.1.1 (hid _ ht.1.2) rfl rfl dX10_clear_7 h (fun σ2 h => ?_)
  refine a_aload_n C dX10_clear_10 (i := 0) rfl rfl ?_
  refine a_iconst C dX10_clear_11 (v := 1) rfl ?_
  refine p_put C fp_RX10_45 (i := t) ht.1.1 (hid _ ht.1.2) rfl rfl dX10_clear_12 h (fun σ3 h => ?_)
  refine a_aload_n C dX10_clear_15 (i := 0) rfl rfl ?_
  refine a_iconst C dX10_clear_16 (v := 0) rfl ?_
  refine p_put C fp_RX10_48 (i := t) ht.1.1 (hid _ ht.1.2) rfl rfl dX10_clear_17 h (fun σ4 h => ?_)
  refine a_aload_n C dX10_clear_20 (i := 0) rfl rfl ?_
  refine a_iconst C dX10_clear_21 (v := 0) rfl ?_
  refine p_put C fp_RX10_51 (i := t) ht.1.1 (hid _ ht.1.2) rfl rfl dX10_clear_22 h (fun σ5 h => ?_)
  refine a_iconst C dX10_clear_25 (v := 0) rfl ?_
  refine a_istore_n C dX10_clear_26 (i := 1) rfl (by decide) rfl (vs1 := [some (.ref (ad t)), some (.int 0)]) rfl ?_
  exact j27 _ _ _ h
set_option maxHeartbeats 4000000 in
set_option maxRecDepth 100000 in
theorem Z_X9_isLetter {l : Launch} {D : va_G} {ids : List Nat} {ad : Nat → Nat} {ca : Nat → ClassId} {σ : HS} {x1 : Int32} {r0 : Int32} {s0 : HS} (hid : ∀ i, i < 277 → i ∈ ids) (h : f_X9_isLetter x1 σ = some (r0, s0)) : Ki l D ids ad ca yX9_isLetter cX9_isLetter 1 .boolean 0 0 [.int x1] σ (fun r σ1 => r = r0 ∧ σ1 = s0) := by
  obtain ⟨R, hR⟩ : ∃ R, (r0, s0) = R := ⟨_, rfl⟩
  replace h := h.trans (congrArg some hR)
  refine Ki.of (by decide) (Nat.le_of_ble_eq_true rfl) 0 (fun Γ C Rt => ?_)
  show AW ids ad ca Γ 0 [some (.int x1)] [] σ
  unfold f_X9_isLetter at h
  refine a_iload_n C dX9_isLetter_0 (i := 0) rfl rfl ?_
  refine a_bipush C dX9_isLetter_1 (v := 97) rfl ?_
  refine p_ic_lt C (X := x1.toInt) (Y := 97) rfl (by decide) dX9_isLetter_3 (tgt := 16) rfl h (fun h => ?_) (fun h => ?_)
  ·
    refine a_iconst C dX9_isLetter_16 (v := 0) rfl ?_
    exact a_iret Rt dX9_isLetter_17 (nar_z (by decide)).1 (ret_eq (h.trans (congrArg some hR.symm)))
  ·
    refine a_iload_n C dX9_isLetter_6 (i := 0) rfl rfl ?_
    refine a_bipush C dX9_isLetter_7 (v := 122) rfl ?_
    refine p_ic_gt C (X := x1.toInt) (Y := 122) rfl (by decide) dX9_isLetter_9 (tgt := 16) rfl h (fun h => ?_) (fun h => ?_)
    ·
      refine a_iconst C dX9_isLetter_16 (v := 0) rfl ?_
      exact a_iret Rt dX9_isLetter_17 (nar_z (by decide)).1 (ret_eq (h.trans (congrArg some hR.symm)))
    ·
      refine a_iconst C dX9_isLetter_12 (v := 1) rfl ?_
      refine a_goto C dX9_isLetter_13 (tgt := 17) rfl ?_
      exact a_iret Rt dX9_isLetter_17 (nar_z (by decide)).1 (ret_eq (h.trans (congrArg some hR.symm)))
set_option maxHeartbeats 4000000 in
set_option maxRecDepth 100000 in
theorem Z_X9_isDigit {l : Launch} {D : va_G} {ids : List Nat} {ad : Nat → Nat} {ca : Nat → ClassId} {σ : HS} {x1 : Int32} {r0 : Int32} {s0 : HS} (hid : ∀ i, i < 277 → i ∈ ids) (h : f_X9_isDigit x1 σ = some (r0, s0)) : Ki l D ids ad ca yX9_isDigit cX9_isDigit 1 .boolean 0 0 [.int x1] σ (fun r σ1 => r = r0 ∧ σ1 = s0) := by
  obtain ⟨R, hR⟩ : ∃ R, (r0, s0) = R := ⟨_, rfl⟩
  replace h := h.trans (congrArg some hR)
  refine Ki.of (by decide) (Nat.le_of_ble_eq_true rfl) 0 (fun Γ C Rt => ?_)
  show AW ids ad ca Γ 0 [some (.int x1)] [] σ
  unfold f_X9_isDigit at h
  refine a_iload_n C dX9_isDigit_0 (i := 0) rfl rfl ?_
  refine a_bipush C dX9_isDigit_1 (v := 48) rfl ?_
  refine p_ic_lt C (X := x1.toInt) (Y := 48) rfl (by decide) dX9_isDigit_3 (tgt := 16) rfl h (fun h => ?_) (fun h => ?_)
  ·
    refine a_iconst C dX9_isDigit_16 (v := 0) rfl ?_
    exact a_iret Rt dX9_isDigit_17 (nar_z (by decide)).1 (ret_eq (h.trans (congrArg some hR.symm)))
  ·
    refine a_iload_n C dX9_isDigit_6 (i := 0) rfl rfl ?_
    refine a_bipush C dX9_isDigit_7 (v := 57) rfl ?_
    refine p_ic_gt C (X := x1.toInt) (Y := 57) rfl (by decide) dX9_isDigit_9 (tgt := 16) rfl h (fun h => ?_) (fun h => ?_)
    ·
      refine a_iconst C dX9_isDigit_16 (v := 0) rfl ?_
      exact a_iret Rt dX9_isDigit_17 (nar_z (by decide)).1 (ret_eq (h.trans (congrArg some hR.symm)))
    ·
      refine a_iconst C dX9_isDigit_12 (v := 1) rfl ?_
      refine a_goto C dX9_isDigit_13 (tgt := 17) rfl ?_
      exact a_iret Rt dX9_isDigit_17 (nar_z (by decide)).1 (ret_eq (h.trans (congrArg some hR.symm)))
set_option maxHeartbeats 4000000 in
set_option maxRecDepth 100000 in
theorem Z_J1_canEncode_9a6ad {l : Launch} {D : va_G} {ids : List Nat} {ad : Nat → Nat} {ca : Nat → ClassId} {K : (Nat → Nat) × (Nat → Nat)} {σ : HS} {x1 : Int32} {r0 : Int32} {s0 : HS} (hid : ∀ i, i < 277 → i ∈ ids) (h : f_J1_canEncode_9a6ad x1 σ = some (r0, s0)) : KiS l D ids ad ca K yJ1_canEncode_9a6ad cJ1_canEncode_9a6ad 1 .boolean 0 0 [.int x1] σ (fun r σ1 => r = r0 ∧ σ1 = s0) := by
  obtain ⟨R, hR⟩ : ∃ R, (r0, s0) = R := ⟨_, rfl⟩
  replace h := h.trans (congrArg some hR)
  refine KiS.ofF (by decide +kernel) (Nat.le_of_ble_eq_true rfl) 0 (fun Γ C E Rt => ?_)
  show AW ids ad ca Γ 0 [some (.int x1)] [] σ
  unfold f_J1_canEncode_9a6ad at h
  refine a_iload_n C dJ1_canEncode_9a6ad_0 (i := 0) rfl rfl ?_
  refine p_if_lt C (X := x1.toInt) rfl dJ1_canEncode_9a6ad_1 (tgt := 15) rfl h (fun h => ?_) (fun h => ?_)
  ·
    refine a_iconst C dJ1_canEncode_9a6ad_15 (v := 0) rfl ?_
    exact a_iret Rt dJ1_canEncode_9a6ad_16 (nar_z (by decide)).1 (ret_eq (h.trans (congrArg some hR.symm)))
  ·
    refine a_iload_n C dJ1_canEncode_9a6ad_4 (i := 0) rfl rfl ?_
    refine a_sipush C dJ1_canEncode_9a6ad_5 (v := 255) rfl ?_
    refine p_ic_gt C (X := x1.toInt) (Y := 255) rfl (by decide) dJ1_canEncode_9a6ad_8 (tgt := 15) rfl h (fun h => ?_) (fun h => ?_)
    ·
      refine a_iconst C dJ1_canEncode_9a6ad_15 (v := 0) rfl ?_
      exact a_iret Rt dJ1_canEncode_9a6ad_16 (nar_z (by decide)).1 (ret_eq (h.trans (congrArg some hR.symm)))
    ·
      refine a_iconst C dJ1_canEncode_9a6ad_11 (v := 1) rfl ?_
      refine a_goto C dJ1_canEncode_9a6ad_12 (tgt := 16) rfl ?_
      exact a_iret Rt dJ1_canEncode_9a6ad_16 (nar_z (by decide)).1 (ret_eq (h.trans (congrArg some hR.symm)))
set_option maxHeartbeats 4000000 in
set_option maxRecDepth 100000 in
theorem Z_J1_indexOfChar_4cfef {l : Launch} {D : va_G} {ids : List Nat} {ad : Nat → Nat} {ca : Nat → ClassId} {K : (Nat → Nat) × (Nat → Nat)} {σ : HS} {x2 : Int32} {x3 : Int32} {x4 : Int32} {r0 : Int32} {s0 : HS} (hid : ∀ i, i < 277 → i ∈ ids) (h : f_J1_indexOfChar_4cfef x2 x3 x4 σ = some (r0, s0)) : KiS l D ids ad ca K yJ1_indexOfChar_4cfef cJ1_indexOfChar_4cfef 6 .int 0 0 [.ref (K.2 1), .int x2, .int x3, .int x4] σ (fun r σ1 => r = r0 ∧ σ1 = s0) := by
  obtain ⟨R, hR⟩ : ∃ R, (r0, s0) = R := ⟨_, rfl⟩
  replace h := h.trans (congrArg some hR)
  refine KiS.ofF (by decide +kernel) (Nat.le_of_ble_eq_true rfl) 2 (fun Γ C E Rt => ?_)
  show AW ids ad ca Γ 0 [some (.ref (K.2 1)), some (.int x2), some (.int x3), some (.int x4), none, none] [] σ
  unfold f_J1_indexOfChar_4cfef at h
  have j7 : ∀ (n : Nat) (y3 : Int32) (y4 : Int32) (y5 : Int32) (σ : HS), f_J1_indexOfChar_4cfef_7 n y3 y4 y5 σ = some R → AW ids ad ca Γ 7 [some (.ref (K.2 1)), none, none, some (.int y3), some (.int y4), some (.int y5)] [] σ := by
    intro n
    induction n with
    | zero => intro y3 y4 y5 σ h; exact nn h
    | succ n ih =>
      intro y3 y4 y5 σ h
      have h : b_J1_indexOfChar_4cfef_7 (f_J1_indexOfChar_4cfef_7 n) y3 y4 y5 σ = some R := h
      unfold b_J1_indexOfChar_4cfef_7 at h
      refine a_iload C dJ1_indexOfChar_4cfef_7 rfl ?_
      refine a_iload_n C dJ1_indexOfChar_4cfef_9 (i := 3) rfl rfl ?_
      refine p_ic_ge C (X := y5.toInt) (Y := y3.toInt) rfl rfl dJ1_indexOfChar_4cfef_10 (tgt := 31) rfl h (fun h => ?_) (fun h => ?_)
      ·
        refine a_iconst C dJ1_indexOfChar_4cfef_31 (v := (-1)) rfl ?_
        exact a_iret Rt dJ1_indexOfChar_4cfef_32 rfl (ret_eq (h.trans (congrArg some hR.symm)))
      ·
        refine a_aload_n C dJ1_indexOfChar_4cfef_13 (i := 0) rfl rfl ?_
        refine a_iload C dJ1_indexOfChar_4cfef_14 rfl ?_
        refine p_sbald C E (i := 1) (by decide) (N := 9) rfl dJ1_indexOfChar_4cfef_16 h (fun h => ?_)
        refine a_iload C dJ1_indexOfChar_4cfef_17 rfl ?_
        refine p_ic_ne C (X := ((bytS.getD 1 []).getD y5.toInt.toNat 0).toInt) (Y := y4.toInt) rfl rfl dJ1_indexOfChar_4cfef_19 (tgt := 25) rfl h (fun h => ?_) (fun h => ?_)
        ·
          refine p_iinc C (y := (y5 + 1)) (fun z1 => [some (.ref (K.2 1)), none, none, some (.int y3), some (.int y4), some (.int z1)]) dJ1_indexOfChar_4cfef_25 rfl rfl (by decide) rfl (fun _ => rfl) h (fun z1 h => ?_)
          refine a_goto C dJ1_indexOfChar_4cfef_28 (tgt := 7) rfl ?_
          exact ih _ _ _ _ h
        ·
          refine a_iload C dJ1_indexOfChar_4cfef_22 rfl ?_
          exact a_iret Rt dJ1_indexOfChar_4cfef_24 rfl (ret_eq (h.trans (congrArg some hR.symm)))
  refine a_iload_n C dJ1_indexOfChar_4cfef_0 (i := 1) rfl rfl ?_
  refine a_i2b C dJ1_indexOfChar_4cfef_1 ?_
  refine p_istore C (fun z1 => [some (.ref (K.2 1)), some (.int x2), some (.int x3), some (.int x4), some (.int z1), none]) dJ1_indexOfChar_4cfef_2 (by decide) rfl (fun _ => rfl) h (fun z1 h => ?_)
  refine a_iload_n C dJ1_indexOfChar_4cfef_4 (i := 2) rfl rfl ?_
  refine a_istore C dJ1_indexOfChar_4cfef_5 (by decide) rfl (vs1 := [some (.ref (K.2 1)), some (.int x2), some (.int x3), some (.int x4), some (.int z1), some (.int x3)]) rfl ?_
  refine AW.sub (vs' := [some (.ref (K.2 1)), none, none, some (.int x4), some (.int z1), some (.int x3)]) (lsub_of (by simp [lsubB])) ?_
  exact j7 _ _ _ _ _ h
set_option maxHeartbeats 4000000 in
set_option maxRecDepth 100000 in
theorem Z_J1_indexOf_4cfef {l : Launch} {D : va_G} {ids : List Nat} {ad : Nat → Nat} {ca : Nat → ClassId} {K : (Nat → Nat) × (Nat → Nat)} {σ : HS} {x2 : Int32} {x3 : Int32} {x4 : Int32} {r0 : Int32} {s0 : HS} (hid : ∀ i, i < 277 → i ∈ ids) (h : f_J1_indexOf_4cfef x2 x3 x4 σ = some (r0, s0)) : KiS l D ids ad ca K yJ1_indexOf_4cfef cJ1_indexOf_4cfef 4 .int 1 25 [.ref (K.2 1), .int x2, .int x3, .int x4] σ (fun r σ1 => r = r0 ∧ σ1 = s0) := by
  obtain ⟨R, hR⟩ : ∃ R, (r0, s0) = R := ⟨_, rfl⟩
  replace h := h.trans (congrArg some hR)
  refine KiS.ofF (by decide +kernel) (Nat.le_of_ble_eq_true rfl) 0 (fun Γ C E Rt => ?_)
  show AW ids ad ca Γ 0 [some (.ref (K.2 1)), some (.int x2), some (.int x3), some (.int x4)] [] σ
  unfold f_J1_indexOf_4cfef at h
  refine a_iload_n C dJ1_indexOf_4cfef_0 (i := 1) rfl rfl ?_
  refine p_cSiS C E (As := [.int x2]) h (fun _ _ e => Z_J1_canEncode_9a6ad hid e) ms_J1_canEncode_9a6ad ml_RJ1_88 rfl rfl (Nat.le_of_ble_eq_true rfl) (Nat.le_of_ble_eq_true rfl) (Nat.le_of_ble_eq_true rfl) dJ1_indexOf_4cfef_1 (fun r2 σ1 h => ?_)
  refine p_if_ne C (X := r2.toInt) rfl dJ1_indexOf_4cfef_4 (tgt := 9) rfl h (fun h => ?_) (fun h => ?_)
  ·
    refine a_iload_n C dJ1_indexOf_4cfef_9 (i := 2) rfl rfl ?_
    refine a_iconst C dJ1_indexOf_4cfef_10 (v := 0) rfl ?_
    refine a_mmax C dJ1_indexOf_4cfef_11 mm_RJ1_92 mm_max.1 mm_max.2.1 mm_max.2.2 (Nat.le_of_ble_eq_true rfl) (Nat.le_of_ble_eq_true rfl) ?_
    refine p_istore_n C (fun z3 => [some (.ref (K.2 1)), some (.int x2), some (.int z3), some (.int x4)]) dJ1_indexOf_4cfef_14 (i := 2) rfl (by decide) rfl (fun _ => rfl) h (fun z3 h => ?_)
    refine a_iload_n C dJ1_indexOf_4cfef_15 (i := 3) rfl rfl ?_
    refine a_aload_n C dJ1_indexOf_4cfef_16 (i := 0) rfl rfl ?_
    refine a_slen C E (i := 1) (by decide) dJ1_indexOf_4cfef_17 ?_
    refine a_mmin C dJ1_indexOf_4cfef_18 mm_RJ1_38 mm_min.1 mm_min.2.1 mm_min.2.2 (Nat.le_of_ble_eq_true rfl) (Nat.le_of_ble_eq_true rfl) ?_
    refine p_istore_n C (fun z4 => [some (.ref (K.2 1)), some (.int x2), some (.int z3), some (.int z4)]) dJ1_indexOf_4cfef_21 (i := 3) rfl (by decide) rfl (fun _ => rfl) h (fun z4 h => ?_)
    refine a_iload_n C dJ1_indexOf_4cfef_22 (i := 2) rfl rfl ?_
    refine a_iload_n C dJ1_indexOf_4cfef_23 (i := 3) rfl rfl ?_
    refine p_ic_lt C (X := z3.toInt) (Y := z4.toInt) rfl rfl dJ1_indexOf_4cfef_24 (tgt := 29) rfl h (fun h => ?_) (fun h => ?_)
    ·
      refine a_aload_n C dJ1_indexOf_4cfef_29 (i := 0) rfl rfl ?_
      refine a_iload_n C dJ1_indexOf_4cfef_30 (i := 1) rfl rfl ?_
      refine a_iload_n C dJ1_indexOf_4cfef_31 (i := 2) rfl rfl ?_
      refine a_iload_n C dJ1_indexOf_4cfef_32 (i := 3) rfl rfl ?_
      refine p_cSiS C E (As := [.ref (K.2 1), .int x2, .int z3, .int z4]) h (fun _ _ e => Z_J1_indexOfChar_4cfef hid e) ms_J1_indexOfChar_4cfef ml_RJ1_95 rfl rfl (Nat.le_of_ble_eq_true rfl) (Nat.le_of_ble_eq_true rfl) (Nat.le_of_ble_eq_true rfl) dJ1_indexOf_4cfef_33 (fun r6 σ5 h => ?_)
      exact a_iret Rt dJ1_indexOf_4cfef_36 rfl (ret_eq (h.trans (congrArg some hR.symm)))
    ·
      refine a_iconst C dJ1_indexOf_4cfef_27 (v := (-1)) rfl ?_
      exact a_iret Rt dJ1_indexOf_4cfef_28 rfl (ret_eq (h.trans (congrArg some hR.symm)))
  ·
    refine a_iconst C dJ1_indexOf_4cfef_7 (v := (-1)) rfl ?_
    exact a_iret Rt dJ1_indexOf_4cfef_8 rfl (ret_eq (h.trans (congrArg some hR.symm)))
set_option maxHeartbeats 4000000 in
set_option maxRecDepth 100000 in
theorem Z_J0_indexOf_7cf53 {l : Launch} {D : va_G} {ids : List Nat} {ad : Nat → Nat} {ca : Nat → ClassId} {K : (Nat → Nat) × (Nat → Nat)} {σ : HS} {x1 : Int32} {x2 : Int32} {r0 : Int32} {s0 : HS} (hid : ∀ i, i < 277 → i ∈ ids) (h : f_J0_indexOf_7cf53 x1 x2 σ = some (r0, s0)) : KiS l D ids ad ca K yJ0_indexOf_7cf53 cJ0_indexOf_7cf53 3 .int 2 48 [.ref (K.1 1), .int x1, .int x2] σ (fun r σ1 => r = r0 ∧ σ1 = s0) := by
  obtain ⟨R, hR⟩ : ∃ R, (r0, s0) = R := ⟨_, rfl⟩
  replace h := h.trans (congrArg some hR)
  refine KiS.ofF (by decide +kernel) (Nat.le_of_ble_eq_true rfl) 0 (fun Γ C E Rt => ?_)
  show AW ids ad ca Γ 0 [some (.ref (K.1 1)), some (.int x1), some (.int x2)] [] σ
  unfold f_J0_indexOf_7cf53 at h
  refine a_aload_n C dJ0_indexOf_7cf53_0 (i := 0) rfl rfl ?_
  refine a_cTiS C E (As := []) (i := 1) (by decide) rfl (J_isLatin1 (by decide)) mi_J0_isLatin1_aae02 ml_RJ0_492 rfl rfl (Nat.le_of_ble_eq_true rfl) (Nat.le_of_ble_eq_true rfl) (Nat.le_of_ble_eq_true rfl) dJ0_indexOf_7cf53_1 (fun r s q => ?_)
  obtain ⟨rfl, rfl⟩ := q
  refine p_if_eq C (X := 1) (by decide) dJ0_indexOf_7cf53_4 (tgt := 23) rfl h (fun h => ?_) (fun h => ?_)
  ·
    refine a_aload_n C dJ0_indexOf_7cf53_23 (i := 0) rfl rfl ?_
    refine a_sval C E (i := 1) (by decide) fw_val dJ0_indexOf_7cf53_24 ?_
    refine a_iload_n C dJ0_indexOf_7cf53_27 (i := 1) rfl rfl ?_
    refine a_iload_n C dJ0_indexOf_7cf53_28 (i := 2) rfl rfl ?_
    refine a_aload_n C dJ0_indexOf_7cf53_29 (i := 0) rfl rfl ?_
    refine p_strlen C E (i := 1) (As := []) (by decide) mi_J0_length_8abf5 ml_RJ0_505 rfl (Nat.le_of_ble_eq_true rfl) (Nat.le_of_ble_eq_true rfl) (Nat.le_of_ble_eq_true rfl) dJ0_indexOf_7cf53_30 rfl ?_
    exact nn h
  ·
    refine a_aload_n C dJ0_indexOf_7cf53_7 (i := 0) rfl rfl ?_
    refine a_sval C E (i := 1) (by decide) fw_val dJ0_indexOf_7cf53_8 ?_
    refine a_iload_n C dJ0_indexOf_7cf53_11 (i := 1) rfl rfl ?_
    refine a_iload_n C dJ0_indexOf_7cf53_12 (i := 2) rfl rfl ?_
    refine a_aload_n C dJ0_indexOf_7cf53_13 (i := 0) rfl rfl ?_
    refine p_strlen C E (i := 1) (As := []) (by decide) mi_J0_length_8abf5 ml_RJ0_505 rfl (Nat.le_of_ble_eq_true rfl) (Nat.le_of_ble_eq_true rfl) (Nat.le_of_ble_eq_true rfl) dJ0_indexOf_7cf53_14 rfl ?_
    refine p_cSiS C E (As := [.ref (K.2 1), .int x1, .int x2, .int (Int32.ofNat (lenS.getD 1 0))]) h (fun _ _ e => Z_J1_indexOf_4cfef hid e) ms_J1_indexOf_4cfef ml_RJ0_637 rfl rfl (Nat.le_of_ble_eq_true rfl) (Nat.le_of_ble_eq_true rfl) (Nat.le_of_ble_eq_true rfl) dJ0_indexOf_7cf53_17 (fun r4 σ3 h => ?_)
    refine a_goto C dJ0_indexOf_7cf53_20 (tgt := 36) rfl ?_
    exact a_iret Rt dJ0_indexOf_7cf53_36 rfl (ret_eq (h.trans (congrArg some hR.symm)))
set_option maxHeartbeats 4000000 in
set_option maxRecDepth 100000 in
theorem Z_J0_indexOf_0f7a4 {l : Launch} {D : va_G} {ids : List Nat} {ad : Nat → Nat} {ca : Nat → ClassId} {K : (Nat → Nat) × (Nat → Nat)} {σ : HS} {x1 : Int32} {r0 : Int32} {s0 : HS} (hid : ∀ i, i < 277 → i ∈ ids) (h : f_J0_indexOf_0f7a4 x1 σ = some (r0, s0)) : KiS l D ids ad ca K yJ0_indexOf_0f7a4 cJ0_indexOf_0f7a4 2 .int 3 70 [.ref (K.1 1), .int x1] σ (fun r σ1 => r = r0 ∧ σ1 = s0) := by
  obtain ⟨R, hR⟩ : ∃ R, (r0, s0) = R := ⟨_, rfl⟩
  replace h := h.trans (congrArg some hR)
  refine KiS.ofF (by decide +kernel) (Nat.le_of_ble_eq_true rfl) 0 (fun Γ C E Rt => ?_)
  show AW ids ad ca Γ 0 [some (.ref (K.1 1)), some (.int x1)] [] σ
  unfold f_J0_indexOf_0f7a4 at h
  refine a_aload_n C dJ0_indexOf_0f7a4_0 (i := 0) rfl rfl ?_
  refine a_iload_n C dJ0_indexOf_0f7a4_1 (i := 1) rfl rfl ?_
  refine a_iconst C dJ0_indexOf_0f7a4_2 (v := 0) rfl ?_
  refine p_cTiS C E (As := [.int x1, .int 0]) (i := 1) (by decide) rfl h (fun _ _ e => Z_J0_indexOf_7cf53 hid e) mi_J0_indexOf_7cf53 ml_RJ0_633 rfl rfl (Nat.le_of_ble_eq_true rfl) (Nat.le_of_ble_eq_true rfl) (Nat.le_of_ble_eq_true rfl) dJ0_indexOf_0f7a4_3 (fun r2 σ1 h => ?_)
  exact a_iret Rt dJ0_indexOf_0f7a4_6 rfl (ret_eq (h.trans (congrArg some hR.symm)))
set_option maxHeartbeats 4000000 in
set_option maxRecDepth 100000 in
theorem Z_X9_cutInt {l : Launch} {D : va_G} {ids : List Nat} {ad : Nat → Nat} {ca : Nat → ClassId} {σ : HS} {x1 : Int32} {r0 : Int32} {s0 : HS} (hid : ∀ i, i < 277 → i ∈ ids) (h : f_X9_cutInt x1 σ = some (r0, s0)) : Ki l D ids ad ca yX9_cutInt cX9_cutInt 5 .int 1 20 [.ref (ad 2), .int x1] σ (fun r σ1 => r = r0 ∧ σ1 = s0) := by
  obtain ⟨R, hR⟩ : ∃ R, (r0, s0) = R := ⟨_, rfl⟩
  replace h := h.trans (congrArg some hR)
  refine Ki.of (by decide) (Nat.le_of_ble_eq_true rfl) 3 (fun Γ C Rt => ?_)
  show AW ids ad ca Γ 0 [some (.ref (ad 2)), some (.int x1), none, none, none] [] σ
  unfold f_X9_cutInt at h
  have j66 : ∀ (y1 : Int32) (y2 : Int32) (y3 : Int64) (σ : HS), f_X9_cutInt_66 y1 y2 y3 σ = some R → AW ids ad ca Γ 66 [some (.ref (ad 2)), some (.int y1), some (.int y2), some (.long y3), none] [] σ := by
    intro y1 y2 y3 σ h
    unfold f_X9_cutInt_66 at h
    refine a_aload_n C dX9_cutInt_66 (i := 0) rfl rfl ?_
    refine a_get C fl_RX9_21 (i := 2) kd_2 (hid 2 (by decide)) (v := .ref (ad 6)) rfl dX9_cutInt_67 ?_
    refine a_iload_n C dX9_cutInt_70 (i := 1) rfl rfl ?_
    refine a_lload_n C dX9_cutInt_71 (i := 3) rfl rfl ?_
    refine p_last C (i := 6) kd_6 (hid 6 (by decide)) (by rw [al_6]; rfl) dX9_cutInt_72 h (fun σ1 h => ?_)
    refine a_aload_n C dX9_cutInt_73 (i := 0) rfl rfl ?_
    refine a_get C fl_RX9_29 (i := 2) kd_2 (hid 2 (by decide)) (v := .int (σ1.1 2 5)) rfl dX9_cutInt_74 ?_
    refine a_iload_n C dX9_cutInt_77 (i := 2) rfl rfl ?_
    refine a_isub C dX9_cutInt_78 ?_
    refine a_iconst C dX9_cutInt_79 (v := 4) rfl ?_
    refine p_ic_gt C (X := ((σ1.1 2 5) - y2).toInt) (Y := 4) rfl (by decide) dX9_cutInt_80 (tgt := 88) rfl h (fun h => ?_) (fun h => ?_)
    ·
      refine a_bipush C dX9_cutInt_88 (v := 23) rfl ?_
      exact a_iret Rt dX9_cutInt_90 rfl (ret_eq (h.trans (congrArg some hR.symm)))
    ·
      refine a_bipush C dX9_cutInt_83 (v := 21) rfl ?_
      refine a_goto C dX9_cutInt_85 (tgt := 90) rfl ?_
      exact a_iret Rt dX9_cutInt_90 rfl (ret_eq (h.trans (congrArg some hR.symm)))
  have j7 : ∀ (n : Nat) (y1 : Int32) (y2 : Int32) (y3 : Int64) (σ : HS), f_X9_cutInt_7 n y1 y2 y3 σ = some R → AW ids ad ca Γ 7 [some (.ref (ad 2)), some (.int y1), some (.int y2), some (.long y3), none] [] σ := by
    intro n
    induction n with
    | zero => intro y1 y2 y3 σ h; exact nn h
    | succ n ih =>
      intro y1 y2 y3 σ h
      have h : b_X9_cutInt_7 (f_X9_cutInt_7 n) y1 y2 y3 σ = some R := h
      unfold b_X9_cutInt_7 at h
      refine a_aload_n C dX9_cutInt_7 (i := 0) rfl rfl ?_
      refine a_get C fl_RX9_29 (i := 2) kd_2 (hid 2 (by decide)) (v := .int (σ.1 2 5)) rfl dX9_cutInt_8 ?_
      refine a_aload_n C dX9_cutInt_11 (i := 0) rfl rfl ?_
      refine a_get C fl_RX9_25 (i := 2) kd_2 (hid 2 (by decide)) (v := .int (σ.1 2 1)) rfl dX9_cutInt_12 ?_
      refine p_ic_ge C (X := (σ.1 2 5).toInt) (Y := (σ.1 2 1).toInt) rfl rfl dX9_cutInt_15 (tgt := 66) rfl h (fun h => ?_) (fun h => ?_)
      ·
        exact j66 _ _ _ _ h
      ·
        refine a_aload_n C dX9_cutInt_18 (i := 0) rfl rfl ?_
        refine a_get C fl_RX9_9 (i := 2) kd_2 (hid 2 (by decide)) (v := .ref (ad 3)) rfl dX9_cutInt_19 ?_
        refine a_aload_n C dX9_cutInt_22 (i := 0) rfl rfl ?_
        refine a_get C fl_RX9_29 (i := 2) kd_2 (hid 2 (by decide)) (v := .int (σ.1 2 5)) rfl dX9_cutInt_23 ?_
        refine p_iald C (i := 3) (show rowOK 3 from ⟨kd_3, by decide⟩) hid (by rw [al_3]; rfl) dX9_cutInt_26 h (fun h => ?_)
        refine p_callSi C (As := [.int (σ.1 3 (σ.1 2 5).toInt.toNat)]) h (fun _ _ e => Z_X9_isDigit hid e) ms_X9_isDigit ml_RX9_46 rfl rfl (Nat.le_of_ble_eq_true rfl) (Nat.le_of_ble_eq_true rfl) (Nat.le_of_ble_eq_true rfl) dX9_cutInt_27 (fun r2 σ1 h => ?_)
        refine p_if_eq C (X := r2.toInt) rfl dX9_cutInt_30 (tgt := 66) rfl h (fun h => ?_) (fun h => ?_)
        ·
          exact j66 _ _ _ _ h
        ·
          refine a_lload_n C dX9_cutInt_33 (i := 3) rfl rfl ?_
          refine a_ldc2 C dX9_cutInt_34 ko_RX9_65 ?_
          refine a_lmul C dX9_cutInt_37 ?_
          refine a_aload_n C dX9_cutInt_38 (i := 0) rfl rfl ?_
          refine a_get C fl_RX9_9 (i := 2) kd_2 (hid 2 (by decide)) (v := .ref (ad 3)) rfl dX9_cutInt_39 ?_
          refine a_aload_n C dX9_cutInt_42 (i := 0) rfl rfl ?_
          refine a_get C fl_RX9_29 (i := 2) kd_2 (hid 2 (by decide)) (v := .int (σ1.1 2 5)) rfl dX9_cutInt_43 ?_
          refine p_iald C (i := 3) (show rowOK 3 from ⟨kd_3, by decide⟩) hid (by rw [al_3]; rfl) dX9_cutInt_46 h (fun h => ?_)
          refine a_bipush C dX9_cutInt_47 (v := 48) rfl ?_
          refine a_isub C dX9_cutInt_49 ?_
          refine a_i2l C dX9_cutInt_50 ?_
          refine a_ladd C dX9_cutInt_51 ?_
          refine p_lstore_n C (fun z3 => [some (.ref (ad 2)), some (.int y1), some (.int y2), some (.long z3), none]) dX9_cutInt_52 (i := 3) rfl (by decide) rfl (fun _ => rfl) h (fun z3 h => ?_)
          refine a_aload_n C dX9_cutInt_53 (i := 0) rfl rfl ?_
          refine a_dup C dX9_cutInt_54 rfl ?_
          refine a_get C fl_RX9_29 (i := 2) kd_2 (hid 2 (by decide)) (v := .int (σ1.1 2 5)) rfl dX9_cutInt_55 ?_
          refine a_iconst C dX9_cutInt_58 (v := 1) rfl ?_
          refine a_iadd C dX9_cutInt_59 ?_
          refine p_put C fp_RX9_29 (i := 2) kd_2 (hid 2 (by decide)) rfl rfl dX9_cutInt_60 h (fun σ4 h => ?_)
          refine a_goto C dX9_cutInt_63 (tgt := 7) rfl ?_
          exact ih _ _ _ _ h
  refine a_aload_n C dX9_cutInt_0 (i := 0) rfl rfl ?_
  refine a_get C fl_RX9_29 (i := 2) kd_2 (hid 2 (by decide)) (v := .int (σ.1 2 5)) rfl dX9_cutInt_1 ?_
  refine p_istore_n C (fun z1 => [some (.ref (ad 2)), some (.int x1), some (.int z1), none, none]) dX9_cutInt_4 (i := 2) rfl (by decide) rfl (fun _ => rfl) h (fun z1 h => ?_)
  refine a_lconst C dX9_cutInt_5 (v := 0) rfl ?_
  refine a_lstore_n C dX9_cutInt_6 (i := 3) rfl (by decide) rfl (vs1 := [some (.ref (ad 2)), some (.int x1), some (.int z1), some (.long 0), none]) rfl ?_
  exact j7 _ _ _ _ _ h
set_option maxHeartbeats 4000000 in
set_option maxRecDepth 100000 in
theorem Z_X9_wordAt {l : Launch} {D : va_G} {ids : List Nat} {ad : Nat → Nat} {ca : Nat → ClassId} {K : (Nat → Nat) × (Nat → Nat)} {σ : HS} {x1 : Int32} {x2 : Int32} {r0 : Int32} {s0 : HS} (hid : ∀ i, i < 277 → i ∈ ids) (h : f_X9_wordAt x1 x2 σ = some (r0, s0)) : KiS l D ids ad ca K yX9_wordAt cX9_wordAt 7 .int 4 91 [.ref (ad 2), .int x1, .int x2] σ (fun r σ1 => r = r0 ∧ σ1 = s0) := by
  obtain ⟨R, hR⟩ : ∃ R, (r0, s0) = R := ⟨_, rfl⟩
  replace h := h.trans (congrArg some hR)
  refine KiS.of (by decide) (Nat.le_of_ble_eq_true rfl) 4 (fun Γ C E Rt => ?_)
  show AW ids ad ca Γ 0 [some (.ref (ad 2)), some (.int x1), some (.int x2), none, none, none, none] [] σ
  unfold f_X9_wordAt at h
  have j85 : ∀ (k8 : Int32 → Int32 → Int32 → Int32 → Int32 → HS → Option (Int32 × HS)) (hk8 : ∀ (y1 : Int32) (y2 : Int32) (y3 : Int32) (y4 : Int32) (y5 : Int32) (σ : HS), k8 y1 y2 y3 y4 y5 σ = some R → AW ids ad ca Γ 8 [some (.ref (ad 2)), some (.int y1), some (.int y2), some (.int y3), some (.int y4), some (.int y5), none] [] σ) (y1 : Int32) (y2 : Int32) (y3 : Int32) (y4 : Int32) (y5 : Int32) (σ : HS), f_X9_wordAt_85 k8 y1 y2 y3 y4 y5 σ = some R → AW ids ad ca Γ 85 [some (.ref (ad 2)), some (.int y1), some (.int y2), some (.int y3), some (.int y4), some (.int y5), none] [] σ := by
    intro k8 hk8 y1 y2 y3 y4 y5 σ h
    unfold f_X9_wordAt_85 at h
    refine p_iinc C (y := (y5 + 1)) (fun z1 => [some (.ref (ad 2)), some (.int y1), some (.int y2), some (.int y3), some (.int y4), some (.int z1), none]) dX9_wordAt_85 rfl rfl (by decide) rfl (fun _ => rfl) h (fun z1 h => ?_)
    refine a_goto C dX9_wordAt_88 (tgt := 8) rfl ?_
    exact hk8 _ _ _ _ _ _ h
  have j82 : ∀ (k8 : Int32 → Int32 → Int32 → Int32 → Int32 → HS → Option (Int32 × HS)) (hk8 : ∀ (y1 : Int32) (y2 : Int32) (y3 : Int32) (y4 : Int32) (y5 : Int32) (σ : HS), k8 y1 y2 y3 y4 y5 σ = some R → AW ids ad ca Γ 8 [some (.ref (ad 2)), some (.int y1), some (.int y2), some (.int y3), some (.int y4), some (.int y5), none] [] σ) (y1 : Int32) (y2 : Int32) (y3 : Int32) (y5 : Int32) (σ : HS), f_X9_wordAt_82 k8 y1 y2 y3 y5 σ = some R → AW ids ad ca Γ 82 [some (.ref (ad 2)), some (.int y1), some (.int y2), some (.int y3), none, some (.int y5), none] [] σ := by
    intro k8 hk8 y1 y2 y3 y5 σ h
    unfold f_X9_wordAt_82 at h
    refine a_iconst C dX9_wordAt_82 (v := (-1)) rfl ?_
    refine a_istore C dX9_wordAt_83 (by decide) rfl (vs1 := [some (.ref (ad 2)), some (.int y1), some (.int y2), some (.int y3), some (.int (-1)), some (.int y5), none]) rfl ?_
    exact j85 k8 hk8 _ _ _ _ _ _ h
  have j8 : ∀ (n : Nat) (y1 : Int32) (y2 : Int32) (y3 : Int32) (y4 : Int32) (y5 : Int32) (σ : HS), f_X9_wordAt_8 n y1 y2 y3 y4 y5 σ = some R → AW ids ad ca Γ 8 [some (.ref (ad 2)), some (.int y1), some (.int y2), some (.int y3), some (.int y4), some (.int y5), none] [] σ := by
    intro n
    induction n with
    | zero => intro y1 y2 y3 y4 y5 σ h; exact nn h
    | succ n ih =>
      intro y1 y2 y3 y4 y5 σ h
      have h : b_X9_wordAt_8 (f_X9_wordAt_8 n) y1 y2 y3 y4 y5 σ = some R := h
      unfold b_X9_wordAt_8 at h
      refine a_iload C dX9_wordAt_8 rfl ?_
      refine a_ldcW C E rfl dX9_wordAt_10 ?_
      refine p_strlen C E (i := 0) (As := []) (by decide) mi_J0_length_8abf5 ml_RX9_69 rfl (Nat.le_of_ble_eq_true rfl) (Nat.le_of_ble_eq_true rfl) (Nat.le_of_ble_eq_true rfl) dX9_wordAt_12 rfl ?_
      refine p_ic_ge C (X := y5.toInt) (Y := (Int32.ofNat (lenS.getD 0 0)).toInt) rfl rfl dX9_wordAt_15 (tgt := 91) rfl h (fun h => ?_) (fun h => ?_)
      ·
        refine a_iconst C dX9_wordAt_91 (v := (-1)) rfl ?_
        exact a_iret Rt dX9_wordAt_92 rfl (ret_eq (h.trans (congrArg some hR.symm)))
      ·
        refine a_ldcW C E rfl dX9_wordAt_18 ?_
        refine a_iload C dX9_wordAt_20 rfl ?_
        refine p_charAt C E (i := 0) (N := 112) (by decide) rfl mi_J0_charAt_5068e ml_RX9_73 rfl (Nat.le_of_ble_eq_true rfl) (Nat.le_of_ble_eq_true rfl) (Nat.le_of_ble_eq_true rfl) dX9_wordAt_22 h (fun h => ?_)
        refine p_istore C (fun z1 => [some (.ref (ad 2)), some (.int y1), some (.int y2), some (.int y3), some (.int y4), some (.int y5), some (.int z1)]) dX9_wordAt_25 (by decide) rfl (fun _ => rfl) h (fun z1 h => ?_)
        refine a_iload C dX9_wordAt_27 rfl ?_
        refine a_bipush C dX9_wordAt_29 (v := 32) rfl ?_
        refine p_ic_ne C (X := z1.toInt) (Y := 32) rfl (by decide) dX9_wordAt_31 (tgt := 51) rfl h (fun h => ?_) (fun h => ?_)
        ·
          refine a_iload C dX9_wordAt_51 rfl ?_
          refine p_if_lt C (X := y4.toInt) rfl dX9_wordAt_53 (tgt := 82) rfl h (fun h => ?_) (fun h => ?_)
          ·
            refine AW.sub (vs' := [some (.ref (ad 2)), some (.int y1), some (.int y2), some (.int y3), none, some (.int y5), none]) (lsub_of (by simp [lsubB])) ?_
            exact j82 (f_X9_wordAt_8 n) (fun y1 y2 y3 y4 y5 σ h => ih y1 y2 y3 y4 y5 σ h) _ _ _ _ _ h
          ·
            refine a_iload C dX9_wordAt_56 rfl ?_
            refine a_iload_n C dX9_wordAt_58 (i := 2) rfl rfl ?_
            refine p_ic_ge C (X := y4.toInt) (Y := y2.toInt) rfl rfl dX9_wordAt_59 (tgt := 82) rfl h (fun h => ?_) (fun h => ?_)
            ·
              refine AW.sub (vs' := [some (.ref (ad 2)), some (.int y1), some (.int y2), some (.int y3), none, some (.int y5), none]) (lsub_of (by simp [lsubB])) ?_
              exact j82 (f_X9_wordAt_8 n) (fun y1 y2 y3 y4 y5 σ h => ih y1 y2 y3 y4 y5 σ h) _ _ _ _ _ h
            ·
              refine a_aload_n C dX9_wordAt_62 (i := 0) rfl rfl ?_
              refine a_get C fl_RX9_9 (i := 2) kd_2 (hid 2 (by decide)) (v := .ref (ad 3)) rfl dX9_wordAt_63 ?_
              refine a_iload_n C dX9_wordAt_66 (i := 1) rfl rfl ?_
              refine a_iload C dX9_wordAt_67 rfl ?_
              refine a_iadd C dX9_wordAt_69 ?_
              refine p_iald C (i := 3) (show rowOK 3 from ⟨kd_3, by decide⟩) hid (by rw [al_3]; rfl) dX9_wordAt_70 h (fun h => ?_)
              refine a_iload C dX9_wordAt_71 rfl ?_
              refine p_ic_ne C (X := (σ.1 3 (y1 + y4).toInt.toNat).toInt) (Y := z1.toInt) rfl rfl dX9_wordAt_73 (tgt := 82) rfl h (fun h => ?_) (fun h => ?_)
              ·
                refine AW.sub (vs' := [some (.ref (ad 2)), some (.int y1), some (.int y2), some (.int y3), none, some (.int y5), none]) (lsub_of (by simp [lsubB])) ?_
                exact j82 (f_X9_wordAt_8 n) (fun y1 y2 y3 y4 y5 σ h => ih y1 y2 y3 y4 y5 σ h) _ _ _ _ _ h
              ·
                refine p_iinc C (y := (y4 + 1)) (fun z2 => [some (.ref (ad 2)), some (.int y1), some (.int y2), some (.int y3), some (.int z2), some (.int y5), some (.int z1)]) dX9_wordAt_76 rfl rfl (by decide) rfl (fun _ => rfl) h (fun z2 h => ?_)
                refine a_goto C dX9_wordAt_79 (tgt := 85) rfl ?_
                refine AW.sub (vs' := [some (.ref (ad 2)), some (.int y1), some (.int y2), some (.int y3), some (.int z2), some (.int y5), none]) (lsub_of (by simp [lsubB])) ?_
                exact j85 (f_X9_wordAt_8 n) (fun y1 y2 y3 y4 y5 σ h => ih y1 y2 y3 y4 y5 σ h) _ _ _ _ _ _ h
        ·
          refine a_iload C dX9_wordAt_34 rfl ?_
          refine a_iload_n C dX9_wordAt_36 (i := 2) rfl rfl ?_
          refine p_ic_ne C (X := y4.toInt) (Y := y2.toInt) rfl rfl dX9_wordAt_37 (tgt := 42) rfl h (fun h => ?_) (fun h => ?_)
          ·
            refine p_iinc C (y := (y3 + 1)) (fun z3 => [some (.ref (ad 2)), some (.int y1), some (.int y2), some (.int z3), some (.int y4), some (.int y5), some (.int z1)]) dX9_wordAt_42 rfl rfl (by decide) rfl (fun _ => rfl) h (fun z3 h => ?_)
            refine a_iconst C dX9_wordAt_45 (v := 0) rfl ?_
            refine a_istore C dX9_wordAt_46 (by decide) rfl (vs1 := [some (.ref (ad 2)), some (.int y1), some (.int y2), some (.int z3), some (.int 0), some (.int y5), some (.int z1)]) rfl ?_
            refine a_goto C dX9_wordAt_48 (tgt := 85) rfl ?_
            refine AW.sub (vs' := [some (.ref (ad 2)), some (.int y1), some (.int y2), some (.int z3), some (.int 0), some (.int y5), none]) (lsub_of (by simp [lsubB])) ?_
            exact j85 (f_X9_wordAt_8 n) (fun y1 y2 y3 y4 y5 σ h => ih y1 y2 y3 y4 y5 σ h) _ _ _ _ _ _ h
          ·
            refine a_iload_n C dX9_wordAt_40 (i := 3) rfl rfl ?_
            exact a_iret Rt dX9_wordAt_41 rfl (ret_eq (h.trans (congrArg some hR.symm)))
  refine a_iconst C dX9_wordAt_0 (v := 0) rfl ?_
  refine a_istore_n C dX9_wordAt_1 (i := 3) rfl (by decide) rfl (vs1 := [some (.ref (ad 2)), some (.int x1), some (.int x2), some (.int 0), none, none, none]) rfl ?_
  refine a_iconst C dX9_wordAt_2 (v := 0) rfl ?_
  refine a_istore C dX9_wordAt_3 (by decide) rfl (vs1 := [some (.ref (ad 2)), some (.int x1), some (.int x2), some (.int 0), some (.int 0), none, none]) rfl ?_
  refine a_iconst C dX9_wordAt_5 (v := 0) rfl ?_
  refine a_istore C dX9_wordAt_6 (by decide) rfl (vs1 := [some (.ref (ad 2)), some (.int x1), some (.int x2), some (.int 0), some (.int 0), some (.int 0), none]) rfl ?_
  exact j8 _ _ _ _ _ _ _ h
set_option maxHeartbeats 4000000 in
set_option maxRecDepth 100000 in
theorem Z_X9_cutWord {l : Launch} {D : va_G} {ids : List Nat} {ad : Nat → Nat} {ca : Nat → ClassId} {K : (Nat → Nat) × (Nat → Nat)} {σ : HS} {x1 : Int32} {r0 : Int32} {s0 : HS} (hid : ∀ i, i < 277 → i ∈ ids) (h : f_X9_cutWord x1 σ = some (r0, s0)) : KiS l D ids ad ca K yX9_cutWord cX9_cutWord 6 .int 5 117 [.ref (ad 2), .int x1] σ (fun r σ1 => r = r0 ∧ σ1 = s0) := by
  obtain ⟨R, hR⟩ : ∃ R, (r0, s0) = R := ⟨_, rfl⟩
  replace h := h.trans (congrArg some hR)
  refine KiS.of (by decide) (Nat.le_of_ble_eq_true rfl) 4 (fun Γ C E Rt => ?_)
  show AW ids ad ca Γ 0 [some (.ref (ad 2)), some (.int x1), none, none, none, none] [] σ
  unfold f_X9_cutWord at h
  have j68 : ∀ (y1 : Int32) (y2 : Int32) (y3 : Int64) (σ : HS), f_X9_cutWord_68 y1 y2 y3 σ = some R → AW ids ad ca Γ 68 [some (.ref (ad 2)), some (.int y1), some (.int y2), some (.long y3), none, none] [] σ := by
    intro y1 y2 y3 σ h
    unfold f_X9_cutWord_68 at h
    refine a_aload_n C dX9_cutWord_68 (i := 0) rfl rfl ?_
    refine a_get C fl_RX9_21 (i := 2) kd_2 (hid 2 (by decide)) (v := .ref (ad 6)) rfl dX9_cutWord_69 ?_
    refine a_iload_n C dX9_cutWord_72 (i := 1) rfl rfl ?_
    refine a_lload_n C dX9_cutWord_73 (i := 3) rfl rfl ?_
    refine p_last C (i := 6) kd_6 (hid 6 (by decide)) (by rw [al_6]; rfl) dX9_cutWord_74 h (fun σ1 h => ?_)
    refine a_aload_n C dX9_cutWord_75 (i := 0) rfl rfl ?_
    refine a_iload_n C dX9_cutWord_76 (i := 2) rfl rfl ?_
    refine a_aload_n C dX9_cutWord_77 (i := 0) rfl rfl ?_
    refine a_get C fl_RX9_29 (i := 2) kd_2 (hid 2 (by decide)) (v := .int (σ1.1 2 5)) rfl dX9_cutWord_78 ?_
    refine a_iload_n C dX9_cutWord_81 (i := 2) rfl rfl ?_
    refine a_isub C dX9_cutWord_82 ?_
    refine p_cViS C E (As := [.int y2, .int ((σ1.1 2 5) - y2)]) (i := 2) kd_2 (hid 2 (by decide)) ⟨_, _, rfl⟩ (by decide) h (fun _ _ e => Z_X9_wordAt hid e) mi_X9_wordAt ml_RX9_61 rfl rfl (Nat.le_of_ble_eq_true rfl) (Nat.le_of_ble_eq_true rfl) (Nat.le_of_ble_eq_true rfl) dX9_cutWord_83 (fun r3 σ2 h => ?_)
    refine a_istore C dX9_cutWord_86 (by decide) rfl (vs1 := [some (.ref (ad 2)), some (.int y1), some (.int y2), some (.long y3), none, some (.int r3)]) rfl ?_
    refine a_iload C dX9_cutWord_88 rfl ?_
    refine a_iconst C dX9_cutWord_90 (v := (-1)) rfl ?_
    refine p_ic_eq C (X := r3.toInt) (Y := (-1)) rfl (by decide) dX9_cutWord_91 (tgt := 97) rfl h (fun h => ?_) (fun h => ?_)
    ·
      refine a_aload_n C dX9_cutWord_97 (i := 0) rfl rfl ?_
      refine a_get C fl_RX9_29 (i := 2) kd_2 (hid 2 (by decide)) (v := .int (σ2.1 2 5)) rfl dX9_cutWord_98 ?_
      refine a_iload_n C dX9_cutWord_101 (i := 2) rfl rfl ?_
      refine a_isub C dX9_cutWord_102 ?_
      refine a_bipush C dX9_cutWord_103 (v := 8) rfl ?_
      refine p_ic_gt C (X := ((σ2.1 2 5) - y2).toInt) (Y := 8) rfl (by decide) dX9_cutWord_105 (tgt := 113) rfl h (fun h => ?_) (fun h => ?_)
      ·
        refine a_bipush C dX9_cutWord_113 (v := 23) rfl ?_
        exact a_iret Rt dX9_cutWord_115 rfl (ret_eq (h.trans (congrArg some hR.symm)))
      ·
        refine a_bipush C dX9_cutWord_108 (v := 20) rfl ?_
        refine a_goto C dX9_cutWord_110 (tgt := 115) rfl ?_
        exact a_iret Rt dX9_cutWord_115 rfl (ret_eq (h.trans (congrArg some hR.symm)))
    ·
      refine a_iload C dX9_cutWord_94 rfl ?_
      exact a_iret Rt dX9_cutWord_96 rfl (ret_eq (h.trans (congrArg some hR.symm)))
  have j7 : ∀ (n : Nat) (y1 : Int32) (y2 : Int32) (y3 : Int64) (σ : HS), f_X9_cutWord_7 n y1 y2 y3 σ = some R → AW ids ad ca Γ 7 [some (.ref (ad 2)), some (.int y1), some (.int y2), some (.long y3), none, none] [] σ := by
    intro n
    induction n with
    | zero => intro y1 y2 y3 σ h; exact nn h
    | succ n ih =>
      intro y1 y2 y3 σ h
      have h : b_X9_cutWord_7 (f_X9_cutWord_7 n) y1 y2 y3 σ = some R := h
      unfold b_X9_cutWord_7 at h
      refine a_aload_n C dX9_cutWord_7 (i := 0) rfl rfl ?_
      refine a_get C fl_RX9_29 (i := 2) kd_2 (hid 2 (by decide)) (v := .int (σ.1 2 5)) rfl dX9_cutWord_8 ?_
      refine a_aload_n C dX9_cutWord_11 (i := 0) rfl rfl ?_
      refine a_get C fl_RX9_25 (i := 2) kd_2 (hid 2 (by decide)) (v := .int (σ.1 2 1)) rfl dX9_cutWord_12 ?_
      refine p_ic_ge C (X := (σ.1 2 5).toInt) (Y := (σ.1 2 1).toInt) rfl rfl dX9_cutWord_15 (tgt := 68) rfl h (fun h => ?_) (fun h => ?_)
      ·
        exact j68 _ _ _ _ h
      ·
        refine a_aload_n C dX9_cutWord_18 (i := 0) rfl rfl ?_
        refine a_get C fl_RX9_9 (i := 2) kd_2 (hid 2 (by decide)) (v := .ref (ad 3)) rfl dX9_cutWord_19 ?_
        refine a_aload_n C dX9_cutWord_22 (i := 0) rfl rfl ?_
        refine a_get C fl_RX9_29 (i := 2) kd_2 (hid 2 (by decide)) (v := .int (σ.1 2 5)) rfl dX9_cutWord_23 ?_
        refine p_iald C (i := 3) (show rowOK 3 from ⟨kd_3, by decide⟩) hid (by rw [al_3]; rfl) dX9_cutWord_26 h (fun h => ?_)
        refine p_callSi C (As := [.int (σ.1 3 (σ.1 2 5).toInt.toNat)]) h (fun _ _ e => Z_X9_isLetter hid e) ms_X9_isLetter ml_RX9_40 rfl rfl (Nat.le_of_ble_eq_true rfl) (Nat.le_of_ble_eq_true rfl) (Nat.le_of_ble_eq_true rfl) dX9_cutWord_27 (fun r2 σ1 h => ?_)
        refine p_if_eq C (X := r2.toInt) rfl dX9_cutWord_30 (tgt := 68) rfl h (fun h => ?_) (fun h => ?_)
        ·
          exact j68 _ _ _ _ h
        ·
          refine a_lload_n C dX9_cutWord_33 (i := 3) rfl rfl ?_
          refine a_ldc2 C dX9_cutWord_34 ko_RX9_59 ?_
          refine a_lmul C dX9_cutWord_37 ?_
          refine a_aload_n C dX9_cutWord_38 (i := 0) rfl rfl ?_
          refine a_get C fl_RX9_9 (i := 2) kd_2 (hid 2 (by decide)) (v := .ref (ad 3)) rfl dX9_cutWord_39 ?_
          refine a_aload_n C dX9_cutWord_42 (i := 0) rfl rfl ?_
          refine a_get C fl_RX9_29 (i := 2) kd_2 (hid 2 (by decide)) (v := .int (σ1.1 2 5)) rfl dX9_cutWord_43 ?_
          refine p_iald C (i := 3) (show rowOK 3 from ⟨kd_3, by decide⟩) hid (by rw [al_3]; rfl) dX9_cutWord_46 h (fun h => ?_)
          refine a_bipush C dX9_cutWord_47 (v := 97) rfl ?_
          refine a_isub C dX9_cutWord_49 ?_
          refine a_iconst C dX9_cutWord_50 (v := 1) rfl ?_
          refine a_iadd C dX9_cutWord_51 ?_
          refine a_i2l C dX9_cutWord_52 ?_
          refine a_ladd C dX9_cutWord_53 ?_
          refine p_lstore_n C (fun z3 => [some (.ref (ad 2)), some (.int y1), some (.int y2), some (.long z3), none, none]) dX9_cutWord_54 (i := 3) rfl (by decide) rfl (fun _ => rfl) h (fun z3 h => ?_)
          refine a_aload_n C dX9_cutWord_55 (i := 0) rfl rfl ?_
          refine a_dup C dX9_cutWord_56 rfl ?_
          refine a_get C fl_RX9_29 (i := 2) kd_2 (hid 2 (by decide)) (v := .int (σ1.1 2 5)) rfl dX9_cutWord_57 ?_
          refine a_iconst C dX9_cutWord_60 (v := 1) rfl ?_
          refine a_iadd C dX9_cutWord_61 ?_
          refine p_put C fp_RX9_29 (i := 2) kd_2 (hid 2 (by decide)) rfl rfl dX9_cutWord_62 h (fun σ4 h => ?_)
          refine a_goto C dX9_cutWord_65 (tgt := 7) rfl ?_
          exact ih _ _ _ _ h
  refine a_aload_n C dX9_cutWord_0 (i := 0) rfl rfl ?_
  refine a_get C fl_RX9_29 (i := 2) kd_2 (hid 2 (by decide)) (v := .int (σ.1 2 5)) rfl dX9_cutWord_1 ?_
  refine p_istore_n C (fun z1 => [some (.ref (ad 2)), some (.int x1), some (.int z1), none, none, none]) dX9_cutWord_4 (i := 2) rfl (by decide) rfl (fun _ => rfl) h (fun z1 h => ?_)
  refine a_lconst C dX9_cutWord_5 (v := 0) rfl ?_
  refine a_lstore_n C dX9_cutWord_6 (i := 3) rfl (by decide) rfl (vs1 := [some (.ref (ad 2)), some (.int x1), some (.int z1), some (.long 0), none, none]) rfl ?_
  exact j7 _ _ _ _ _ h
set_option maxHeartbeats 4000000 in
set_option maxRecDepth 100000 in
theorem Z_X9_cutOne {l : Launch} {D : va_G} {ids : List Nat} {ad : Nat → Nat} {ca : Nat → ClassId} {K : (Nat → Nat) × (Nat → Nat)} {σ : HS} {x1 : Int32} {r0 : Int32} {s0 : HS} (hid : ∀ i, i < 277 → i ∈ ids) (h : f_X9_cutOne x1 σ = some (r0, s0)) : KiS l D ids ad ca K yX9_cutOne cX9_cutOne 3 .int 6 142 [.ref (ad 2), .int x1] σ (fun r σ1 => r = r0 ∧ σ1 = s0) := by
  obtain ⟨R, hR⟩ : ∃ R, (r0, s0) = R := ⟨_, rfl⟩
  replace h := h.trans (congrArg some hR)
  refine KiS.of (by decide) (Nat.le_of_ble_eq_true rfl) 1 (fun Γ C E Rt => ?_)
  show AW ids ad ca Γ 0 [some (.ref (ad 2)), some (.int x1), none] [] σ
  unfold f_X9_cutOne at h
  refine a_aload_n C dX9_cutOne_0 (i := 0) rfl rfl ?_
  refine a_get C fl_RX9_29 (i := 2) kd_2 (hid 2 (by decide)) (v := .int (σ.1 2 5)) rfl dX9_cutOne_1 ?_
  refine a_aload_n C dX9_cutOne_4 (i := 0) rfl rfl ?_
  refine a_get C fl_RX9_25 (i := 2) kd_2 (hid 2 (by decide)) (v := .int (σ.1 2 1)) rfl dX9_cutOne_5 ?_
  refine p_ic_lt C (X := (σ.1 2 5).toInt) (Y := (σ.1 2 1).toInt) rfl rfl dX9_cutOne_8 (tgt := 14) rfl h (fun h => ?_) (fun h => ?_)
  ·
    refine a_aload_n C dX9_cutOne_14 (i := 0) rfl rfl ?_
    refine a_get C fl_RX9_9 (i := 2) kd_2 (hid 2 (by decide)) (v := .ref (ad 3)) rfl dX9_cutOne_15 ?_
    refine a_aload_n C dX9_cutOne_18 (i := 0) rfl rfl ?_
    refine a_get C fl_RX9_29 (i := 2) kd_2 (hid 2 (by decide)) (v := .int (σ.1 2 5)) rfl dX9_cutOne_19 ?_
    refine p_iald C (i := 3) (show rowOK 3 from ⟨kd_3, by decide⟩) hid (by rw [al_3]; rfl) dX9_cutOne_22 h (fun h => ?_)
    refine p_callSi C (As := [.int (σ.1 3 (σ.1 2 5).toInt.toNat)]) h (fun _ _ e => Z_X9_isLetter hid e) ms_X9_isLetter ml_RX9_40 rfl rfl (Nat.le_of_ble_eq_true rfl) (Nat.le_of_ble_eq_true rfl) (Nat.le_of_ble_eq_true rfl) dX9_cutOne_23 (fun r2 σ1 h => ?_)
    refine p_if_eq C (X := r2.toInt) rfl dX9_cutOne_26 (tgt := 35) rfl h (fun h => ?_) (fun h => ?_)
    ·
      refine a_aload_n C dX9_cutOne_35 (i := 0) rfl rfl ?_
      refine a_get C fl_RX9_9 (i := 2) kd_2 (hid 2 (by decide)) (v := .ref (ad 3)) rfl dX9_cutOne_36 ?_
      refine a_aload_n C dX9_cutOne_39 (i := 0) rfl rfl ?_
      refine a_get C fl_RX9_29 (i := 2) kd_2 (hid 2 (by decide)) (v := .int (σ1.1 2 5)) rfl dX9_cutOne_40 ?_
      refine p_iald C (i := 3) (show rowOK 3 from ⟨kd_3, by decide⟩) hid (by rw [al_3]; rfl) dX9_cutOne_43 h (fun h => ?_)
      refine p_callSi C (As := [.int (σ1.1 3 (σ1.1 2 5).toInt.toNat)]) h (fun _ _ e => Z_X9_isDigit hid e) ms_X9_isDigit ml_RX9_46 rfl rfl (Nat.le_of_ble_eq_true rfl) (Nat.le_of_ble_eq_true rfl) (Nat.le_of_ble_eq_true rfl) dX9_cutOne_44 (fun r4 σ3 h => ?_)
      refine p_if_eq C (X := r4.toInt) rfl dX9_cutOne_47 (tgt := 56) rfl h (fun h => ?_) (fun h => ?_)
      ·
        refine a_aload_n C dX9_cutOne_56 (i := 0) rfl rfl ?_
        refine a_get C fl_RX9_9 (i := 2) kd_2 (hid 2 (by decide)) (v := .ref (ad 3)) rfl dX9_cutOne_57 ?_
        refine a_aload_n C dX9_cutOne_60 (i := 0) rfl rfl ?_
        refine a_get C fl_RX9_29 (i := 2) kd_2 (hid 2 (by decide)) (v := .int (σ3.1 2 5)) rfl dX9_cutOne_61 ?_
        refine p_iald C (i := 3) (show rowOK 3 from ⟨kd_3, by decide⟩) hid (by rw [al_3]; rfl) dX9_cutOne_64 h (fun h => ?_)
        refine p_istore_n C (fun z5 => [some (.ref (ad 2)), some (.int x1), some (.int z5)]) dX9_cutOne_65 (i := 2) rfl (by decide) rfl (fun _ => rfl) h (fun z5 h => ?_)
        refine a_aload_n C dX9_cutOne_66 (i := 0) rfl rfl ?_
        refine a_dup C dX9_cutOne_67 rfl ?_
        refine a_get C fl_RX9_29 (i := 2) kd_2 (hid 2 (by decide)) (v := .int (σ3.1 2 5)) rfl dX9_cutOne_68 ?_
        refine a_iconst C dX9_cutOne_71 (v := 1) rfl ?_
        refine a_iadd C dX9_cutOne_72 ?_
        refine p_put C fp_RX9_29 (i := 2) kd_2 (hid 2 (by decide)) rfl rfl dX9_cutOne_73 h (fun σ6 h => ?_)
        refine a_ldcG C E rfl dX9_cutOne_76 ?_
        refine a_iload_n C dX9_cutOne_78 (i := 2) rfl rfl ?_
        refine a_i2c C dX9_cutOne_79 ?_
        refine p_cTiS C E (As := [.int ((z5.toUInt32 % 65536).toInt32)]) (i := 1) (by decide) rfl h (fun _ _ e => Z_J0_indexOf_0f7a4 hid e) mi_J0_indexOf_0f7a4 ml_RX9_54 rfl rfl (Nat.le_of_ble_eq_true rfl) (Nat.le_of_ble_eq_true rfl) (Nat.le_of_ble_eq_true rfl) dX9_cutOne_80 (fun r8 σ7 h => ?_)
        refine p_if_lt C (X := r8.toInt) rfl dX9_cutOne_83 (tgt := 90) rfl h (fun h => ?_) (fun h => ?_)
        ·
          refine a_bipush C dX9_cutOne_90 (v := 23) rfl ?_
          exact a_iret Rt dX9_cutOne_92 rfl (ret_eq (h.trans (congrArg some hR.symm)))
        ·
          refine a_iload_n C dX9_cutOne_86 (i := 2) rfl rfl ?_
          refine a_goto C dX9_cutOne_87 (tgt := 92) rfl ?_
          exact a_iret Rt dX9_cutOne_92 rfl (ret_eq (h.trans (congrArg some hR.symm)))
      ·
        refine a_aload_n C dX9_cutOne_50 (i := 0) rfl rfl ?_
        refine a_iload_n C dX9_cutOne_51 (i := 1) rfl rfl ?_
        refine p_callVi C (As := [.int x1]) (i := 2) kd_2 (hid 2 (by decide)) ⟨_, _, rfl⟩ (by decide) h (fun _ _ e => Z_X9_cutInt hid e) mi_X9_cutInt ml_RX9_49 rfl rfl (Nat.le_of_ble_eq_true rfl) (Nat.le_of_ble_eq_true rfl) (Nat.le_of_ble_eq_true rfl) dX9_cutOne_52 (fun r10 σ9 h => ?_)
        exact a_iret Rt dX9_cutOne_55 rfl (ret_eq (h.trans (congrArg some hR.symm)))
    ·
      refine a_aload_n C dX9_cutOne_29 (i := 0) rfl rfl ?_
      refine a_iload_n C dX9_cutOne_30 (i := 1) rfl rfl ?_
      refine p_cViS C E (As := [.int x1]) (i := 2) kd_2 (hid 2 (by decide)) ⟨_, _, rfl⟩ (by decide) h (fun _ _ e => Z_X9_cutWord hid e) mi_X9_cutWord ml_RX9_43 rfl rfl (Nat.le_of_ble_eq_true rfl) (Nat.le_of_ble_eq_true rfl) (Nat.le_of_ble_eq_true rfl) dX9_cutOne_31 (fun r12 σ11 h => ?_)
      exact a_iret Rt dX9_cutOne_34 rfl (ret_eq (h.trans (congrArg some hR.symm)))
  ·
    refine a_bipush C dX9_cutOne_11 (v := 22) rfl ?_
    exact a_iret Rt dX9_cutOne_13 rfl (ret_eq (h.trans (congrArg some hR.symm)))
set_option maxHeartbeats 4000000 in
set_option maxRecDepth 100000 in
theorem Z_X9_isBlank {l : Launch} {D : va_G} {ids : List Nat} {ad : Nat → Nat} {ca : Nat → ClassId} {σ : HS} {x1 : Int32} {r0 : Int32} {s0 : HS} (hid : ∀ i, i < 277 → i ∈ ids) (h : f_X9_isBlank x1 σ = some (r0, s0)) : Ki l D ids ad ca yX9_isBlank cX9_isBlank 1 .boolean 0 0 [.int x1] σ (fun r σ1 => r = r0 ∧ σ1 = s0) := by
  obtain ⟨R, hR⟩ : ∃ R, (r0, s0) = R := ⟨_, rfl⟩
  replace h := h.trans (congrArg some hR)
  refine Ki.of (by decide) (Nat.le_of_ble_eq_true rfl) 0 (fun Γ C Rt => ?_)
  show AW ids ad ca Γ 0 [some (.int x1)] [] σ
  unfold f_X9_isBlank at h
  have j24 : ∀ (σ : HS), f_X9_isBlank_24 σ = some R → AW ids ad ca Γ 24 [none] [] σ := by
    intro σ h
    unfold f_X9_isBlank_24 at h
    refine a_iconst C dX9_isBlank_24 (v := 1) rfl ?_
    refine a_goto C dX9_isBlank_25 (tgt := 29) rfl ?_
    exact a_iret Rt dX9_isBlank_29 (nar_z (by decide)).1 (ret_eq (h.trans (congrArg some hR.symm)))
  refine a_iload_n C dX9_isBlank_0 (i := 0) rfl rfl ?_
  refine a_bipush C dX9_isBlank_1 (v := 9) rfl ?_
  refine p_ic_eq C (X := x1.toInt) (Y := 9) rfl (by decide) dX9_isBlank_3 (tgt := 24) rfl h (fun h => ?_) (fun h => ?_)
  ·
    refine AW.sub (vs' := [none]) (lsub_of (by simp [lsubB])) ?_
    exact j24 _ h
  ·
    refine a_iload_n C dX9_isBlank_6 (i := 0) rfl rfl ?_
    refine a_bipush C dX9_isBlank_7 (v := 10) rfl ?_
    refine p_ic_eq C (X := x1.toInt) (Y := 10) rfl (by decide) dX9_isBlank_9 (tgt := 24) rfl h (fun h => ?_) (fun h => ?_)
    ·
      refine AW.sub (vs' := [none]) (lsub_of (by simp [lsubB])) ?_
      exact j24 _ h
    ·
      refine a_iload_n C dX9_isBlank_12 (i := 0) rfl rfl ?_
      refine a_bipush C dX9_isBlank_13 (v := 13) rfl ?_
      refine p_ic_eq C (X := x1.toInt) (Y := 13) rfl (by decide) dX9_isBlank_15 (tgt := 24) rfl h (fun h => ?_) (fun h => ?_)
      ·
        refine AW.sub (vs' := [none]) (lsub_of (by simp [lsubB])) ?_
        exact j24 _ h
      ·
        refine a_iload_n C dX9_isBlank_18 (i := 0) rfl rfl ?_
        refine a_bipush C dX9_isBlank_19 (v := 32) rfl ?_
        refine p_ic_ne C (X := x1.toInt) (Y := 32) rfl (by decide) dX9_isBlank_21 (tgt := 28) rfl h (fun h => ?_) (fun h => ?_)
        ·
          refine a_iconst C dX9_isBlank_28 (v := 0) rfl ?_
          exact a_iret Rt dX9_isBlank_29 (nar_z (by decide)).1 (ret_eq (h.trans (congrArg some hR.symm)))
        ·
          refine AW.sub (vs' := [none]) (lsub_of (by simp [lsubB])) ?_
          exact j24 _ h
set_option maxHeartbeats 4000000 in
set_option maxRecDepth 100000 in
theorem Z_X9_cut {l : Launch} {D : va_G} {ids : List Nat} {ad : Nat → Nat} {ca : Nat → ClassId} {K : (Nat → Nat) × (Nat → Nat)} {σ : HS} {s0 : HS} (hid : ∀ i, i < 277 → i ∈ ids) (h : f_X9_cut σ = some s0) : KvS l D ids ad ca K yX9_cut cX9_cut 3 7 164 [.ref (ad 2)] σ (fun σ1 => σ1 = s0) := by
  obtain ⟨R, hR⟩ : ∃ R, s0 = R := ⟨_, rfl⟩
  replace h := h.trans (congrArg some hR)
  refine KvS.of (by decide) (Nat.le_of_ble_eq_true rfl) 2 (fun Γ C E Rt => ?_)
  show AW ids ad ca Γ 0 [some (.ref (ad 2)), none, none] [] σ
  unfold f_X9_cut at h
  have j67 : ∀ (k9 : Int32 → Int32 → HS → Option (HS)) (hk9 : ∀ (y1 : Int32) (y2 : Int32) (σ : HS), k9 y1 y2 σ = some R → AW ids ad ca Γ 9 [some (.ref (ad 2)), some (.int y1), some (.int y2)] [] σ) (y2 : Int32) (σ : HS), f_X9_cut_67 k9 y2 σ = some R → AW ids ad ca Γ 67 [some (.ref (ad 2)), none, some (.int y2)] [] σ := by
    intro k9 hk9 y2 σ h
    unfold f_X9_cut_67 at h
    refine a_aload_n C dX9_cut_67 (i := 0) rfl rfl ?_
    refine a_get C fl_RX9_18 (i := 2) kd_2 (hid 2 (by decide)) (v := .ref (ad 5)) rfl dX9_cut_68 ?_
    refine a_iload_n C dX9_cut_71 (i := 2) rfl rfl ?_
    refine a_aload_n C dX9_cut_72 (i := 0) rfl rfl ?_
    refine a_get C fl_RX9_29 (i := 2) kd_2 (hid 2 (by decide)) (v := .int (σ.1 2 5)) rfl dX9_cut_73 ?_
    refine p_iast C (i := 5) (show rowOK 5 from ⟨kd_5, by decide⟩) hid (by rw [al_5]; rfl) dX9_cut_76 h (fun σ1 h => ?_)
    refine a_aload_n C dX9_cut_77 (i := 0) rfl rfl ?_
    refine a_iload_n C dX9_cut_78 (i := 2) rfl rfl ?_
    refine p_cViS C E (As := [.int y2]) (i := 2) kd_2 (hid 2 (by decide)) ⟨_, _, rfl⟩ (by decide) h (fun _ _ e => Z_X9_cutOne hid e) mi_X9_cutOne ml_RX9_36 rfl rfl (Nat.le_of_ble_eq_true rfl) (Nat.le_of_ble_eq_true rfl) (Nat.le_of_ble_eq_true rfl) dX9_cut_79 (fun r3 σ2 h => ?_)
    refine a_istore_n C dX9_cut_82 (i := 1) rfl (by decide) rfl (vs1 := [some (.ref (ad 2)), some (.int r3), some (.int y2)]) rfl ?_
    refine a_aload_n C dX9_cut_83 (i := 0) rfl rfl ?_
    refine a_get C fl_RX9_15 (i := 2) kd_2 (hid 2 (by decide)) (v := .ref (ad 4)) rfl dX9_cut_84 ?_
    refine a_iload_n C dX9_cut_87 (i := 2) rfl rfl ?_
    refine a_iload_n C dX9_cut_88 (i := 1) rfl rfl ?_
    refine p_iast C (i := 4) (show rowOK 4 from ⟨kd_4, by decide⟩) hid (by rw [al_4]; rfl) dX9_cut_89 h (fun σ4 h => ?_)
    refine p_iinc C (y := (y2 + 1)) (fun z5 => [some (.ref (ad 2)), some (.int r3), some (.int z5)]) dX9_cut_90 rfl rfl (by decide) rfl (fun _ => rfl) h (fun z5 h => ?_)
    refine a_goto C dX9_cut_93 (tgt := 9) rfl ?_
    exact hk9 _ _ _ h
  have j28 : ∀ (k9 : Int32 → Int32 → HS → Option (HS)) (hk9 : ∀ (y1 : Int32) (y2 : Int32) (σ : HS), k9 y1 y2 σ = some R → AW ids ad ca Γ 9 [some (.ref (ad 2)), some (.int y1), some (.int y2)] [] σ) (n : Nat) (y2 : Int32) (σ : HS), f_X9_cut_28 k9 n y2 σ = some R → AW ids ad ca Γ 28 [some (.ref (ad 2)), none, some (.int y2)] [] σ := by
    intro k9 hk9 n
    induction n with
    | zero => intro y2 σ h; exact nn h
    | succ n ih =>
      intro y2 σ h
      have h : b_X9_cut_28 k9 (f_X9_cut_28 k9 n) y2 σ = some R := h
      unfold b_X9_cut_28 at h
      refine a_aload_n C dX9_cut_28 (i := 0) rfl rfl ?_
      refine a_get C fl_RX9_29 (i := 2) kd_2 (hid 2 (by decide)) (v := .int (σ.1 2 5)) rfl dX9_cut_29 ?_
      refine a_aload_n C dX9_cut_32 (i := 0) rfl rfl ?_
      refine a_get C fl_RX9_25 (i := 2) kd_2 (hid 2 (by decide)) (v := .int (σ.1 2 1)) rfl dX9_cut_33 ?_
      refine p_ic_ge C (X := (σ.1 2 5).toInt) (Y := (σ.1 2 1).toInt) rfl rfl dX9_cut_36 (tgt := 67) rfl h (fun h => ?_) (fun h => ?_)
      ·
        exact j67 k9 hk9 _ _ h
      ·
        refine a_aload_n C dX9_cut_39 (i := 0) rfl rfl ?_
        refine a_get C fl_RX9_9 (i := 2) kd_2 (hid 2 (by decide)) (v := .ref (ad 3)) rfl dX9_cut_40 ?_
        refine a_aload_n C dX9_cut_43 (i := 0) rfl rfl ?_
        refine a_get C fl_RX9_29 (i := 2) kd_2 (hid 2 (by decide)) (v := .int (σ.1 2 5)) rfl dX9_cut_44 ?_
        refine p_iald C (i := 3) (show rowOK 3 from ⟨kd_3, by decide⟩) hid (by rw [al_3]; rfl) dX9_cut_47 h (fun h => ?_)
        refine p_callSi C (As := [.int (σ.1 3 (σ.1 2 5).toInt.toNat)]) h (fun _ _ e => Z_X9_isBlank hid e) ms_X9_isBlank ml_RX9_32 rfl rfl (Nat.le_of_ble_eq_true rfl) (Nat.le_of_ble_eq_true rfl) (Nat.le_of_ble_eq_true rfl) dX9_cut_48 (fun r2 σ1 h => ?_)
        refine p_if_eq C (X := r2.toInt) rfl dX9_cut_51 (tgt := 67) rfl h (fun h => ?_) (fun h => ?_)
        ·
          exact j67 k9 hk9 _ _ h
        ·
          refine a_aload_n C dX9_cut_54 (i := 0) rfl rfl ?_
          refine a_dup C dX9_cut_55 rfl ?_
          refine a_get C fl_RX9_29 (i := 2) kd_2 (hid 2 (by decide)) (v := .int (σ1.1 2 5)) rfl dX9_cut_56 ?_
          refine a_iconst C dX9_cut_59 (v := 1) rfl ?_
          refine a_iadd C dX9_cut_60 ?_
          refine p_put C fp_RX9_29 (i := 2) kd_2 (hid 2 (by decide)) rfl rfl dX9_cut_61 h (fun σ3 h => ?_)
          refine a_goto C dX9_cut_64 (tgt := 28) rfl ?_
          exact ih _ _ h
  have j9 : ∀ (n : Nat) (y1 : Int32) (y2 : Int32) (σ : HS), f_X9_cut_9 n y1 y2 σ = some R → AW ids ad ca Γ 9 [some (.ref (ad 2)), some (.int y1), some (.int y2)] [] σ := by
    intro n
    induction n with
    | zero => intro y1 y2 σ h; exact nn h
    | succ n ih =>
      intro y1 y2 σ h
      have h : b_X9_cut_9 (f_X9_cut_9 n) y1 y2 σ = some R := h
      unfold b_X9_cut_9 at h
      refine a_iload_n C dX9_cut_9 (i := 2) rfl rfl ?_
      refine a_sipush C dX9_cut_10 (v := 400) rfl ?_
      refine p_ic_gt C (X := y2.toInt) (Y := 400) rfl (by decide) dX9_cut_13 (tgt := 96) rfl h (fun h => ?_) (fun h => ?_)
      ·
        exact a_vret Rt dX9_cut_96 (retv_eq (h.trans (congrArg some hR.symm)))
      ·
        refine a_iload_n C dX9_cut_16 (i := 1) rfl rfl ?_
        refine a_bipush C dX9_cut_17 (v := 22) rfl ?_
        refine p_ic_eq C (X := y1.toInt) (Y := 22) rfl (by decide) dX9_cut_19 (tgt := 96) rfl h (fun h => ?_) (fun h => ?_)
        ·
          exact a_vret Rt dX9_cut_96 (retv_eq (h.trans (congrArg some hR.symm)))
        ·
          refine a_iload_n C dX9_cut_22 (i := 1) rfl rfl ?_
          refine a_bipush C dX9_cut_23 (v := 23) rfl ?_
          refine p_ic_eq C (X := y1.toInt) (Y := 23) rfl (by decide) dX9_cut_25 (tgt := 96) rfl h (fun h => ?_) (fun h => ?_)
          ·
            exact a_vret Rt dX9_cut_96 (retv_eq (h.trans (congrArg some hR.symm)))
          ·
            refine AW.sub (vs' := [some (.ref (ad 2)), none, some (.int y2)]) (lsub_of (by simp [lsubB])) ?_
            exact j28 (f_X9_cut_9 n) (fun y1 y2 σ h => ih y1 y2 σ h) _ _ _ h
  refine a_aload_n C dX9_cut_0 (i := 0) rfl rfl ?_
  refine a_iconst C dX9_cut_1 (v := 0) rfl ?_
  refine p_put C fp_RX9_29 (i := 2) kd_2 (hid 2 (by decide)) rfl rfl dX9_cut_2 h (fun σ1 h => ?_)
  refine a_iconst C dX9_cut_5 (v := (-1)) rfl ?_
  refine a_istore_n C dX9_cut_6 (i := 1) rfl (by decide) rfl (vs1 := [some (.ref (ad 2)), some (.int (-1)), none]) rfl ?_
  refine a_iconst C dX9_cut_7 (v := 0) rfl ?_
  refine a_istore_n C dX9_cut_8 (i := 2) rfl (by decide) rfl (vs1 := [some (.ref (ad 2)), some (.int (-1)), some (.int 0)]) rfl ?_
  exact j9 _ _ _ _ h
set_option maxHeartbeats 4000000 in
set_option maxRecDepth 100000 in
theorem Z_X6_refuse {l : Launch} {D : va_G} {ids : List Nat} {ad : Nat → Nat} {ca : Nat → ClassId} {σ : HS} {x1 : Int32} {r0 : Int32} {s0 : HS} (hid : ∀ i, i < 277 → i ∈ ids) (h : f_X6_refuse x1 σ = some (r0, s0)) : Ki l D ids ad ca yX6_refuse cX6_refuse 2 .boolean 0 0 [.ref (ad 1), .int x1] σ (fun r σ1 => r = r0 ∧ σ1 = s0) := by
  obtain ⟨R, hR⟩ : ∃ R, (r0, s0) = R := ⟨_, rfl⟩
  replace h := h.trans (congrArg some hR)
  refine Ki.of (by decide) (Nat.le_of_ble_eq_true rfl) 0 (fun Γ C Rt => ?_)
  show AW ids ad ca Γ 0 [some (.ref (ad 1)), some (.int x1)] [] σ
  unfold f_X6_refuse at h
  refine a_aload_n C dX6_refuse_0 (i := 0) rfl rfl ?_
  refine a_iload_n C dX6_refuse_1 (i := 1) rfl rfl ?_
  refine p_put C fp_RX6_34 (i := 1) kd_1 (hid 1 (by decide)) rfl rfl dX6_refuse_2 h (fun σ1 h => ?_)
  refine a_aload_n C dX6_refuse_5 (i := 0) rfl rfl ?_
  refine a_aload_n C dX6_refuse_6 (i := 0) rfl rfl ?_
  refine a_get C fl_RX6_12 (i := 1) kd_1 (hid 1 (by decide)) (v := .ref (ad 2)) rfl dX6_refuse_7 ?_
  refine a_get C fl_RX6_70 (i := 2) kd_2 (hid 2 (by decide)) (v := .ref (ad 5)) rfl dX6_refuse_10 ?_
  refine a_aload_n C dX6_refuse_13 (i := 0) rfl rfl ?_
  refine a_get C fl_RX6_46 (i := 1) kd_1 (hid 1 (by decide)) (v := .int (σ1.1 1 5)) rfl dX6_refuse_14 ?_
  refine p_iald C (i := 5) (show rowOK 5 from ⟨kd_5, by decide⟩) hid (by rw [al_5]; rfl) dX6_refuse_17 h (fun h => ?_)
  refine p_put C fp_RX6_18 (i := 1) kd_1 (hid 1 (by decide)) rfl rfl dX6_refuse_18 h (fun σ2 h => ?_)
  refine a_iconst C dX6_refuse_21 (v := 0) rfl ?_
  exact a_iret Rt dX6_refuse_22 (nar_z (by decide)).1 (ret_eq (h.trans (congrArg some hR.symm)))
set_option maxHeartbeats 4000000 in
set_option maxRecDepth 100000 in
theorem Z_X6_take {l : Launch} {D : va_G} {ids : List Nat} {ad : Nat → Nat} {ca : Nat → ClassId} {σ : HS} {x1 : Int32} {r0 : Int32} {s0 : HS} (hid : ∀ i, i < 277 → i ∈ ids) (h : f_X6_take x1 σ = some (r0, s0)) : Ki l D ids ad ca yX6_take cX6_take 2 .boolean 1 21 [.ref (ad 1), .int x1] σ (fun r σ1 => r = r0 ∧ σ1 = s0) := by
  obtain ⟨R, hR⟩ : ∃ R, (r0, s0) = R := ⟨_, rfl⟩
  replace h := h.trans (congrArg some hR)
  refine Ki.of (by decide) (Nat.le_of_ble_eq_true rfl) 0 (fun Γ C Rt => ?_)
  show AW ids ad ca Γ 0 [some (.ref (ad 1)), some (.int x1)] [] σ
  unfold f_X6_take at h
  have j31 : ∀ (σ : HS), f_X6_take_31 σ = some R → AW ids ad ca Γ 31 [some (.ref (ad 1)), none] [] σ := by
    intro σ h
    unfold f_X6_take_31 at h
    refine a_aload_n C dX6_take_31 (i := 0) rfl rfl ?_
    refine a_iconst C dX6_take_32 (v := 2) rfl ?_
    refine p_callVi C (As := [.int 2]) (i := 1) kd_1 (hid 1 (by decide)) ⟨_, _, rfl⟩ (by decide) h (fun _ _ e => Z_X6_refuse hid e) mi_X6_refuse ml_RX6_60 rfl rfl (Nat.le_of_ble_eq_true rfl) (Nat.le_of_ble_eq_true rfl) (Nat.le_of_ble_eq_true rfl) dX6_take_33 (fun r2 σ1 h => ?_)
    refine ite_n h (fun c h => ?_)
    exact a_iret Rt dX6_take_36 (nar_z c).1 (ret_eq (h.trans (congrArg some hR.symm)))
  refine a_aload_n C dX6_take_0 (i := 0) rfl rfl ?_
  refine a_get C fl_RX6_53 (i := 1) kd_1 (hid 1 (by decide)) (v := .int (σ.1 1 6)) rfl dX6_take_1 ?_
  refine a_iload_n C dX6_take_4 (i := 1) rfl rfl ?_
  refine p_ic_eq C (X := (σ.1 1 6).toInt) (Y := x1.toInt) rfl rfl dX6_take_5 (tgt := 14) rfl h (fun h => ?_) (fun h => ?_)
  ·
    refine a_aload_n C dX6_take_14 (i := 0) rfl rfl ?_
    refine a_get C fl_RX6_46 (i := 1) kd_1 (hid 1 (by decide)) (v := .int (σ.1 1 5)) rfl dX6_take_15 ?_
    refine p_if_lt C (X := (σ.1 1 5).toInt) rfl dX6_take_18 (tgt := 31) rfl h (fun h => ?_) (fun h => ?_)
    ·
      refine AW.sub (vs' := [some (.ref (ad 1)), none]) (lsub_of (by simp [lsubB])) ?_
      exact j31 _ h
    ·
      refine a_aload_n C dX6_take_21 (i := 0) rfl rfl ?_
      refine a_get C fl_RX6_46 (i := 1) kd_1 (hid 1 (by decide)) (v := .int (σ.1 1 5)) rfl dX6_take_22 ?_
      refine a_sipush C dX6_take_25 (v := 400) rfl ?_
      refine p_ic_lt C (X := (σ.1 1 5).toInt) (Y := 400) rfl (by decide) dX6_take_28 (tgt := 37) rfl h (fun h => ?_) (fun h => ?_)
      ·
        refine a_aload_n C dX6_take_37 (i := 0) rfl rfl ?_
        refine a_aload_n C dX6_take_38 (i := 0) rfl rfl ?_
        refine a_get C fl_RX6_12 (i := 1) kd_1 (hid 1 (by decide)) (v := .ref (ad 2)) rfl dX6_take_39 ?_
        refine a_get C fl_RX6_64 (i := 2) kd_2 (hid 2 (by decide)) (v := .ref (ad 6)) rfl dX6_take_42 ?_
        refine a_aload_n C dX6_take_45 (i := 0) rfl rfl ?_
        refine a_get C fl_RX6_46 (i := 1) kd_1 (hid 1 (by decide)) (v := .int (σ.1 1 5)) rfl dX6_take_46 ?_
        refine p_lald C (i := 6) kd_6 (hid 6 (by decide)) (by rw [al_6]; rfl) dX6_take_49 h (fun h => ?_)
        refine a_l2i C dX6_take_50 ?_
        refine p_put C fp_RX6_67 (i := 1) kd_1 (hid 1 (by decide)) rfl rfl dX6_take_51 h (fun σ1 h => ?_)
        refine a_aload_n C dX6_take_54 (i := 0) rfl rfl ?_
        refine a_dup C dX6_take_55 rfl ?_
        refine a_get C fl_RX6_46 (i := 1) kd_1 (hid 1 (by decide)) (v := .int (σ1.1 1 5)) rfl dX6_take_56 ?_
        refine a_iconst C dX6_take_59 (v := 1) rfl ?_
        refine a_iadd C dX6_take_60 ?_
        refine p_put C fp_RX6_46 (i := 1) kd_1 (hid 1 (by decide)) rfl rfl dX6_take_61 h (fun σ2 h => ?_)
        refine a_aload_n C dX6_take_64 (i := 0) rfl rfl ?_
        refine a_aload_n C dX6_take_65 (i := 0) rfl rfl ?_
        refine a_get C fl_RX6_12 (i := 1) kd_1 (hid 1 (by decide)) (v := .ref (ad 2)) rfl dX6_take_66 ?_
        refine a_get C fl_RX6_49 (i := 2) kd_2 (hid 2 (by decide)) (v := .ref (ad 4)) rfl dX6_take_69 ?_
        refine a_aload_n C dX6_take_72 (i := 0) rfl rfl ?_
        refine a_get C fl_RX6_46 (i := 1) kd_1 (hid 1 (by decide)) (v := .int (σ2.1 1 5)) rfl dX6_take_73 ?_
        refine p_iald C (i := 4) (show rowOK 4 from ⟨kd_4, by decide⟩) hid (by rw [al_4]; rfl) dX6_take_76 h (fun h => ?_)
        refine p_put C fp_RX6_53 (i := 1) kd_1 (hid 1 (by decide)) rfl rfl dX6_take_77 h (fun σ3 h => ?_)
        refine a_iconst C dX6_take_80 (v := 1) rfl ?_
        exact a_iret Rt dX6_take_81 (nar_z (by decide)).1 (ret_eq (h.trans (congrArg some hR.symm)))
      ·
        refine AW.sub (vs' := [some (.ref (ad 1)), none]) (lsub_of (by simp [lsubB])) ?_
        exact j31 _ h
  ·
    refine a_aload_n C dX6_take_8 (i := 0) rfl rfl ?_
    refine a_iconst C dX6_take_9 (v := 1) rfl ?_
    refine p_callVi C (As := [.int 1]) (i := 1) kd_1 (hid 1 (by decide)) ⟨_, _, rfl⟩ (by decide) h (fun _ _ e => Z_X6_refuse hid e) mi_X6_refuse ml_RX6_60 rfl rfl (Nat.le_of_ble_eq_true rfl) (Nat.le_of_ble_eq_true rfl) (Nat.le_of_ble_eq_true rfl) dX6_take_10 (fun r5 σ4 h => ?_)
    refine ite_n h (fun c h => ?_)
    exact a_iret Rt dX6_take_13 (nar_z c).1 (ret_eq (h.trans (congrArg some hR.symm)))
set_option maxHeartbeats 4000000 in
set_option maxRecDepth 100000 in
theorem Z_X6_noteLater {l : Launch} {D : va_G} {ids : List Nat} {ad : Nat → Nat} {ca : Nat → ClassId} {σ : HS} {x1 : Int32} {s0 : HS} (hid : ∀ i, i < 277 → i ∈ ids) (h : f_X6_noteLater x1 σ = some s0) : Kv l D ids ad ca yX6_noteLater cX6_noteLater 2 0 0 [.ref (ad 1), .int x1] σ (fun σ1 => σ1 = s0) := by
  obtain ⟨R, hR⟩ : ∃ R, s0 = R := ⟨_, rfl⟩
  replace h := h.trans (congrArg some hR)
  refine Kv.of (by decide) (Nat.le_of_ble_eq_true rfl) 0 (fun Γ C Rt => ?_)
  show AW ids ad ca Γ 0 [some (.ref (ad 1)), some (.int x1)] [] σ
  unfold f_X6_noteLater at h
  refine a_aload_n C dX6_noteLater_0 (i := 0) rfl rfl ?_
  refine a_get C fl_RX6_37 (i := 1) kd_1 (hid 1 (by decide)) (v := .int (σ.1 1 3)) rfl dX6_noteLater_1 ?_
  refine p_if_ne C (X := (σ.1 1 3).toInt) rfl dX6_noteLater_4 (tgt := 28) rfl h (fun h => ?_) (fun h => ?_)
  ·
    exact a_vret Rt dX6_noteLater_28 (retv_eq (h.trans (congrArg some hR.symm)))
  ·
    refine a_aload_n C dX6_noteLater_7 (i := 0) rfl rfl ?_
    refine a_iload_n C dX6_noteLater_8 (i := 1) rfl rfl ?_
    refine p_put C fp_RX6_37 (i := 1) kd_1 (hid 1 (by decide)) rfl rfl dX6_noteLater_9 h (fun σ1 h => ?_)
    refine a_aload_n C dX6_noteLater_12 (i := 0) rfl rfl ?_
    refine a_aload_n C dX6_noteLater_13 (i := 0) rfl rfl ?_
    refine a_get C fl_RX6_12 (i := 1) kd_1 (hid 1 (by decide)) (v := .ref (ad 2)) rfl dX6_noteLater_14 ?_
    refine a_get C fl_RX6_70 (i := 2) kd_2 (hid 2 (by decide)) (v := .ref (ad 5)) rfl dX6_noteLater_17 ?_
    refine a_aload_n C dX6_noteLater_20 (i := 0) rfl rfl ?_
    refine a_get C fl_RX6_46 (i := 1) kd_1 (hid 1 (by decide)) (v := .int (σ1.1 1 5)) rfl dX6_noteLater_21 ?_
    refine p_iald C (i := 5) (show rowOK 5 from ⟨kd_5, by decide⟩) hid (by rw [al_5]; rfl) dX6_noteLater_24 h (fun h => ?_)
    refine p_put C fp_RX6_40 (i := 1) kd_1 (hid 1 (by decide)) rfl rfl dX6_noteLater_25 h (fun σ2 h => ?_)
    exact a_vret Rt dX6_noteLater_28 (retv_eq (h.trans (congrArg some hR.symm)))
set_option maxHeartbeats 4000000 in
set_option maxRecDepth 100000 in
theorem Z_X6_takeNumber {l : Launch} {D : va_G} {ids : List Nat} {ad : Nat → Nat} {ca : Nat → ClassId} {σ : HS} {x1 : Int32} {x2 : Int32} {r0 : Int32} {s0 : HS} (hid : ∀ i, i < 277 → i ∈ ids) (h : f_X6_takeNumber x1 x2 σ = some (r0, s0)) : Ki l D ids ad ca yX6_takeNumber cX6_takeNumber 5 .boolean 2 42 [.ref (ad 1), .int x1, .int x2] σ (fun r σ1 => r = r0 ∧ σ1 = s0) := by
  obtain ⟨R, hR⟩ : ∃ R, (r0, s0) = R := ⟨_, rfl⟩
  replace h := h.trans (congrArg some hR)
  refine Ki.of (by decide) (Nat.le_of_ble_eq_true rfl) 2 (fun Γ C Rt => ?_)
  show AW ids ad ca Γ 0 [some (.ref (ad 1)), some (.int x1), some (.int x2), none, none] [] σ
  unfold f_X6_takeNumber at h
  have j41 : ∀ (σ : HS), f_X6_takeNumber_41 σ = some R → AW ids ad ca Γ 41 [some (.ref (ad 1)), none, none, none, none] [] σ := by
    intro σ h
    unfold f_X6_takeNumber_41 at h
    refine a_aload_n C dX6_takeNumber_41 (i := 0) rfl rfl ?_
    refine a_bipush C dX6_takeNumber_42 (v := 21) rfl ?_
    refine p_callVi C (As := [.int 21]) (i := 1) kd_1 (hid 1 (by decide)) ⟨_, _, rfl⟩ (by decide) h (fun _ _ e => Z_X6_take hid e) mi_X6_take ml_RX6_77 rfl rfl (Nat.le_of_ble_eq_true rfl) (Nat.le_of_ble_eq_true rfl) (Nat.le_of_ble_eq_true rfl) dX6_takeNumber_44 (fun r2 σ1 h => ?_)
    refine ite_n h (fun c h => ?_)
    exact a_iret Rt dX6_takeNumber_47 (nar_z c).1 (ret_eq (h.trans (congrArg some hR.symm)))
  have j36 : ∀ (σ : HS), f_X6_takeNumber_36 σ = some R → AW ids ad ca Γ 36 [some (.ref (ad 1)), none, none, none, none] [] σ := by
    intro σ h
    unfold f_X6_takeNumber_36 at h
    refine a_aload_n C dX6_takeNumber_36 (i := 0) rfl rfl ?_
    refine a_iconst C dX6_takeNumber_37 (v := 5) rfl ?_
    refine p_callVv C (As := [.int 5]) (i := 1) kd_1 (hid 1 (by decide)) ⟨_, _, rfl⟩ (by decide) h (fun _ e => Z_X6_noteLater hid e) mi_X6_noteLater ml_RX6_73 rfl rfl (Nat.le_of_ble_eq_true rfl) (Nat.le_of_ble_eq_true rfl) (Nat.le_of_ble_eq_true rfl) dX6_takeNumber_38 (fun σ1 h => ?_)
    exact j41 _ h
  refine a_aload_n C dX6_takeNumber_0 (i := 0) rfl rfl ?_
  refine a_get C fl_RX6_12 (i := 1) kd_1 (hid 1 (by decide)) (v := .ref (ad 2)) rfl dX6_takeNumber_1 ?_
  refine a_get C fl_RX6_64 (i := 2) kd_2 (hid 2 (by decide)) (v := .ref (ad 6)) rfl dX6_takeNumber_4 ?_
  refine a_aload_n C dX6_takeNumber_7 (i := 0) rfl rfl ?_
  refine a_get C fl_RX6_46 (i := 1) kd_1 (hid 1 (by decide)) (v := .int (σ.1 1 5)) rfl dX6_takeNumber_8 ?_
  refine p_lald C (i := 6) kd_6 (hid 6 (by decide)) (by rw [al_6]; rfl) dX6_takeNumber_11 h (fun h => ?_)
  refine p_lstore_n C (fun z1 => [some (.ref (ad 1)), some (.int x1), some (.int x2), some (.long z1), none]) dX6_takeNumber_12 (i := 3) rfl (by decide) rfl (fun _ => rfl) h (fun z1 h => ?_)
  refine a_aload_n C dX6_takeNumber_13 (i := 0) rfl rfl ?_
  refine a_get C fl_RX6_53 (i := 1) kd_1 (hid 1 (by decide)) (v := .int (σ.1 1 6)) rfl dX6_takeNumber_14 ?_
  refine a_bipush C dX6_takeNumber_17 (v := 21) rfl ?_
  refine p_ic_ne C (X := (σ.1 1 6).toInt) (Y := 21) rfl (by decide) dX6_takeNumber_19 (tgt := 41) rfl h (fun h => ?_) (fun h => ?_)
  ·
    refine AW.sub (vs' := [some (.ref (ad 1)), none, none, none, none]) (lsub_of (by simp [lsubB])) ?_
    exact j41 _ h
  ·
    refine a_lload_n C dX6_takeNumber_22 (i := 3) rfl rfl ?_
    refine a_iload_n C dX6_takeNumber_23 (i := 1) rfl rfl ?_
    refine a_i2l C dX6_takeNumber_24 ?_
    refine a_lcmp C dX6_takeNumber_25 ?_
    refine p_if_lt C (X := (lg_cmp z1 (x1.toInt64)).toInt) rfl dX6_takeNumber_26 (tgt := 36) rfl h (fun h => ?_) (fun h => ?_)
    ·
      refine AW.sub (vs' := [some (.ref (ad 1)), none, none, none, none]) (lsub_of (by simp [lsubB])) ?_
      exact j36 _ h
    ·
      refine a_lload_n C dX6_takeNumber_29 (i := 3) rfl rfl ?_
      refine a_iload_n C dX6_takeNumber_30 (i := 2) rfl rfl ?_
      refine a_i2l C dX6_takeNumber_31 ?_
      refine a_lcmp C dX6_takeNumber_32 ?_
      refine p_if_le C (X := (lg_cmp z1 (x2.toInt64)).toInt) rfl dX6_takeNumber_33 (tgt := 41) rfl h (fun h => ?_) (fun h => ?_)
      ·
        refine AW.sub (vs' := [some (.ref (ad 1)), none, none, none, none]) (lsub_of (by simp [lsubB])) ?_
        exact j41 _ h
      ·
        refine AW.sub (vs' := [some (.ref (ad 1)), none, none, none, none]) (lsub_of (by simp [lsubB])) ?_
        exact j36 _ h
set_option maxHeartbeats 4000000 in
set_option maxRecDepth 100000 in
theorem Z_X6_unit {l : Launch} {D : va_G} {ids : List Nat} {ad : Nat → Nat} {ca : Nat → ClassId} {σ : HS} {p1 : Nat} {x2 : Int32} {r0 : Int32} {s0 : HS} (hid : ∀ i, i < 277 → i ∈ ids) (fE : Nat → Int32 → HS → Option (Int32 × HS)) {fr0 lo0 : Nat} (hE : ∀ (p1 : Nat) (x2 : Int32) (σ s0 : HS) (r0 : Int32), txtOK p1 → fE p1 x2 σ = some (r0, s0) → Ki l D ids ad ca yX6_expression cX6_expression 6 .boolean fr0 lo0 [.ref (ad 1), .ref (ad p1), .int x2] σ (fun r σ1 => r = r0 ∧ σ1 = s0)) (hp1 : txtOK p1) (h : f_X6_unit fE p1 x2 σ = some (r0, s0)) : Ki l D ids ad ca yX6_unit cX6_unit 4 .boolean (fr0 + 2) (lo0 + 42) [.ref (ad 1), .ref (ad p1), .int x2] σ (fun r σ1 => r = r0 ∧ σ1 = s0) := by
  obtain ⟨R, hR⟩ : ∃ R, (r0, s0) = R := ⟨_, rfl⟩
  replace h := h.trans (congrArg some hR)
  refine Ki.of (by decide) (Nat.le_of_ble_eq_true rfl) 1 (fun Γ C Rt => ?_)
  show AW ids ad ca Γ 0 [some (.ref (ad 1)), some (.ref (ad p1)), some (.int x2), none] [] σ
  unfold f_X6_unit at h
  have j88 : ∀ (y2 : Int32) (σ : HS), f_X6_unit_88 fE p1 y2 σ = some R → AW ids ad ca Γ 88 [some (.ref (ad 1)), some (.ref (ad p1)), some (.int y2), none] [] σ := by
    intro y2 σ h
    unfold f_X6_unit_88 at h
    refine a_aload_n C dX6_unit_88 (i := 0) rfl rfl ?_
    refine a_bipush C dX6_unit_89 (v := 40) rfl ?_
    refine p_callVi C (As := [.int 40]) (i := 1) kd_1 (hid 1 (by decide)) ⟨_, _, rfl⟩ (by decide) h (fun _ _ e => Z_X6_take hid e) mi_X6_take ml_RX6_77 rfl rfl (by omega) (by omega) (Nat.le_of_ble_eq_true rfl) dX6_unit_91 (fun r2 σ1 h => ?_)
    refine p_if_eq C (X := r2.toInt) rfl dX6_unit_94 (tgt := 121) rfl h (fun h => ?_) (fun h => ?_)
    ·
      refine a_iconst C dX6_unit_121 (v := 0) rfl ?_
      exact a_iret Rt dX6_unit_122 (nar_z (by decide)).1 (ret_eq (h.trans (congrArg some hR.symm)))
    ·
      refine a_aload_n C dX6_unit_97 (i := 0) rfl rfl ?_
      refine a_aload_n C dX6_unit_98 (i := 1) rfl rfl ?_
      refine a_iload_n C dX6_unit_99 (i := 2) rfl rfl ?_
      refine a_iconst C dX6_unit_100 (v := 1) rfl ?_
      refine a_iadd C dX6_unit_101 ?_
      refine p_callVi C (As := [.ref (ad p1), .int (y2 + (1 : Int32))]) (i := 1) kd_1 (hid 1 (by decide)) ⟨_, _, rfl⟩ (by decide) h (fun _ _ e => hE _ _ _ _ _ hp1 e) mi_X6_expression ml_RX6_135 rfl rfl (by omega) (by omega) (Nat.le_of_ble_eq_true rfl) dX6_unit_102 (fun r4 σ3 h => ?_)
      refine p_if_eq C (X := r4.toInt) rfl dX6_unit_105 (tgt := 121) rfl h (fun h => ?_) (fun h => ?_)
      ·
        refine a_iconst C dX6_unit_121 (v := 0) rfl ?_
        exact a_iret Rt dX6_unit_122 (nar_z (by decide)).1 (ret_eq (h.trans (congrArg some hR.symm)))
      ·
        refine a_aload_n C dX6_unit_108 (i := 0) rfl rfl ?_
        refine a_bipush C dX6_unit_109 (v := 41) rfl ?_
        refine p_callVi C (As := [.int 41]) (i := 1) kd_1 (hid 1 (by decide)) ⟨_, _, rfl⟩ (by decide) h (fun _ _ e => Z_X6_take hid e) mi_X6_take ml_RX6_77 rfl rfl (by omega) (by omega) (Nat.le_of_ble_eq_true rfl) dX6_unit_111 (fun r6 σ5 h => ?_)
        refine p_if_eq C (X := r6.toInt) rfl dX6_unit_114 (tgt := 121) rfl h (fun h => ?_) (fun h => ?_)
        ·
          refine a_iconst C dX6_unit_121 (v := 0) rfl ?_
          exact a_iret Rt dX6_unit_122 (nar_z (by decide)).1 (ret_eq (h.trans (congrArg some hR.symm)))
        ·
          refine a_iconst C dX6_unit_117 (v := 1) rfl ?_
          refine a_goto C dX6_unit_118 (tgt := 122) rfl ?_
          exact a_iret Rt dX6_unit_122 (nar_z (by decide)).1 (ret_eq (h.trans (congrArg some hR.symm)))
  have j67 : ∀ (y2 : Int32) (σ : HS), f_X6_unit_67 fE p1 y2 σ = some R → AW ids ad ca Γ 67 [some (.ref (ad 1)), some (.ref (ad p1)), some (.int y2), none] [] σ := by
    intro y2 σ h
    unfold f_X6_unit_67 at h
    refine a_aload_n C dX6_unit_67 (i := 0) rfl rfl ?_
    refine a_get C fl_RX6_53 (i := 1) kd_1 (hid 1 (by decide)) (v := .int (σ.1 1 6)) rfl dX6_unit_68 ?_
    refine a_bipush C dX6_unit_71 (v := 40) rfl ?_
    refine p_ic_ne C (X := (σ.1 1 6).toInt) (Y := 40) rfl (by decide) dX6_unit_73 (tgt := 88) rfl h (fun h => ?_) (fun h => ?_)
    ·
      exact j88 _ _ h
    ·
      refine a_iload_n C dX6_unit_76 (i := 2) rfl rfl ?_
      refine a_bipush C dX6_unit_77 (v := 6) rfl ?_
      refine p_ic_lt C (X := y2.toInt) (Y := 6) rfl (by decide) dX6_unit_79 (tgt := 88) rfl h (fun h => ?_) (fun h => ?_)
      ·
        exact j88 _ _ h
      ·
        refine a_aload_n C dX6_unit_82 (i := 0) rfl rfl ?_
        refine a_iconst C dX6_unit_83 (v := 2) rfl ?_
        refine p_callVi C (As := [.int 2]) (i := 1) kd_1 (hid 1 (by decide)) ⟨_, _, rfl⟩ (by decide) h (fun _ _ e => Z_X6_refuse hid e) mi_X6_refuse ml_RX6_60 rfl rfl (by omega) (by omega) (Nat.le_of_ble_eq_true rfl) dX6_unit_84 (fun r2 σ1 h => ?_)
        refine ite_n h (fun c h => ?_)
        exact a_iret Rt dX6_unit_87 (nar_z c).1 (ret_eq (h.trans (congrArg some hR.symm)))
  refine a_aload_n C dX6_unit_0 (i := 0) rfl rfl ?_
  refine a_get C fl_RX6_53 (i := 1) kd_1 (hid 1 (by decide)) (v := .int (σ.1 1 6)) rfl dX6_unit_1 ?_
  refine a_bipush C dX6_unit_4 (v := 21) rfl ?_
  refine p_ic_ne C (X := (σ.1 1 6).toInt) (Y := 21) rfl (by decide) dX6_unit_6 (tgt := 26) rfl h (fun h => ?_) (fun h => ?_)
  ·
    refine a_aload_n C dX6_unit_26 (i := 0) rfl rfl ?_
    refine a_get C fl_RX6_53 (i := 1) kd_1 (hid 1 (by decide)) (v := .int (σ.1 1 6)) rfl dX6_unit_27 ?_
    refine a_bipush C dX6_unit_30 (v := 11) rfl ?_
    refine p_ic_lt C (X := (σ.1 1 6).toInt) (Y := 11) rfl (by decide) dX6_unit_32 (tgt := 67) rfl h (fun h => ?_) (fun h => ?_)
    ·
      exact j67 _ _ h
    ·
      refine a_aload_n C dX6_unit_35 (i := 0) rfl rfl ?_
      refine a_get C fl_RX6_53 (i := 1) kd_1 (hid 1 (by decide)) (v := .int (σ.1 1 6)) rfl dX6_unit_36 ?_
      refine a_bipush C dX6_unit_39 (v := 19) rfl ?_
      refine p_ic_gt C (X := (σ.1 1 6).toInt) (Y := 19) rfl (by decide) dX6_unit_41 (tgt := 67) rfl h (fun h => ?_) (fun h => ?_)
      ·
        exact j67 _ _ h
      ·
        refine a_aload_n C dX6_unit_44 (i := 1) rfl rfl ?_
        refine a_bipush C dX6_unit_45 (v := (-10)) rfl ?_
        refine a_aload_n C dX6_unit_47 (i := 0) rfl rfl ?_
        refine a_get C fl_RX6_53 (i := 1) kd_1 (hid 1 (by decide)) (v := .int (σ.1 1 6)) rfl dX6_unit_48 ?_
        refine a_bipush C dX6_unit_51 (v := 11) rfl ?_
        refine a_isub C dX6_unit_53 ?_
        refine a_isub C dX6_unit_54 ?_
        refine p_callVv C (As := [.int (((-10) : Int32) - ((σ.1 1 6) - (11 : Int32)))]) (i := p1) hp1.1.1 (hid _ hp1.1.2) ⟨_, _, rfl⟩ (by decide) h (fun _ e => Z_X10_emit hid hp1 e) mi_X10_emit ml_RX6_138 rfl rfl (by omega) (by omega) (Nat.le_of_ble_eq_true rfl) dX6_unit_55 (fun σ1 h => ?_)
        refine a_aload_n C dX6_unit_58 (i := 0) rfl rfl ?_
        refine a_aload_n C dX6_unit_59 (i := 0) rfl rfl ?_
        refine a_get C fl_RX6_53 (i := 1) kd_1 (hid 1 (by decide)) (v := .int (σ1.1 1 6)) rfl dX6_unit_60 ?_
        refine p_callVi C (As := [.int (σ1.1 1 6)]) (i := 1) kd_1 (hid 1 (by decide)) ⟨_, _, rfl⟩ (by decide) h (fun _ _ e => Z_X6_take hid e) mi_X6_take ml_RX6_77 rfl rfl (by omega) (by omega) (Nat.le_of_ble_eq_true rfl) dX6_unit_63 (fun r4 σ3 h => ?_)
        refine ite_n h (fun c h => ?_)
        exact a_iret Rt dX6_unit_66 (nar_z c).1 (ret_eq (h.trans (congrArg some hR.symm)))
  ·
    refine a_aload_n C dX6_unit_9 (i := 0) rfl rfl ?_
    refine a_bipush C dX6_unit_10 (v := 21) rfl ?_
    refine p_callVi C (As := [.int 21]) (i := 1) kd_1 (hid 1 (by decide)) ⟨_, _, rfl⟩ (by decide) h (fun _ _ e => Z_X6_take hid e) mi_X6_take ml_RX6_77 rfl rfl (by omega) (by omega) (Nat.le_of_ble_eq_true rfl) dX6_unit_12 (fun r6 σ5 h => ?_)
    refine a_istore_n C dX6_unit_15 (i := 3) rfl (by decide) rfl (vs1 := [some (.ref (ad 1)), some (.ref (ad p1)), some (.int x2), some (.int r6)]) rfl ?_
    refine a_aload_n C dX6_unit_16 (i := 1) rfl rfl ?_
    refine a_aload_n C dX6_unit_17 (i := 0) rfl rfl ?_
    refine a_get C fl_RX6_67 (i := 1) kd_1 (hid 1 (by decide)) (v := .int (σ5.1 1 7)) rfl dX6_unit_18 ?_
    refine p_callVv C (As := [.int (σ5.1 1 7)]) (i := p1) hp1.1.1 (hid _ hp1.1.2) ⟨_, _, rfl⟩ (by decide) h (fun _ e => Z_X10_emit hid hp1 e) mi_X10_emit ml_RX6_138 rfl rfl (by omega) (by omega) (Nat.le_of_ble_eq_true rfl) dX6_unit_21 (fun σ7 h => ?_)
    refine a_iload_n C dX6_unit_24 (i := 3) rfl rfl ?_
    refine ite_n h (fun c h => ?_)
    exact a_iret Rt dX6_unit_25 (nar_z c).1 (ret_eq (h.trans (congrArg some hR.symm)))

set_option maxHeartbeats 4000000 in
set_option maxRecDepth 100000 in
theorem Z_X6_product {l : Launch} {D : va_G} {ids : List Nat} {ad : Nat → Nat} {ca : Nat → ClassId} {σ : HS} {p1 : Nat} {x2 : Int32} {r0 : Int32} {s0 : HS} (hid : ∀ i, i < 277 → i ∈ ids) (fE : Nat → Int32 → HS → Option (Int32 × HS)) {fr0 lo0 : Nat} (hE : ∀ (p1 : Nat) (x2 : Int32) (σ s0 : HS) (r0 : Int32), txtOK p1 → fE p1 x2 σ = some (r0, s0) → Ki l D ids ad ca yX6_expression cX6_expression 6 .boolean fr0 lo0 [.ref (ad 1), .ref (ad p1), .int x2] σ (fun r σ1 => r = r0 ∧ σ1 = s0)) (hp1 : txtOK p1) (h : f_X6_product fE p1 x2 σ = some (r0, s0)) : Ki l D ids ad ca yX6_product cX6_product 6 .boolean (fr0 + 3) (lo0 + 65) [.ref (ad 1), .ref (ad p1), .int x2] σ (fun r σ1 => r = r0 ∧ σ1 = s0) := by
  obtain ⟨R, hR⟩ : ∃ R, (r0, s0) = R := ⟨_, rfl⟩
  replace h := h.trans (congrArg some hR)
  refine Ki.of (by decide) (Nat.le_of_ble_eq_true rfl) 3 (fun Γ C Rt => ?_)
  show AW ids ad ca Γ 0 [some (.ref (ad 1)), some (.ref (ad p1)), some (.int x2), none, none, none] [] σ
  unfold f_X6_product at h
  have j85 : ∀ (k10 : Int32 → Int32 → Int32 → HS → Option (Int32 × HS)) (hk10 : ∀ (y2 : Int32) (y3 : Int32) (y4 : Int32) (σ : HS), k10 y2 y3 y4 σ = some R → AW ids ad ca Γ 10 [some (.ref (ad 1)), some (.ref (ad p1)), some (.int y2), some (.int y3), some (.int y4), none] [] σ) (y2 : Int32) (y3 : Int32) (y4 : Int32) (v0 : Int32) (σ : HS), f_X6_product_85 fE p1 k10 y2 y3 y4 v0 σ = some R → AW ids ad ca Γ 85 [some (.ref (ad 1)), some (.ref (ad p1)), some (.int y2), some (.int y3), some (.int y4), none] [.int v0, .ref (ad p1)] σ := by
    intro k10 hk10 y2 y3 y4 v0 σ h
    unfold f_X6_product_85 at h
    refine p_callVv C (As := [.int v0]) (i := p1) hp1.1.1 (hid _ hp1.1.2) ⟨_, _, rfl⟩ (by decide) h (fun _ e => Z_X10_emit hid hp1 e) mi_X10_emit ml_RX6_138 rfl rfl (by omega) (by omega) (Nat.le_of_ble_eq_true rfl) dX6_product_85 (fun σ1 h => ?_)
    refine p_iinc C (y := (y4 + 1)) (fun z3 => [some (.ref (ad 1)), some (.ref (ad p1)), some (.int y2), some (.int y3), some (.int z3), none]) dX6_product_88 rfl rfl (by decide) rfl (fun _ => rfl) h (fun z3 h => ?_)
    refine a_goto C dX6_product_91 (tgt := 10) rfl ?_
    exact hk10 _ _ _ _ h
  have j69 : ∀ (k10 : Int32 → Int32 → Int32 → HS → Option (Int32 × HS)) (hk10 : ∀ (y2 : Int32) (y3 : Int32) (y4 : Int32) (σ : HS), k10 y2 y3 y4 σ = some R → AW ids ad ca Γ 10 [some (.ref (ad 1)), some (.ref (ad p1)), some (.int y2), some (.int y3), some (.int y4), none] [] σ) (y2 : Int32) (y4 : Int32) (y5 : Int32) (v0 : Int32) (σ : HS), f_X6_product_69 fE p1 k10 y2 y4 y5 v0 σ = some R → AW ids ad ca Γ 69 [some (.ref (ad 1)), some (.ref (ad p1)), some (.int y2), none, some (.int y4), some (.int y5)] [.int v0] σ := by
    intro k10 hk10 y2 y4 y5 v0 σ h
    unfold f_X6_product_69 at h
    refine a_istore_n C dX6_product_69 (i := 3) rfl (by decide) rfl (vs1 := [some (.ref (ad 1)), some (.ref (ad p1)), some (.int y2), some (.int v0), some (.int y4), some (.int y5)]) rfl ?_
    refine a_aload_n C dX6_product_70 (i := 1) rfl rfl ?_
    refine a_iload C dX6_product_71 rfl ?_
    refine a_bipush C dX6_product_73 (v := 42) rfl ?_
    refine p_ic_ne C (X := y5.toInt) (Y := 42) rfl (by decide) dX6_product_75 (tgt := 83) rfl h (fun h => ?_) (fun h => ?_)
    ·
      refine a_bipush C dX6_product_83 (v := (-4)) rfl ?_
      refine AW.sub (vs' := [some (.ref (ad 1)), some (.ref (ad p1)), some (.int y2), some (.int v0), some (.int y4), none]) (lsub_of (by simp [lsubB])) ?_
      exact j85 k10 hk10 _ _ _ _ _ h
    ·
      refine a_bipush C dX6_product_78 (v := (-3)) rfl ?_
      refine a_goto C dX6_product_80 (tgt := 85) rfl ?_
      refine AW.sub (vs' := [some (.ref (ad 1)), some (.ref (ad p1)), some (.int y2), some (.int v0), some (.int y4), none]) (lsub_of (by simp [lsubB])) ?_
      exact j85 k10 hk10 _ _ _ _ _ h
  have j68 : ∀ (k10 : Int32 → Int32 → Int32 → HS → Option (Int32 × HS)) (hk10 : ∀ (y2 : Int32) (y3 : Int32) (y4 : Int32) (σ : HS), k10 y2 y3 y4 σ = some R → AW ids ad ca Γ 10 [some (.ref (ad 1)), some (.ref (ad p1)), some (.int y2), some (.int y3), some (.int y4), none] [] σ) (y2 : Int32) (y4 : Int32) (y5 : Int32) (σ : HS), f_X6_product_68 fE p1 k10 y2 y4 y5 σ = some R → AW ids ad ca Γ 68 [some (.ref (ad 1)), some (.ref (ad p1)), some (.int y2), none, some (.int y4), some (.int y5)] [] σ := by
    intro k10 hk10 y2 y4 y5 σ h
    unfold f_X6_product_68 at h
    refine a_iconst C dX6_product_68 (v := 0) rfl ?_
    exact j69 k10 hk10 _ _ _ _ _ h
  have j32 : ∀ (k10 : Int32 → Int32 → Int32 → HS → Option (Int32 × HS)) (hk10 : ∀ (y2 : Int32) (y3 : Int32) (y4 : Int32) (σ : HS), k10 y2 y3 y4 σ = some R → AW ids ad ca Γ 10 [some (.ref (ad 1)), some (.ref (ad p1)), some (.int y2), some (.int y3), some (.int y4), none] [] σ) (y2 : Int32) (y3 : Int32) (y4 : Int32) (σ : HS), f_X6_product_32 fE p1 k10 y2 y3 y4 σ = some R → AW ids ad ca Γ 32 [some (.ref (ad 1)), some (.ref (ad p1)), some (.int y2), some (.int y3), some (.int y4), none] [] σ := by
    intro k10 hk10 y2 y3 y4 σ h
    unfold f_X6_product_32 at h
    refine a_iload C dX6_product_32 rfl ?_
    refine a_sipush C dX6_product_34 (v := 400) rfl ?_
    refine p_ic_ge C (X := y4.toInt) (Y := 400) rfl (by decide) dX6_product_37 (tgt := 94) rfl h (fun h => ?_) (fun h => ?_)
    ·
      refine a_iload_n C dX6_product_94 (i := 3) rfl rfl ?_
      refine ite_n h (fun c h => ?_)
      exact a_iret Rt dX6_product_95 (nar_z c).1 (ret_eq (h.trans (congrArg some hR.symm)))
    ·
      refine a_aload_n C dX6_product_40 (i := 0) rfl rfl ?_
      refine a_get C fl_RX6_53 (i := 1) kd_1 (hid 1 (by decide)) (v := .int (σ.1 1 6)) rfl dX6_product_41 ?_
      refine p_istore C (fun z1 => [some (.ref (ad 1)), some (.ref (ad p1)), some (.int y2), some (.int y3), some (.int y4), some (.int z1)]) dX6_product_44 (by decide) rfl (fun _ => rfl) h (fun z1 h => ?_)
      refine a_aload_n C dX6_product_46 (i := 0) rfl rfl ?_
      refine a_iload C dX6_product_47 rfl ?_
      refine p_callVi C (As := [.int z1]) (i := 1) kd_1 (hid 1 (by decide)) ⟨_, _, rfl⟩ (by decide) h (fun _ _ e => Z_X6_take hid e) mi_X6_take ml_RX6_77 rfl rfl (by omega) (by omega) (Nat.le_of_ble_eq_true rfl) dX6_product_49 (fun r3 σ2 h => ?_)
      refine p_if_eq C (X := r3.toInt) rfl dX6_product_52 (tgt := 68) rfl h (fun h => ?_) (fun h => ?_)
      ·
        refine AW.sub (vs' := [some (.ref (ad 1)), some (.ref (ad p1)), some (.int y2), none, some (.int y4), some (.int z1)]) (lsub_of (by simp [lsubB])) ?_
        exact j68 k10 hk10 _ _ _ _ h
      ·
        refine a_aload_n C dX6_product_55 (i := 0) rfl rfl ?_
        refine a_aload_n C dX6_product_56 (i := 1) rfl rfl ?_
        refine a_iload_n C dX6_product_57 (i := 2) rfl rfl ?_
        refine p_callVi C (As := [.ref (ad p1), .int y2]) (i := 1) kd_1 (hid 1 (by decide)) ⟨_, _, rfl⟩ (by decide) h (fun _ _ e => Z_X6_unit hid fE hE hp1 e) mi_X6_unit ml_RX6_147 rfl rfl (by omega) (by omega) (Nat.le_of_ble_eq_true rfl) dX6_product_58 (fun r5 σ4 h => ?_)
        refine p_if_eq C (X := r5.toInt) rfl dX6_product_61 (tgt := 68) rfl h (fun h => ?_) (fun h => ?_)
        ·
          refine AW.sub (vs' := [some (.ref (ad 1)), some (.ref (ad p1)), some (.int y2), none, some (.int y4), some (.int z1)]) (lsub_of (by simp [lsubB])) ?_
          exact j68 k10 hk10 _ _ _ _ h
        ·
          refine a_iconst C dX6_product_64 (v := 1) rfl ?_
          refine a_goto C dX6_product_65 (tgt := 69) rfl ?_
          refine AW.sub (vs' := [some (.ref (ad 1)), some (.ref (ad p1)), some (.int y2), none, some (.int y4), some (.int z1)]) (lsub_of (by simp [lsubB])) ?_
          exact j69 k10 hk10 _ _ _ _ _ h
  have j10 : ∀ (n : Nat) (y2 : Int32) (y3 : Int32) (y4 : Int32) (σ : HS), f_X6_product_10 fE p1 n y2 y3 y4 σ = some R → AW ids ad ca Γ 10 [some (.ref (ad 1)), some (.ref (ad p1)), some (.int y2), some (.int y3), some (.int y4), none] [] σ := by
    intro n
    induction n with
    | zero => intro y2 y3 y4 σ h; exact nn h
    | succ n ih =>
      intro y2 y3 y4 σ h
      have h : b_X6_product_10 fE p1 (f_X6_product_10 fE p1 n) y2 y3 y4 σ = some R := h
      unfold b_X6_product_10 at h
      refine a_iload_n C dX6_product_10 (i := 3) rfl rfl ?_
      refine p_if_eq C (X := y3.toInt) rfl dX6_product_11 (tgt := 94) rfl h (fun h => ?_) (fun h => ?_)
      ·
        refine a_iload_n C dX6_product_94 (i := 3) rfl rfl ?_
        refine ite_n h (fun c h => ?_)
        exact a_iret Rt dX6_product_95 (nar_z c).1 (ret_eq (h.trans (congrArg some hR.symm)))
      ·
        refine a_aload_n C dX6_product_14 (i := 0) rfl rfl ?_
        refine a_get C fl_RX6_53 (i := 1) kd_1 (hid 1 (by decide)) (v := .int (σ.1 1 6)) rfl dX6_product_15 ?_
        refine a_bipush C dX6_product_18 (v := 42) rfl ?_
        refine p_ic_eq C (X := (σ.1 1 6).toInt) (Y := 42) rfl (by decide) dX6_product_20 (tgt := 32) rfl h (fun h => ?_) (fun h => ?_)
        ·
          exact j32 (f_X6_product_10 fE p1 n) (fun y2 y3 y4 σ h => ih y2 y3 y4 σ h) _ _ _ _ h
        ·
          refine a_aload_n C dX6_product_23 (i := 0) rfl rfl ?_
          refine a_get C fl_RX6_53 (i := 1) kd_1 (hid 1 (by decide)) (v := .int (σ.1 1 6)) rfl dX6_product_24 ?_
          refine a_bipush C dX6_product_27 (v := 47) rfl ?_
          refine p_ic_ne C (X := (σ.1 1 6).toInt) (Y := 47) rfl (by decide) dX6_product_29 (tgt := 94) rfl h (fun h => ?_) (fun h => ?_)
          ·
            refine a_iload_n C dX6_product_94 (i := 3) rfl rfl ?_
            refine ite_n h (fun c h => ?_)
            exact a_iret Rt dX6_product_95 (nar_z c).1 (ret_eq (h.trans (congrArg some hR.symm)))
          ·
            exact j32 (f_X6_product_10 fE p1 n) (fun y2 y3 y4 σ h => ih y2 y3 y4 σ h) _ _ _ _ h
  refine a_aload_n C dX6_product_0 (i := 0) rfl rfl ?_
  refine a_aload_n C dX6_product_1 (i := 1) rfl rfl ?_
  refine a_iload_n C dX6_product_2 (i := 2) rfl rfl ?_
  refine p_callVi C (As := [.ref (ad p1), .int x2]) (i := 1) kd_1 (hid 1 (by decide)) ⟨_, _, rfl⟩ (by decide) h (fun _ _ e => Z_X6_unit hid fE hE hp1 e) mi_X6_unit ml_RX6_147 rfl rfl (by omega) (by omega) (Nat.le_of_ble_eq_true rfl) dX6_product_3 (fun r2 σ1 h => ?_)
  refine a_istore_n C dX6_product_6 (i := 3) rfl (by decide) rfl (vs1 := [some (.ref (ad 1)), some (.ref (ad p1)), some (.int x2), some (.int r2), none, none]) rfl ?_
  refine a_iconst C dX6_product_7 (v := 0) rfl ?_
  refine a_istore C dX6_product_8 (by decide) rfl (vs1 := [some (.ref (ad 1)), some (.ref (ad p1)), some (.int x2), some (.int r2), some (.int 0), none]) rfl ?_
  exact j10 _ _ _ _ _ h
set_option maxHeartbeats 4000000 in
set_option maxRecDepth 100000 in
theorem Zg_X6_expression {l : Launch} {D : va_G} {ids : List Nat} {ad : Nat → Nat} {ca : Nat → ClassId} {σ : HS} {p1 : Nat} {x2 : Int32} {r0 : Int32} {s0 : HS} (hid : ∀ i, i < 277 → i ∈ ids) (fE : Nat → Int32 → HS → Option (Int32 × HS)) {fr0 lo0 : Nat} (hE : ∀ (p1 : Nat) (x2 : Int32) (σ s0 : HS) (r0 : Int32), txtOK p1 → fE p1 x2 σ = some (r0, s0) → Ki l D ids ad ca yX6_expression cX6_expression 6 .boolean fr0 lo0 [.ref (ad 1), .ref (ad p1), .int x2] σ (fun r σ1 => r = r0 ∧ σ1 = s0)) (hp1 : txtOK p1) (h : g_X6_expression fE p1 x2 σ = some (r0, s0)) : Ki l D ids ad ca yX6_expression cX6_expression 6 .boolean (fr0 + 4) (lo0 + 90) [.ref (ad 1), .ref (ad p1), .int x2] σ (fun r σ1 => r = r0 ∧ σ1 = s0) := by
  obtain ⟨R, hR⟩ : ∃ R, (r0, s0) = R := ⟨_, rfl⟩
  replace h := h.trans (congrArg some hR)
  refine Ki.of (by decide) (Nat.le_of_ble_eq_true rfl) 3 (fun Γ C Rt => ?_)
  show AW ids ad ca Γ 0 [some (.ref (ad 1)), some (.ref (ad p1)), some (.int x2), none, none, none] [] σ
  unfold g_X6_expression at h
  have j84 : ∀ (k10 : Int32 → Int32 → Int32 → HS → Option (Int32 × HS)) (hk10 : ∀ (y2 : Int32) (y3 : Int32) (y4 : Int32) (σ : HS), k10 y2 y3 y4 σ = some R → AW ids ad ca Γ 10 [some (.ref (ad 1)), some (.ref (ad p1)), some (.int y2), some (.int y3), some (.int y4), none] [] σ) (y2 : Int32) (y3 : Int32) (y4 : Int32) (v0 : Int32) (σ : HS), f_X6_expression_84 fE p1 k10 y2 y3 y4 v0 σ = some R → AW ids ad ca Γ 84 [some (.ref (ad 1)), some (.ref (ad p1)), some (.int y2), some (.int y3), some (.int y4), none] [.int v0, .ref (ad p1)] σ := by
    intro k10 hk10 y2 y3 y4 v0 σ h
    unfold f_X6_expression_84 at h
    refine p_callVv C (As := [.int v0]) (i := p1) hp1.1.1 (hid _ hp1.1.2) ⟨_, _, rfl⟩ (by decide) h (fun _ e => Z_X10_emit hid hp1 e) mi_X10_emit ml_RX6_138 rfl rfl (by omega) (by omega) (Nat.le_of_ble_eq_true rfl) dX6_expression_84 (fun σ1 h => ?_)
    refine p_iinc C (y := (y4 + 1)) (fun z3 => [some (.ref (ad 1)), some (.ref (ad p1)), some (.int y2), some (.int y3), some (.int z3), none]) dX6_expression_87 rfl rfl (by decide) rfl (fun _ => rfl) h (fun z3 h => ?_)
    refine a_goto C dX6_expression_90 (tgt := 10) rfl ?_
    exact hk10 _ _ _ _ h
  have j69 : ∀ (k10 : Int32 → Int32 → Int32 → HS → Option (Int32 × HS)) (hk10 : ∀ (y2 : Int32) (y3 : Int32) (y4 : Int32) (σ : HS), k10 y2 y3 y4 σ = some R → AW ids ad ca Γ 10 [some (.ref (ad 1)), some (.ref (ad p1)), some (.int y2), some (.int y3), some (.int y4), none] [] σ) (y2 : Int32) (y4 : Int32) (y5 : Int32) (v0 : Int32) (σ : HS), f_X6_expression_69 fE p1 k10 y2 y4 y5 v0 σ = some R → AW ids ad ca Γ 69 [some (.ref (ad 1)), some (.ref (ad p1)), some (.int y2), none, some (.int y4), some (.int y5)] [.int v0] σ := by
    intro k10 hk10 y2 y4 y5 v0 σ h
    unfold f_X6_expression_69 at h
    refine a_istore_n C dX6_expression_69 (i := 3) rfl (by decide) rfl (vs1 := [some (.ref (ad 1)), some (.ref (ad p1)), some (.int y2), some (.int v0), some (.int y4), some (.int y5)]) rfl ?_
    refine a_aload_n C dX6_expression_70 (i := 1) rfl rfl ?_
    refine a_iload C dX6_expression_71 rfl ?_
    refine a_bipush C dX6_expression_73 (v := 43) rfl ?_
    refine p_ic_ne C (X := y5.toInt) (Y := 43) rfl (by decide) dX6_expression_75 (tgt := 82) rfl h (fun h => ?_) (fun h => ?_)
    ·
      refine a_bipush C dX6_expression_82 (v := (-2)) rfl ?_
      refine AW.sub (vs' := [some (.ref (ad 1)), some (.ref (ad p1)), some (.int y2), some (.int v0), some (.int y4), none]) (lsub_of (by simp [lsubB])) ?_
      exact j84 k10 hk10 _ _ _ _ _ h
    ·
      refine a_iconst C dX6_expression_78 (v := (-1)) rfl ?_
      refine a_goto C dX6_expression_79 (tgt := 84) rfl ?_
      refine AW.sub (vs' := [some (.ref (ad 1)), some (.ref (ad p1)), some (.int y2), some (.int v0), some (.int y4), none]) (lsub_of (by simp [lsubB])) ?_
      exact j84 k10 hk10 _ _ _ _ _ h
  have j68 : ∀ (k10 : Int32 → Int32 → Int32 → HS → Option (Int32 × HS)) (hk10 : ∀ (y2 : Int32) (y3 : Int32) (y4 : Int32) (σ : HS), k10 y2 y3 y4 σ = some R → AW ids ad ca Γ 10 [some (.ref (ad 1)), some (.ref (ad p1)), some (.int y2), some (.int y3), some (.int y4), none] [] σ) (y2 : Int32) (y4 : Int32) (y5 : Int32) (σ : HS), f_X6_expression_68 fE p1 k10 y2 y4 y5 σ = some R → AW ids ad ca Γ 68 [some (.ref (ad 1)), some (.ref (ad p1)), some (.int y2), none, some (.int y4), some (.int y5)] [] σ := by
    intro k10 hk10 y2 y4 y5 σ h
    unfold f_X6_expression_68 at h
    refine a_iconst C dX6_expression_68 (v := 0) rfl ?_
    exact j69 k10 hk10 _ _ _ _ _ h
  have j32 : ∀ (k10 : Int32 → Int32 → Int32 → HS → Option (Int32 × HS)) (hk10 : ∀ (y2 : Int32) (y3 : Int32) (y4 : Int32) (σ : HS), k10 y2 y3 y4 σ = some R → AW ids ad ca Γ 10 [some (.ref (ad 1)), some (.ref (ad p1)), some (.int y2), some (.int y3), some (.int y4), none] [] σ) (y2 : Int32) (y3 : Int32) (y4 : Int32) (σ : HS), f_X6_expression_32 fE p1 k10 y2 y3 y4 σ = some R → AW ids ad ca Γ 32 [some (.ref (ad 1)), some (.ref (ad p1)), some (.int y2), some (.int y3), some (.int y4), none] [] σ := by
    intro k10 hk10 y2 y3 y4 σ h
    unfold f_X6_expression_32 at h
    refine a_iload C dX6_expression_32 rfl ?_
    refine a_sipush C dX6_expression_34 (v := 400) rfl ?_
    refine p_ic_ge C (X := y4.toInt) (Y := 400) rfl (by decide) dX6_expression_37 (tgt := 93) rfl h (fun h => ?_) (fun h => ?_)
    ·
      refine a_iload_n C dX6_expression_93 (i := 3) rfl rfl ?_
      refine ite_n h (fun c h => ?_)
      exact a_iret Rt dX6_expression_94 (nar_z c).1 (ret_eq (h.trans (congrArg some hR.symm)))
    ·
      refine a_aload_n C dX6_expression_40 (i := 0) rfl rfl ?_
      refine a_get C fl_RX6_53 (i := 1) kd_1 (hid 1 (by decide)) (v := .int (σ.1 1 6)) rfl dX6_expression_41 ?_
      refine p_istore C (fun z1 => [some (.ref (ad 1)), some (.ref (ad p1)), some (.int y2), some (.int y3), some (.int y4), some (.int z1)]) dX6_expression_44 (by decide) rfl (fun _ => rfl) h (fun z1 h => ?_)
      refine a_aload_n C dX6_expression_46 (i := 0) rfl rfl ?_
      refine a_iload C dX6_expression_47 rfl ?_
      refine p_callVi C (As := [.int z1]) (i := 1) kd_1 (hid 1 (by decide)) ⟨_, _, rfl⟩ (by decide) h (fun _ _ e => Z_X6_take hid e) mi_X6_take ml_RX6_77 rfl rfl (by omega) (by omega) (Nat.le_of_ble_eq_true rfl) dX6_expression_49 (fun r3 σ2 h => ?_)
      refine p_if_eq C (X := r3.toInt) rfl dX6_expression_52 (tgt := 68) rfl h (fun h => ?_) (fun h => ?_)
      ·
        refine AW.sub (vs' := [some (.ref (ad 1)), some (.ref (ad p1)), some (.int y2), none, some (.int y4), some (.int z1)]) (lsub_of (by simp [lsubB])) ?_
        exact j68 k10 hk10 _ _ _ _ h
      ·
        refine a_aload_n C dX6_expression_55 (i := 0) rfl rfl ?_
        refine a_aload_n C dX6_expression_56 (i := 1) rfl rfl ?_
        refine a_iload_n C dX6_expression_57 (i := 2) rfl rfl ?_
        refine p_callVi C (As := [.ref (ad p1), .int y2]) (i := 1) kd_1 (hid 1 (by decide)) ⟨_, _, rfl⟩ (by decide) h (fun _ _ e => Z_X6_product hid fE hE hp1 e) mi_X6_product ml_RX6_144 rfl rfl (by omega) (by omega) (Nat.le_of_ble_eq_true rfl) dX6_expression_58 (fun r5 σ4 h => ?_)
        refine p_if_eq C (X := r5.toInt) rfl dX6_expression_61 (tgt := 68) rfl h (fun h => ?_) (fun h => ?_)
        ·
          refine AW.sub (vs' := [some (.ref (ad 1)), some (.ref (ad p1)), some (.int y2), none, some (.int y4), some (.int z1)]) (lsub_of (by simp [lsubB])) ?_
          exact j68 k10 hk10 _ _ _ _ h
        ·
          refine a_iconst C dX6_expression_64 (v := 1) rfl ?_
          refine a_goto C dX6_expression_65 (tgt := 69) rfl ?_
          refine AW.sub (vs' := [some (.ref (ad 1)), some (.ref (ad p1)), some (.int y2), none, some (.int y4), some (.int z1)]) (lsub_of (by simp [lsubB])) ?_
          exact j69 k10 hk10 _ _ _ _ _ h
  have j10 : ∀ (n : Nat) (y2 : Int32) (y3 : Int32) (y4 : Int32) (σ : HS), f_X6_expression_10 fE p1 n y2 y3 y4 σ = some R → AW ids ad ca Γ 10 [some (.ref (ad 1)), some (.ref (ad p1)), some (.int y2), some (.int y3), some (.int y4), none] [] σ := by
    intro n
    induction n with
    | zero => intro y2 y3 y4 σ h; exact nn h
    | succ n ih =>
      intro y2 y3 y4 σ h
      have h : b_X6_expression_10 fE p1 (f_X6_expression_10 fE p1 n) y2 y3 y4 σ = some R := h
      unfold b_X6_expression_10 at h
      refine a_iload_n C dX6_expression_10 (i := 3) rfl rfl ?_
      refine p_if_eq C (X := y3.toInt) rfl dX6_expression_11 (tgt := 93) rfl h (fun h => ?_) (fun h => ?_)
      ·
        refine a_iload_n C dX6_expression_93 (i := 3) rfl rfl ?_
        refine ite_n h (fun c h => ?_)
        exact a_iret Rt dX6_expression_94 (nar_z c).1 (ret_eq (h.trans (congrArg some hR.symm)))
      ·
        refine a_aload_n C dX6_expression_14 (i := 0) rfl rfl ?_
        refine a_get C fl_RX6_53 (i := 1) kd_1 (hid 1 (by decide)) (v := .int (σ.1 1 6)) rfl dX6_expression_15 ?_
        refine a_bipush C dX6_expression_18 (v := 43) rfl ?_
        refine p_ic_eq C (X := (σ.1 1 6).toInt) (Y := 43) rfl (by decide) dX6_expression_20 (tgt := 32) rfl h (fun h => ?_) (fun h => ?_)
        ·
          exact j32 (f_X6_expression_10 fE p1 n) (fun y2 y3 y4 σ h => ih y2 y3 y4 σ h) _ _ _ _ h
        ·
          refine a_aload_n C dX6_expression_23 (i := 0) rfl rfl ?_
          refine a_get C fl_RX6_53 (i := 1) kd_1 (hid 1 (by decide)) (v := .int (σ.1 1 6)) rfl dX6_expression_24 ?_
          refine a_bipush C dX6_expression_27 (v := 45) rfl ?_
          refine p_ic_ne C (X := (σ.1 1 6).toInt) (Y := 45) rfl (by decide) dX6_expression_29 (tgt := 93) rfl h (fun h => ?_) (fun h => ?_)
          ·
            refine a_iload_n C dX6_expression_93 (i := 3) rfl rfl ?_
            refine ite_n h (fun c h => ?_)
            exact a_iret Rt dX6_expression_94 (nar_z c).1 (ret_eq (h.trans (congrArg some hR.symm)))
          ·
            exact j32 (f_X6_expression_10 fE p1 n) (fun y2 y3 y4 σ h => ih y2 y3 y4 σ h) _ _ _ _ h
  refine a_aload_n C dX6_expression_0 (i := 0) rfl rfl ?_
  refine a_aload_n C dX6_expression_1 (i := 1) rfl rfl ?_
  refine a_iload_n C dX6_expression_2 (i := 2) rfl rfl ?_
  refine p_callVi C (As := [.ref (ad p1), .int x2]) (i := 1) kd_1 (hid 1 (by decide)) ⟨_, _, rfl⟩ (by decide) h (fun _ _ e => Z_X6_product hid fE hE hp1 e) mi_X6_product ml_RX6_144 rfl rfl (by omega) (by omega) (Nat.le_of_ble_eq_true rfl) dX6_expression_3 (fun r2 σ1 h => ?_)
  refine a_istore_n C dX6_expression_6 (i := 3) rfl (by decide) rfl (vs1 := [some (.ref (ad 1)), some (.ref (ad p1)), some (.int x2), some (.int r2), none, none]) rfl ?_
  refine a_iconst C dX6_expression_7 (v := 0) rfl ?_
  refine a_istore C dX6_expression_8 (by decide) rfl (vs1 := [some (.ref (ad 1)), some (.ref (ad p1)), some (.int x2), some (.int r2), some (.int 0), none]) rfl ?_
  exact j10 _ _ _ _ _ h
theorem Z_X6_expression {l : Launch} {D : va_G} {ids : List Nat} {ad : Nat → Nat} {ca : Nat → ClassId} (hid : ∀ i, i < 277 → i ∈ ids) : ∀ (n : Nat) (p1 : Nat) (x2 : Int32) (σ s0 : HS) (r0 : Int32), txtOK p1 → f_X6_expression n p1 x2 σ = some (r0, s0) → Ki l D ids ad ca yX6_expression cX6_expression 6 .boolean (4 * n) (90 * n) [.ref (ad 1), .ref (ad p1), .int x2] σ (fun r σ1 => r = r0 ∧ σ1 = s0) := by
  intro n
  induction n with
  | zero => intro p1 x2 σ s0 r0 hp h; exact nn h
  | succ n ih => intro p1 x2 σ s0 r0 hp h; exact Zg_X6_expression hid (f_X6_expression n) ih hp h
set_option maxHeartbeats 4000000 in
set_option maxRecDepth 100000 in
theorem Z_X6_condition {l : Launch} {D : va_G} {ids : List Nat} {ad : Nat → Nat} {ca : Nat → ClassId} {σ : HS} {p1 : Nat} {r0 : Int32} {s0 : HS} (hid : ∀ i, i < 277 → i ∈ ids) (hp1 : txtOK p1) (h : f_X6_condition p1 σ = some (r0, s0)) : Ki l D ids ad ca yX6_condition cX6_condition 3 .boolean 33 745 [.ref (ad 1), .ref (ad p1)] σ (fun r σ1 => r = r0 ∧ σ1 = s0) := by
  obtain ⟨R, hR⟩ : ∃ R, (r0, s0) = R := ⟨_, rfl⟩
  replace h := h.trans (congrArg some hR)
  refine Ki.of (by decide) (Nat.le_of_ble_eq_true rfl) 1 (fun Γ C Rt => ?_)
  show AW ids ad ca Γ 0 [some (.ref (ad 1)), some (.ref (ad p1)), none] [] σ
  unfold f_X6_condition at h
  refine a_aload_n C dX6_condition_0 (i := 0) rfl rfl ?_
  refine a_bipush C dX6_condition_1 (v := 8) rfl ?_
  refine p_callVi C (As := [.int 8]) (i := 1) kd_1 (hid 1 (by decide)) ⟨_, _, rfl⟩ (by decide) h (fun _ _ e => Z_X6_take hid e) mi_X6_take ml_RX6_77 rfl rfl (Nat.le_of_ble_eq_true rfl) (Nat.le_of_ble_eq_true rfl) (Nat.le_of_ble_eq_true rfl) dX6_condition_3 (fun r2 σ1 h => ?_)
  refine p_if_eq C (X := r2.toInt) rfl dX6_condition_6 (tgt := 45) rfl h (fun h => ?_) (fun h => ?_)
  ·
    refine a_iconst C dX6_condition_45 (v := 0) rfl ?_
    exact a_iret Rt dX6_condition_46 (nar_z (by decide)).1 (ret_eq (h.trans (congrArg some hR.symm)))
  ·
    refine a_aload_n C dX6_condition_9 (i := 0) rfl rfl ?_
    refine a_aload_n C dX6_condition_10 (i := 1) rfl rfl ?_
    refine a_iconst C dX6_condition_11 (v := 0) rfl ?_
    refine p_callVi C (As := [.ref (ad p1), .int 0]) (i := 1) kd_1 (hid 1 (by decide)) ⟨_, _, rfl⟩ (by decide) h (fun _ _ e => Z_X6_expression hid 8 _ _ _ _ _ hp1 e) mi_X6_expression ml_RX6_135 rfl rfl (Nat.le_of_ble_eq_true rfl) (Nat.le_of_ble_eq_true rfl) (Nat.le_of_ble_eq_true rfl) dX6_condition_12 (fun r4 σ3 h => ?_)
    refine p_if_eq C (X := r4.toInt) rfl dX6_condition_15 (tgt := 45) rfl h (fun h => ?_) (fun h => ?_)
    ·
      refine a_iconst C dX6_condition_45 (v := 0) rfl ?_
      exact a_iret Rt dX6_condition_46 (nar_z (by decide)).1 (ret_eq (h.trans (congrArg some hR.symm)))
    ·
      refine a_aload_n C dX6_condition_18 (i := 0) rfl rfl ?_
      refine a_bipush C dX6_condition_19 (v := 60) rfl ?_
      refine p_callVi C (As := [.int 60]) (i := 1) kd_1 (hid 1 (by decide)) ⟨_, _, rfl⟩ (by decide) h (fun _ _ e => Z_X6_take hid e) mi_X6_take ml_RX6_77 rfl rfl (Nat.le_of_ble_eq_true rfl) (Nat.le_of_ble_eq_true rfl) (Nat.le_of_ble_eq_true rfl) dX6_condition_21 (fun r6 σ5 h => ?_)
      refine p_if_eq C (X := r6.toInt) rfl dX6_condition_24 (tgt := 45) rfl h (fun h => ?_) (fun h => ?_)
      ·
        refine a_iconst C dX6_condition_45 (v := 0) rfl ?_
        exact a_iret Rt dX6_condition_46 (nar_z (by decide)).1 (ret_eq (h.trans (congrArg some hR.symm)))
      ·
        refine a_aload_n C dX6_condition_27 (i := 0) rfl rfl ?_
        refine a_aload_n C dX6_condition_28 (i := 1) rfl rfl ?_
        refine a_iconst C dX6_condition_29 (v := 0) rfl ?_
        refine p_callVi C (As := [.ref (ad p1), .int 0]) (i := 1) kd_1 (hid 1 (by decide)) ⟨_, _, rfl⟩ (by decide) h (fun _ _ e => Z_X6_expression hid 8 _ _ _ _ _ hp1 e) mi_X6_expression ml_RX6_135 rfl rfl (Nat.le_of_ble_eq_true rfl) (Nat.le_of_ble_eq_true rfl) (Nat.le_of_ble_eq_true rfl) dX6_condition_30 (fun r8 σ7 h => ?_)
        refine p_if_eq C (X := r8.toInt) rfl dX6_condition_33 (tgt := 45) rfl h (fun h => ?_) (fun h => ?_)
        ·
          refine a_iconst C dX6_condition_45 (v := 0) rfl ?_
          exact a_iret Rt dX6_condition_46 (nar_z (by decide)).1 (ret_eq (h.trans (congrArg some hR.symm)))
        ·
          refine a_aload_n C dX6_condition_36 (i := 0) rfl rfl ?_
          refine a_bipush C dX6_condition_37 (v := 9) rfl ?_
          refine p_callVi C (As := [.int 9]) (i := 1) kd_1 (hid 1 (by decide)) ⟨_, _, rfl⟩ (by decide) h (fun _ _ e => Z_X6_take hid e) mi_X6_take ml_RX6_77 rfl rfl (Nat.le_of_ble_eq_true rfl) (Nat.le_of_ble_eq_true rfl) (Nat.le_of_ble_eq_true rfl) dX6_condition_39 (fun r10 σ9 h => ?_)
          refine p_if_ne C (X := r10.toInt) rfl dX6_condition_42 (tgt := 47) rfl h (fun h => ?_) (fun h => ?_)
          ·
            refine a_aload_n C dX6_condition_47 (i := 1) rfl rfl ?_
            refine a_bipush C dX6_condition_48 (v := (-5)) rfl ?_
            refine p_callVv C (As := [.int (-5)]) (i := p1) hp1.1.1 (hid _ hp1.1.2) ⟨_, _, rfl⟩ (by decide) h (fun _ e => Z_X10_emit hid hp1 e) mi_X10_emit ml_RX6_138 rfl rfl (Nat.le_of_ble_eq_true rfl) (Nat.le_of_ble_eq_true rfl) (Nat.le_of_ble_eq_true rfl) dX6_condition_50 (fun σ11 h => ?_)
            refine a_aload_n C dX6_condition_53 (i := 1) rfl rfl ?_
            refine a_get C fl_RX6_129 (i := p1) hp1.1.1 (hid _ hp1.1.2) (v := .int (σ11.1 p1 8)) rfl dX6_condition_54 ?_
            refine p_istore_n C (fun z13 => [some (.ref (ad 1)), some (.ref (ad p1)), some (.int z13)]) dX6_condition_57 (i := 2) rfl (by decide) rfl (fun _ => rfl) h (fun z13 h => ?_)
            refine a_aload_n C dX6_condition_58 (i := 1) rfl rfl ?_
            refine a_iconst C dX6_condition_59 (v := 0) rfl ?_
            refine p_callVv C (As := [.int 0]) (i := p1) hp1.1.1 (hid _ hp1.1.2) ⟨_, _, rfl⟩ (by decide) h (fun _ e => Z_X10_emit hid hp1 e) mi_X10_emit ml_RX6_138 rfl rfl (Nat.le_of_ble_eq_true rfl) (Nat.le_of_ble_eq_true rfl) (Nat.le_of_ble_eq_true rfl) dX6_condition_60 (fun σ14 h => ?_)
            refine a_aload_n C dX6_condition_63 (i := 0) rfl rfl ?_
            refine a_aload_n C dX6_condition_64 (i := 1) rfl rfl ?_
            refine a_iconst C dX6_condition_65 (v := 0) rfl ?_
            refine p_callVi C (As := [.ref (ad p1), .int 0]) (i := 1) kd_1 (hid 1 (by decide)) ⟨_, _, rfl⟩ (by decide) h (fun _ _ e => Z_X6_expression hid 8 _ _ _ _ _ hp1 e) mi_X6_expression ml_RX6_135 rfl rfl (Nat.le_of_ble_eq_true rfl) (Nat.le_of_ble_eq_true rfl) (Nat.le_of_ble_eq_true rfl) dX6_condition_66 (fun r17 σ16 h => ?_)
            refine p_if_eq C (X := r17.toInt) rfl dX6_condition_69 (tgt := 81) rfl h (fun h => ?_) (fun h => ?_)
            ·
              refine a_iconst C dX6_condition_81 (v := 0) rfl ?_
              exact a_iret Rt dX6_condition_82 (nar_z (by decide)).1 (ret_eq (h.trans (congrArg some hR.symm)))
            ·
              refine a_aload_n C dX6_condition_72 (i := 0) rfl rfl ?_
              refine a_bipush C dX6_condition_73 (v := 10) rfl ?_
              refine p_callVi C (As := [.int 10]) (i := 1) kd_1 (hid 1 (by decide)) ⟨_, _, rfl⟩ (by decide) h (fun _ _ e => Z_X6_take hid e) mi_X6_take ml_RX6_77 rfl rfl (Nat.le_of_ble_eq_true rfl) (Nat.le_of_ble_eq_true rfl) (Nat.le_of_ble_eq_true rfl) dX6_condition_75 (fun r19 σ18 h => ?_)
              refine p_if_ne C (X := r19.toInt) rfl dX6_condition_78 (tgt := 83) rfl h (fun h => ?_) (fun h => ?_)
              ·
                refine a_aload_n C dX6_condition_83 (i := 1) rfl rfl ?_
                refine a_bipush C dX6_condition_84 (v := (-6)) rfl ?_
                refine p_callVv C (As := [.int (-6)]) (i := p1) hp1.1.1 (hid _ hp1.1.2) ⟨_, _, rfl⟩ (by decide) h (fun _ e => Z_X10_emit hid hp1 e) mi_X10_emit ml_RX6_138 rfl rfl (Nat.le_of_ble_eq_true rfl) (Nat.le_of_ble_eq_true rfl) (Nat.le_of_ble_eq_true rfl) dX6_condition_86 (fun σ20 h => ?_)
                refine a_iload_n C dX6_condition_89 (i := 2) rfl rfl ?_
                refine a_aload_n C dX6_condition_90 (i := 1) rfl rfl ?_
                refine a_get C fl_RX6_141 (i := p1) hp1.1.1 (hid _ hp1.1.2) (v := .ref (ad (p1 + 11))) rfl dX6_condition_91 ?_
                refine a_alen C (by rw [hp1.2.2.2.2.2.1.1.1]; decide) (hid _ hp1.2.2.2.2.2.1.1.2) rfl dX6_condition_94 ?_
                refine p_ic_ge C (X := z13.toInt) (Y := (Int32.ofNat (al (p1 + 11))).toInt) rfl rfl dX6_condition_95 (tgt := 108) rfl h (fun h => ?_) (fun h => ?_)
                ·
                  refine a_iconst C dX6_condition_108 (v := 1) rfl ?_
                  exact a_iret Rt dX6_condition_109 (nar_z (by decide)).1 (ret_eq (h.trans (congrArg some hR.symm)))
                ·
                  refine a_aload_n C dX6_condition_98 (i := 1) rfl rfl ?_
                  refine a_get C fl_RX6_141 (i := p1) hp1.1.1 (hid _ hp1.1.2) (v := .ref (ad (p1 + 11))) rfl dX6_condition_99 ?_
                  refine a_iload_n C dX6_condition_102 (i := 2) rfl rfl ?_
                  refine a_aload_n C dX6_condition_103 (i := 1) rfl rfl ?_
                  refine a_get C fl_RX6_129 (i := p1) hp1.1.1 (hid _ hp1.1.2) (v := .int (σ20.1 p1 8)) rfl dX6_condition_104 ?_
                  refine p_iast C (i := (p1 + 11)) hp1.2.2.2.2.2.1.1 hid (by rw [hp1.2.2.2.2.2.1.2]; rfl) dX6_condition_107 h (fun σ22 h => ?_)
                  refine a_iconst C dX6_condition_108 (v := 1) rfl ?_
                  exact a_iret Rt dX6_condition_109 (nar_z (by decide)).1 (ret_eq (h.trans (congrArg some hR.symm)))
              ·
                refine a_iconst C dX6_condition_81 (v := 0) rfl ?_
                exact a_iret Rt dX6_condition_82 (nar_z (by decide)).1 (ret_eq (h.trans (congrArg some hR.symm)))
          ·
            refine a_iconst C dX6_condition_45 (v := 0) rfl ?_
            exact a_iret Rt dX6_condition_46 (nar_z (by decide)).1 (ret_eq (h.trans (congrArg some hR.symm)))
set_option maxHeartbeats 4000000 in
set_option maxRecDepth 100000 in
theorem Z_X6_tellingLaw {l : Launch} {D : va_G} {ids : List Nat} {ad : Nat → Nat} {ca : Nat → ClassId} {σ : HS} {p1 : Nat} {x2 : Int32} {r0 : Int32} {s0 : HS} (hid : ∀ i, i < 277 → i ∈ ids) (hp1 : txtOK p1) (h : f_X6_tellingLaw p1 x2 σ = some (r0, s0)) : Ki l D ids ad ca yX6_tellingLaw cX6_tellingLaw 4 .boolean 34 767 [.ref (ad 1), .ref (ad p1), .int x2] σ (fun r σ1 => r = r0 ∧ σ1 = s0) := by
  obtain ⟨R, hR⟩ : ∃ R, (r0, s0) = R := ⟨_, rfl⟩
  replace h := h.trans (congrArg some hR)
  refine Ki.of (by decide) (Nat.le_of_ble_eq_true rfl) 1 (fun Γ C Rt => ?_)
  show AW ids ad ca Γ 0 [some (.ref (ad 1)), some (.ref (ad p1)), some (.int x2), none] [] σ
  unfold f_X6_tellingLaw at h
  have j63 : ∀ (σ : HS), f_X6_tellingLaw_63 p1 σ = some R → AW ids ad ca Γ 63 [some (.ref (ad 1)), some (.ref (ad p1)), none, none] [] σ := by
    intro σ h
    unfold f_X6_tellingLaw_63 at h
    refine a_aload_n C dX6_tellingLaw_63 (i := 0) rfl rfl ?_
    refine a_get C fl_RX6_53 (i := 1) kd_1 (hid 1 (by decide)) (v := .int (σ.1 1 6)) rfl dX6_tellingLaw_64 ?_
    refine a_bipush C dX6_tellingLaw_67 (v := 8) rfl ?_
    refine p_ic_ne C (X := (σ.1 1 6).toInt) (Y := 8) rfl (by decide) dX6_tellingLaw_69 (tgt := 78) rfl h (fun h => ?_) (fun h => ?_)
    ·
      refine a_aload_n C dX6_tellingLaw_78 (i := 0) rfl rfl ?_
      refine a_aload_n C dX6_tellingLaw_79 (i := 1) rfl rfl ?_
      refine a_iconst C dX6_tellingLaw_80 (v := 0) rfl ?_
      refine p_callVi C (As := [.ref (ad p1), .int 0]) (i := 1) kd_1 (hid 1 (by decide)) ⟨_, _, rfl⟩ (by decide) h (fun _ _ e => Z_X6_expression hid 8 _ _ _ _ _ hp1 e) mi_X6_expression ml_RX6_135 rfl rfl (Nat.le_of_ble_eq_true rfl) (Nat.le_of_ble_eq_true rfl) (Nat.le_of_ble_eq_true rfl) dX6_tellingLaw_81 (fun r2 σ1 h => ?_)
      refine p_if_ne C (X := r2.toInt) rfl dX6_tellingLaw_84 (tgt := 89) rfl h (fun h => ?_) (fun h => ?_)
      ·
        refine a_aload_n C dX6_tellingLaw_89 (i := 1) rfl rfl ?_
        refine a_bipush C dX6_tellingLaw_90 (v := (-6)) rfl ?_
        refine p_callVv C (As := [.int (-6)]) (i := p1) hp1.1.1 (hid _ hp1.1.2) ⟨_, _, rfl⟩ (by decide) h (fun _ e => Z_X10_emit hid hp1 e) mi_X10_emit ml_RX6_138 rfl rfl (Nat.le_of_ble_eq_true rfl) (Nat.le_of_ble_eq_true rfl) (Nat.le_of_ble_eq_true rfl) dX6_tellingLaw_92 (fun σ3 h => ?_)
        refine a_aload_n C dX6_tellingLaw_95 (i := 0) rfl rfl ?_
        refine a_bipush C dX6_tellingLaw_96 (v := 59) rfl ?_
        refine p_callVi C (As := [.int 59]) (i := 1) kd_1 (hid 1 (by decide)) ⟨_, _, rfl⟩ (by decide) h (fun _ _ e => Z_X6_take hid e) mi_X6_take ml_RX6_77 rfl rfl (Nat.le_of_ble_eq_true rfl) (Nat.le_of_ble_eq_true rfl) (Nat.le_of_ble_eq_true rfl) dX6_tellingLaw_98 (fun r6 σ5 h => ?_)
        refine ite_n h (fun c h => ?_)
        exact a_iret Rt dX6_tellingLaw_101 (nar_z c).1 (ret_eq (h.trans (congrArg some hR.symm)))
      ·
        refine a_iconst C dX6_tellingLaw_87 (v := 0) rfl ?_
        exact a_iret Rt dX6_tellingLaw_88 (nar_z (by decide)).1 (ret_eq (h.trans (congrArg some hR.symm)))
    ·
      refine a_aload_n C dX6_tellingLaw_72 (i := 0) rfl rfl ?_
      refine a_iconst C dX6_tellingLaw_73 (v := 2) rfl ?_
      refine p_callVi C (As := [.int 2]) (i := 1) kd_1 (hid 1 (by decide)) ⟨_, _, rfl⟩ (by decide) h (fun _ _ e => Z_X6_refuse hid e) mi_X6_refuse ml_RX6_60 rfl rfl (Nat.le_of_ble_eq_true rfl) (Nat.le_of_ble_eq_true rfl) (Nat.le_of_ble_eq_true rfl) dX6_tellingLaw_74 (fun r8 σ7 h => ?_)
      refine ite_n h (fun c h => ?_)
      exact a_iret Rt dX6_tellingLaw_77 (nar_z c).1 (ret_eq (h.trans (congrArg some hR.symm)))
  have j33 : ∀ (n : Nat) (y3 : Int32) (σ : HS), f_X6_tellingLaw_33 p1 n y3 σ = some R → AW ids ad ca Γ 33 [some (.ref (ad 1)), some (.ref (ad p1)), none, some (.int y3)] [] σ := by
    intro n
    induction n with
    | zero => intro y3 σ h; exact nn h
    | succ n ih =>
      intro y3 σ h
      have h : b_X6_tellingLaw_33 p1 (f_X6_tellingLaw_33 p1 n) y3 σ = some R := h
      unfold b_X6_tellingLaw_33 at h
      refine a_aload_n C dX6_tellingLaw_33 (i := 0) rfl rfl ?_
      refine a_get C fl_RX6_53 (i := 1) kd_1 (hid 1 (by decide)) (v := .int (σ.1 1 6)) rfl dX6_tellingLaw_34 ?_
      refine a_bipush C dX6_tellingLaw_37 (v := 8) rfl ?_
      refine p_ic_ne C (X := (σ.1 1 6).toInt) (Y := 8) rfl (by decide) dX6_tellingLaw_39 (tgt := 63) rfl h (fun h => ?_) (fun h => ?_)
      ·
        refine AW.sub (vs' := [some (.ref (ad 1)), some (.ref (ad p1)), none, none]) (lsub_of (by simp [lsubB])) ?_
        exact j63 _ h
      ·
        refine a_iload_n C dX6_tellingLaw_42 (i := 3) rfl rfl ?_
        refine a_iconst C dX6_tellingLaw_43 (v := 4) rfl ?_
        refine p_ic_ge C (X := y3.toInt) (Y := 4) rfl (by decide) dX6_tellingLaw_44 (tgt := 63) rfl h (fun h => ?_) (fun h => ?_)
        ·
          refine AW.sub (vs' := [some (.ref (ad 1)), some (.ref (ad p1)), none, none]) (lsub_of (by simp [lsubB])) ?_
          exact j63 _ h
        ·
          refine a_aload_n C dX6_tellingLaw_47 (i := 0) rfl rfl ?_
          refine a_aload_n C dX6_tellingLaw_48 (i := 1) rfl rfl ?_
          refine p_callVi C (As := [.ref (ad p1)]) (i := 1) kd_1 (hid 1 (by decide)) ⟨_, _, rfl⟩ (by decide) h (fun _ _ e => Z_X6_condition hid hp1 e) mi_X6_condition ml_RX6_132 rfl rfl (Nat.le_of_ble_eq_true rfl) (Nat.le_of_ble_eq_true rfl) (Nat.le_of_ble_eq_true rfl) dX6_tellingLaw_49 (fun r2 σ1 h => ?_)
          refine p_if_ne C (X := r2.toInt) rfl dX6_tellingLaw_52 (tgt := 57) rfl h (fun h => ?_) (fun h => ?_)
          ·
            refine p_iinc C (y := (y3 + 1)) (fun z3 => [some (.ref (ad 1)), some (.ref (ad p1)), none, some (.int z3)]) dX6_tellingLaw_57 rfl rfl (by decide) rfl (fun _ => rfl) h (fun z3 h => ?_)
            refine a_goto C dX6_tellingLaw_60 (tgt := 33) rfl ?_
            exact ih _ _ h
          ·
            refine a_iconst C dX6_tellingLaw_55 (v := 0) rfl ?_
            exact a_iret Rt dX6_tellingLaw_56 (nar_z (by decide)).1 (ret_eq (h.trans (congrArg some hR.symm)))
  refine a_aload_n C dX6_tellingLaw_0 (i := 1) rfl rfl ?_
  refine a_get C fl_RX6_126 (i := p1) hp1.1.1 (hid _ hp1.1.2) (v := .ref (ad (p1 + 12))) rfl dX6_tellingLaw_1 ?_
  refine a_iload_n C dX6_tellingLaw_4 (i := 2) rfl rfl ?_
  refine a_iconst C dX6_tellingLaw_5 (v := 2) rfl ?_
  refine a_isub C dX6_tellingLaw_6 ?_
  refine a_aload_n C dX6_tellingLaw_7 (i := 1) rfl rfl ?_
  refine a_get C fl_RX6_129 (i := p1) hp1.1.1 (hid _ hp1.1.2) (v := .int (σ.1 p1 8)) rfl dX6_tellingLaw_8 ?_
  refine p_iast C (i := (p1 + 12)) hp1.2.2.2.2.2.2.1.1 hid (by rw [hp1.2.2.2.2.2.2.1.2]; rfl) dX6_tellingLaw_11 h (fun σ1 h => ?_)
  refine a_aload_n C dX6_tellingLaw_12 (i := 0) rfl rfl ?_
  refine a_iload_n C dX6_tellingLaw_13 (i := 2) rfl rfl ?_
  refine p_callVi C (As := [.int x2]) (i := 1) kd_1 (hid 1 (by decide)) ⟨_, _, rfl⟩ (by decide) h (fun _ _ e => Z_X6_take hid e) mi_X6_take ml_RX6_77 rfl rfl (Nat.le_of_ble_eq_true rfl) (Nat.le_of_ble_eq_true rfl) (Nat.le_of_ble_eq_true rfl) dX6_tellingLaw_14 (fun r3 σ2 h => ?_)
  refine p_if_eq C (X := r3.toInt) rfl dX6_tellingLaw_17 (tgt := 29) rfl h (fun h => ?_) (fun h => ?_)
  ·
    refine a_iconst C dX6_tellingLaw_29 (v := 0) rfl ?_
    exact a_iret Rt dX6_tellingLaw_30 (nar_z (by decide)).1 (ret_eq (h.trans (congrArg some hR.symm)))
  ·
    refine a_aload_n C dX6_tellingLaw_20 (i := 0) rfl rfl ?_
    refine a_bipush C dX6_tellingLaw_21 (v := 61) rfl ?_
    refine p_callVi C (As := [.int 61]) (i := 1) kd_1 (hid 1 (by decide)) ⟨_, _, rfl⟩ (by decide) h (fun _ _ e => Z_X6_take hid e) mi_X6_take ml_RX6_77 rfl rfl (Nat.le_of_ble_eq_true rfl) (Nat.le_of_ble_eq_true rfl) (Nat.le_of_ble_eq_true rfl) dX6_tellingLaw_23 (fun r5 σ4 h => ?_)
    refine p_if_ne C (X := r5.toInt) rfl dX6_tellingLaw_26 (tgt := 31) rfl h (fun h => ?_) (fun h => ?_)
    ·
      refine a_iconst C dX6_tellingLaw_31 (v := 0) rfl ?_
      refine a_istore_n C dX6_tellingLaw_32 (i := 3) rfl (by decide) rfl (vs1 := [some (.ref (ad 1)), some (.ref (ad p1)), some (.int x2), some (.int 0)]) rfl ?_
      refine AW.sub (vs' := [some (.ref (ad 1)), some (.ref (ad p1)), none, some (.int 0)]) (lsub_of (by simp [lsubB])) ?_
      exact j33 _ _ _ h
    ·
      refine a_iconst C dX6_tellingLaw_29 (v := 0) rfl ?_
      exact a_iret Rt dX6_tellingLaw_30 (nar_z (by decide)).1 (ret_eq (h.trans (congrArg some hR.symm)))
set_option maxHeartbeats 4000000 in
set_option maxRecDepth 100000 in
theorem Z_X6_takeName {l : Launch} {D : va_G} {ids : List Nat} {ad : Nat → Nat} {ca : Nat → ClassId} {σ : HS} {r0 : Int32} {s0 : HS} (hid : ∀ i, i < 277 → i ∈ ids) (h : f_X6_takeName σ = some (r0, s0)) : Ki l D ids ad ca yX6_takeName cX6_takeName 4 .boolean 2 42 [.ref (ad 1)] σ (fun r σ1 => r = r0 ∧ σ1 = s0) := by
  obtain ⟨R, hR⟩ : ∃ R, (r0, s0) = R := ⟨_, rfl⟩
  replace h := h.trans (congrArg some hR)
  refine Ki.of (by decide) (Nat.le_of_ble_eq_true rfl) 3 (fun Γ C Rt => ?_)
  show AW ids ad ca Γ 0 [some (.ref (ad 1)), none, none, none] [] σ
  unfold f_X6_takeName at h
  have j86 : ∀ (σ : HS), f_X6_takeName_86 σ = some R → AW ids ad ca Γ 86 [some (.ref (ad 1)), none, none, none] [] σ := by
    intro σ h
    unfold f_X6_takeName_86 at h
    refine a_aload_n C dX6_takeName_86 (i := 0) rfl rfl ?_
    refine a_bipush C dX6_takeName_87 (v := 20) rfl ?_
    refine p_callVi C (As := [.int 20]) (i := 1) kd_1 (hid 1 (by decide)) ⟨_, _, rfl⟩ (by decide) h (fun _ _ e => Z_X6_take hid e) mi_X6_take ml_RX6_77 rfl rfl (Nat.le_of_ble_eq_true rfl) (Nat.le_of_ble_eq_true rfl) (Nat.le_of_ble_eq_true rfl) dX6_takeName_89 (fun r2 σ1 h => ?_)
    refine ite_n h (fun c h => ?_)
    exact a_iret Rt dX6_takeName_92 (nar_z c).1 (ret_eq (h.trans (congrArg some hR.symm)))
  have j48 : ∀ (k15 : Int64 → Int32 → HS → Option (Int32 × HS)) (hk15 : ∀ (y1 : Int64) (y3 : Int32) (σ : HS), k15 y1 y3 σ = some R → AW ids ad ca Γ 15 [some (.ref (ad 1)), some (.long y1), none, some (.int y3)] [] σ) (y1 : Int64) (y3 : Int32) (σ : HS), f_X6_takeName_48 k15 y1 y3 σ = some R → AW ids ad ca Γ 48 [some (.ref (ad 1)), some (.long y1), none, some (.int y3)] [] σ := by
    intro k15 hk15 y1 y3 σ h
    unfold f_X6_takeName_48 at h
    refine p_iinc C (y := (y3 + 1)) (fun z1 => [some (.ref (ad 1)), some (.long y1), none, some (.int z1)]) dX6_takeName_48 rfl rfl (by decide) rfl (fun _ => rfl) h (fun z1 h => ?_)
    refine a_goto C dX6_takeName_51 (tgt := 15) rfl ?_
    exact hk15 _ _ _ h
  have j15 : ∀ (n : Nat) (y1 : Int64) (y3 : Int32) (σ : HS), f_X6_takeName_15 n y1 y3 σ = some R → AW ids ad ca Γ 15 [some (.ref (ad 1)), some (.long y1), none, some (.int y3)] [] σ := by
    intro n
    induction n with
    | zero => intro y1 y3 σ h; exact nn h
    | succ n ih =>
      intro y1 y3 σ h
      have h : b_X6_takeName_15 (f_X6_takeName_15 n) y1 y3 σ = some R := h
      unfold b_X6_takeName_15 at h
      refine a_iload_n C dX6_takeName_15 (i := 3) rfl rfl ?_
      refine a_aload_n C dX6_takeName_16 (i := 0) rfl rfl ?_
      refine a_get C fl_RX6_31 (i := 1) kd_1 (hid 1 (by decide)) (v := .int (σ.1 1 9)) rfl dX6_takeName_17 ?_
      refine p_ic_ge C (X := y3.toInt) (Y := (σ.1 1 9).toInt) rfl rfl dX6_takeName_20 (tgt := 54) rfl h (fun h => ?_) (fun h => ?_)
      ·
        refine a_aload_n C dX6_takeName_54 (i := 0) rfl rfl ?_
        refine a_get C fl_RX6_31 (i := 1) kd_1 (hid 1 (by decide)) (v := .int (σ.1 1 9)) rfl dX6_takeName_55 ?_
        refine a_aload_n C dX6_takeName_58 (i := 0) rfl rfl ?_
        refine a_get C fl_RX6_22 (i := 1) kd_1 (hid 1 (by decide)) (v := .ref (ad 7)) rfl dX6_takeName_59 ?_
        refine a_alen C (by rw [kd_7]; decide) (hid 7 (by decide)) (v := 12) (by rw [al_7]; rfl) dX6_takeName_62 ?_
        refine p_ic_ge C (X := (σ.1 1 9).toInt) (Y := 12) rfl (by decide) dX6_takeName_63 (tgt := 86) rfl h (fun h => ?_) (fun h => ?_)
        ·
          refine AW.sub (vs' := [some (.ref (ad 1)), none, none, none]) (lsub_of (by simp [lsubB])) ?_
          exact j86 _ h
        ·
          refine a_aload_n C dX6_takeName_66 (i := 0) rfl rfl ?_
          refine a_get C fl_RX6_22 (i := 1) kd_1 (hid 1 (by decide)) (v := .ref (ad 7)) rfl dX6_takeName_67 ?_
          refine a_aload_n C dX6_takeName_70 (i := 0) rfl rfl ?_
          refine a_get C fl_RX6_31 (i := 1) kd_1 (hid 1 (by decide)) (v := .int (σ.1 1 9)) rfl dX6_takeName_71 ?_
          refine a_lload_n C dX6_takeName_74 (i := 1) rfl rfl ?_
          refine p_last C (i := 7) kd_7 (hid 7 (by decide)) (by rw [al_7]; rfl) dX6_takeName_75 h (fun σ1 h => ?_)
          refine a_aload_n C dX6_takeName_76 (i := 0) rfl rfl ?_
          refine a_dup C dX6_takeName_77 rfl ?_
          refine a_get C fl_RX6_31 (i := 1) kd_1 (hid 1 (by decide)) (v := .int (σ1.1 1 9)) rfl dX6_takeName_78 ?_
          refine a_iconst C dX6_takeName_81 (v := 1) rfl ?_
          refine a_iadd C dX6_takeName_82 ?_
          refine p_put C fp_RX6_31 (i := 1) kd_1 (hid 1 (by decide)) rfl rfl dX6_takeName_83 h (fun σ2 h => ?_)
          refine AW.sub (vs' := [some (.ref (ad 1)), none, none, none]) (lsub_of (by simp [lsubB])) ?_
          exact j86 _ h
      ·
        refine a_aload_n C dX6_takeName_23 (i := 0) rfl rfl ?_
        refine a_get C fl_RX6_53 (i := 1) kd_1 (hid 1 (by decide)) (v := .int (σ.1 1 6)) rfl dX6_takeName_24 ?_
        refine a_bipush C dX6_takeName_27 (v := 20) rfl ?_
        refine p_ic_ne C (X := (σ.1 1 6).toInt) (Y := 20) rfl (by decide) dX6_takeName_29 (tgt := 48) rfl h (fun h => ?_) (fun h => ?_)
        ·
          exact j48 (f_X6_takeName_15 n) (fun y1 y3 σ h => ih y1 y3 σ h) _ _ _ h
        ·
          refine a_aload_n C dX6_takeName_32 (i := 0) rfl rfl ?_
          refine a_get C fl_RX6_22 (i := 1) kd_1 (hid 1 (by decide)) (v := .ref (ad 7)) rfl dX6_takeName_33 ?_
          refine a_iload_n C dX6_takeName_36 (i := 3) rfl rfl ?_
          refine p_lald C (i := 7) kd_7 (hid 7 (by decide)) (by rw [al_7]; rfl) dX6_takeName_37 h (fun h => ?_)
          refine a_lload_n C dX6_takeName_38 (i := 1) rfl rfl ?_
          refine a_lcmp C dX6_takeName_39 ?_
          refine p_if_ne C (X := (lg_cmp (σ.2.1 7 y3.toInt.toNat) y1).toInt) rfl dX6_takeName_40 (tgt := 48) rfl h (fun h => ?_) (fun h => ?_)
          ·
            exact j48 (f_X6_takeName_15 n) (fun y1 y3 σ h => ih y1 y3 σ h) _ _ _ h
          ·
            refine a_aload_n C dX6_takeName_43 (i := 0) rfl rfl ?_
            refine a_iconst C dX6_takeName_44 (v := 3) rfl ?_
            refine p_callVv C (As := [.int 3]) (i := 1) kd_1 (hid 1 (by decide)) ⟨_, _, rfl⟩ (by decide) h (fun _ e => Z_X6_noteLater hid e) mi_X6_noteLater ml_RX6_73 rfl rfl (Nat.le_of_ble_eq_true rfl) (Nat.le_of_ble_eq_true rfl) (Nat.le_of_ble_eq_true rfl) dX6_takeName_45 (fun σ3 h => ?_)
            exact j48 (f_X6_takeName_15 n) (fun y1 y3 σ h => ih y1 y3 σ h) _ _ _ h
  refine a_aload_n C dX6_takeName_0 (i := 0) rfl rfl ?_
  refine a_get C fl_RX6_12 (i := 1) kd_1 (hid 1 (by decide)) (v := .ref (ad 2)) rfl dX6_takeName_1 ?_
  refine a_get C fl_RX6_64 (i := 2) kd_2 (hid 2 (by decide)) (v := .ref (ad 6)) rfl dX6_takeName_4 ?_
  refine a_aload_n C dX6_takeName_7 (i := 0) rfl rfl ?_
  refine a_get C fl_RX6_46 (i := 1) kd_1 (hid 1 (by decide)) (v := .int (σ.1 1 5)) rfl dX6_takeName_8 ?_
  refine p_lald C (i := 6) kd_6 (hid 6 (by decide)) (by rw [al_6]; rfl) dX6_takeName_11 h (fun h => ?_)
  refine p_lstore_n C (fun z1 => [some (.ref (ad 1)), some (.long z1), none, none]) dX6_takeName_12 (i := 1) rfl (by decide) rfl (fun _ => rfl) h (fun z1 h => ?_)
  refine a_iconst C dX6_takeName_13 (v := 0) rfl ?_
  refine a_istore_n C dX6_takeName_14 (i := 3) rfl (by decide) rfl (vs1 := [some (.ref (ad 1)), some (.long z1), none, some (.int 0)]) rfl ?_
  exact j15 _ _ _ _ h
set_option maxHeartbeats 4000000 in
set_option maxRecDepth 100000 in
theorem Z_X6_tellingPattern {l : Launch} {D : va_G} {ids : List Nat} {ad : Nat → Nat} {ca : Nat → ClassId} {σ : HS} {p1 : Nat} {r0 : Int32} {s0 : HS} (hid : ∀ i, i < 277 → i ∈ ids) (hp1 : txtOK p1) (h : f_X6_tellingPattern p1 σ = some (r0, s0)) : Ki l D ids ad ca yX6_tellingPattern cX6_tellingPattern 4 .boolean 3 66 [.ref (ad 1), .ref (ad p1)] σ (fun r σ1 => r = r0 ∧ σ1 = s0) := by
  obtain ⟨R, hR⟩ : ∃ R, (r0, s0) = R := ⟨_, rfl⟩
  replace h := h.trans (congrArg some hR)
  refine Ki.of (by decide) (Nat.le_of_ble_eq_true rfl) 2 (fun Γ C Rt => ?_)
  show AW ids ad ca Γ 0 [some (.ref (ad 1)), some (.ref (ad p1)), none, none] [] σ
  unfold f_X6_tellingPattern at h
  have j102 : ∀ (y2 : Int32) (y3 : Int32) (σ : HS), f_X6_tellingPattern_102 p1 y2 y3 σ = some R → AW ids ad ca Γ 102 [some (.ref (ad 1)), some (.ref (ad p1)), some (.int y2), some (.int y3)] [] σ := by
    intro y2 y3 σ h
    unfold f_X6_tellingPattern_102 at h
    refine a_aload_n C dX6_tellingPattern_102 (i := 0) rfl rfl ?_
    refine a_get C fl_RX6_53 (i := 1) kd_1 (hid 1 (by decide)) (v := .int (σ.1 1 6)) rfl dX6_tellingPattern_103 ?_
    refine a_bipush C dX6_tellingPattern_106 (v := 21) rfl ?_
    refine p_ic_ne C (X := (σ.1 1 6).toInt) (Y := 21) rfl (by decide) dX6_tellingPattern_108 (tgt := 117) rfl h (fun h => ?_) (fun h => ?_)
    ·
      refine a_aload_n C dX6_tellingPattern_117 (i := 1) rfl rfl ?_
      refine a_get C fl_RX6_123 (i := p1) hp1.1.1 (hid _ hp1.1.2) (v := .ref (ad (p1 + 10))) rfl dX6_tellingPattern_118 ?_
      refine a_iload_n C dX6_tellingPattern_121 (i := 2) rfl rfl ?_
      refine a_iload_n C dX6_tellingPattern_122 (i := 3) rfl rfl ?_
      refine p_iast C (i := (p1 + 10)) hp1.2.2.2.2.1.1 hid (by rw [hp1.2.2.2.2.1.2]; rfl) dX6_tellingPattern_123 h (fun σ1 h => ?_)
      refine a_aload_n C dX6_tellingPattern_124 (i := 1) rfl rfl ?_
      refine a_dup C dX6_tellingPattern_125 rfl ?_
      refine a_get C fl_RX6_116 (i := p1) hp1.1.1 (hid _ hp1.1.2) (v := .int (σ1.1 p1 4)) rfl dX6_tellingPattern_126 ?_
      refine a_iconst C dX6_tellingPattern_129 (v := 1) rfl ?_
      refine a_iadd C dX6_tellingPattern_130 ?_
      refine p_put C fp_RX6_116 (i := p1) hp1.1.1 (hid _ hp1.1.2) rfl rfl dX6_tellingPattern_131 h (fun σ2 h => ?_)
      refine a_aload_n C dX6_tellingPattern_134 (i := 0) rfl rfl ?_
      refine a_bipush C dX6_tellingPattern_135 (v := 59) rfl ?_
      refine p_callVi C (As := [.int 59]) (i := 1) kd_1 (hid 1 (by decide)) ⟨_, _, rfl⟩ (by decide) h (fun _ _ e => Z_X6_take hid e) mi_X6_take ml_RX6_77 rfl rfl (Nat.le_of_ble_eq_true rfl) (Nat.le_of_ble_eq_true rfl) (Nat.le_of_ble_eq_true rfl) dX6_tellingPattern_137 (fun r4 σ3 h => ?_)
      refine ite_n h (fun c h => ?_)
      exact a_iret Rt dX6_tellingPattern_140 (nar_z c).1 (ret_eq (h.trans (congrArg some hR.symm)))
    ·
      refine a_aload_n C dX6_tellingPattern_111 (i := 0) rfl rfl ?_
      refine a_iconst C dX6_tellingPattern_112 (v := 2) rfl ?_
      refine p_callVi C (As := [.int 2]) (i := 1) kd_1 (hid 1 (by decide)) ⟨_, _, rfl⟩ (by decide) h (fun _ _ e => Z_X6_refuse hid e) mi_X6_refuse ml_RX6_60 rfl rfl (Nat.le_of_ble_eq_true rfl) (Nat.le_of_ble_eq_true rfl) (Nat.le_of_ble_eq_true rfl) dX6_tellingPattern_113 (fun r6 σ5 h => ?_)
      refine ite_n h (fun c h => ?_)
      exact a_iret Rt dX6_tellingPattern_116 (nar_z c).1 (ret_eq (h.trans (congrArg some hR.symm)))
  have j57 : ∀ (n : Nat) (y2 : Int32) (y3 : Int32) (σ : HS), f_X6_tellingPattern_57 p1 n y2 y3 σ = some R → AW ids ad ca Γ 57 [some (.ref (ad 1)), some (.ref (ad p1)), some (.int y2), some (.int y3)] [] σ := by
    intro n
    induction n with
    | zero => intro y2 y3 σ h; exact nn h
    | succ n ih =>
      intro y2 y3 σ h
      have h : b_X6_tellingPattern_57 p1 (f_X6_tellingPattern_57 p1 n) y2 y3 σ = some R := h
      unfold b_X6_tellingPattern_57 at h
      refine a_aload_n C dX6_tellingPattern_57 (i := 0) rfl rfl ?_
      refine a_get C fl_RX6_53 (i := 1) kd_1 (hid 1 (by decide)) (v := .int (σ.1 1 6)) rfl dX6_tellingPattern_58 ?_
      refine a_bipush C dX6_tellingPattern_61 (v := 21) rfl ?_
      refine p_ic_ne C (X := (σ.1 1 6).toInt) (Y := 21) rfl (by decide) dX6_tellingPattern_63 (tgt := 102) rfl h (fun h => ?_) (fun h => ?_)
      ·
        exact j102 _ _ _ h
      ·
        refine a_iload_n C dX6_tellingPattern_66 (i := 3) rfl rfl ?_
        refine a_bipush C dX6_tellingPattern_67 (v := 8) rfl ?_
        refine p_ic_ge C (X := y3.toInt) (Y := 8) rfl (by decide) dX6_tellingPattern_69 (tgt := 102) rfl h (fun h => ?_) (fun h => ?_)
        ·
          exact j102 _ _ _ h
        ·
          refine a_aload_n C dX6_tellingPattern_72 (i := 0) rfl rfl ?_
          refine a_iconst C dX6_tellingPattern_73 (v := 0) rfl ?_
          refine a_bipush C dX6_tellingPattern_74 (v := 9) rfl ?_
          refine p_callVi C (As := [.int 0, .int 9]) (i := 1) kd_1 (hid 1 (by decide)) ⟨_, _, rfl⟩ (by decide) h (fun _ _ e => Z_X6_takeNumber hid e) mi_X6_takeNumber ml_RX6_90 rfl rfl (Nat.le_of_ble_eq_true rfl) (Nat.le_of_ble_eq_true rfl) (Nat.le_of_ble_eq_true rfl) dX6_tellingPattern_76 (fun r2 σ1 h => ?_)
          refine p_if_ne C (X := r2.toInt) rfl dX6_tellingPattern_79 (tgt := 84) rfl h (fun h => ?_) (fun h => ?_)
          ·
            refine a_aload_n C dX6_tellingPattern_84 (i := 1) rfl rfl ?_
            refine a_get C fl_RX6_119 (i := p1) hp1.1.1 (hid _ hp1.1.2) (v := .ref (ad (p1 + 4))) rfl dX6_tellingPattern_85 ?_
            refine a_iload_n C dX6_tellingPattern_88 (i := 2) rfl rfl ?_
            refine p_aaldH C (t := p1) hp1 hid dX6_tellingPattern_89 h (fun hr3 h => ?_)
            refine a_iload_n C dX6_tellingPattern_90 (i := 3) rfl rfl ?_
            refine a_aload_n C dX6_tellingPattern_91 (i := 0) rfl rfl ?_
            refine a_get C fl_RX6_67 (i := 1) kd_1 (hid 1 (by decide)) (v := .int (σ1.1 1 7)) rfl dX6_tellingPattern_92 ?_
            refine p_iast C (i := (p1 + 5 + y2.toInt.toNat)) hr3.1 hid (by rw [hr3.2]; rfl) dX6_tellingPattern_95 h (fun σ4 h => ?_)
            refine p_iinc C (y := (y3 + 1)) (fun z5 => [some (.ref (ad 1)), some (.ref (ad p1)), some (.int y2), some (.int z5)]) dX6_tellingPattern_96 rfl rfl (by decide) rfl (fun _ => rfl) h (fun z5 h => ?_)
            refine a_goto C dX6_tellingPattern_99 (tgt := 57) rfl ?_
            exact ih _ _ _ h
          ·
            refine a_iconst C dX6_tellingPattern_82 (v := 0) rfl ?_
            exact a_iret Rt dX6_tellingPattern_83 (nar_z (by decide)).1 (ret_eq (h.trans (congrArg some hR.symm)))
  refine a_aload_n C dX6_tellingPattern_0 (i := 1) rfl rfl ?_
  refine a_get C fl_RX6_116 (i := p1) hp1.1.1 (hid _ hp1.1.2) (v := .int (σ.1 p1 4)) rfl dX6_tellingPattern_1 ?_
  refine p_istore_n C (fun z1 => [some (.ref (ad 1)), some (.ref (ad p1)), some (.int z1), none]) dX6_tellingPattern_4 (i := 2) rfl (by decide) rfl (fun _ => rfl) h (fun z1 h => ?_)
  refine a_iload_n C dX6_tellingPattern_5 (i := 2) rfl rfl ?_
  refine a_iconst C dX6_tellingPattern_6 (v := 5) rfl ?_
  refine p_ic_lt C (X := z1.toInt) (Y := 5) rfl (by decide) dX6_tellingPattern_7 (tgt := 16) rfl h (fun h => ?_) (fun h => ?_)
  ·
    refine a_aload_n C dX6_tellingPattern_16 (i := 0) rfl rfl ?_
    refine a_iconst C dX6_tellingPattern_17 (v := 1) rfl ?_
    refine p_callVi C (As := [.int 1]) (i := 1) kd_1 (hid 1 (by decide)) ⟨_, _, rfl⟩ (by decide) h (fun _ _ e => Z_X6_take hid e) mi_X6_take ml_RX6_77 rfl rfl (Nat.le_of_ble_eq_true rfl) (Nat.le_of_ble_eq_true rfl) (Nat.le_of_ble_eq_true rfl) dX6_tellingPattern_18 (fun r3 σ2 h => ?_)
    refine p_if_eq C (X := r3.toInt) rfl dX6_tellingPattern_21 (tgt := 41) rfl h (fun h => ?_) (fun h => ?_)
    ·
      refine a_iconst C dX6_tellingPattern_41 (v := 0) rfl ?_
      exact a_iret Rt dX6_tellingPattern_42 (nar_z (by decide)).1 (ret_eq (h.trans (congrArg some hR.symm)))
    ·
      refine a_aload_n C dX6_tellingPattern_24 (i := 0) rfl rfl ?_
      refine p_callVi C (As := []) (i := 1) kd_1 (hid 1 (by decide)) ⟨_, _, rfl⟩ (by decide) h (fun _ _ e => Z_X6_takeName hid e) mi_X6_takeName ml_RX6_103 rfl rfl (Nat.le_of_ble_eq_true rfl) (Nat.le_of_ble_eq_true rfl) (Nat.le_of_ble_eq_true rfl) dX6_tellingPattern_25 (fun r5 σ4 h => ?_)
      refine p_if_eq C (X := r5.toInt) rfl dX6_tellingPattern_28 (tgt := 41) rfl h (fun h => ?_) (fun h => ?_)
      ·
        refine a_iconst C dX6_tellingPattern_41 (v := 0) rfl ?_
        exact a_iret Rt dX6_tellingPattern_42 (nar_z (by decide)).1 (ret_eq (h.trans (congrArg some hR.symm)))
      ·
        refine a_aload_n C dX6_tellingPattern_31 (i := 0) rfl rfl ?_
        refine a_iconst C dX6_tellingPattern_32 (v := 0) rfl ?_
        refine a_bipush C dX6_tellingPattern_33 (v := 9) rfl ?_
        refine p_callVi C (As := [.int 0, .int 9]) (i := 1) kd_1 (hid 1 (by decide)) ⟨_, _, rfl⟩ (by decide) h (fun _ _ e => Z_X6_takeNumber hid e) mi_X6_takeNumber ml_RX6_90 rfl rfl (Nat.le_of_ble_eq_true rfl) (Nat.le_of_ble_eq_true rfl) (Nat.le_of_ble_eq_true rfl) dX6_tellingPattern_35 (fun r7 σ6 h => ?_)
        refine p_if_ne C (X := r7.toInt) rfl dX6_tellingPattern_38 (tgt := 43) rfl h (fun h => ?_) (fun h => ?_)
        ·
          refine a_aload_n C dX6_tellingPattern_43 (i := 1) rfl rfl ?_
          refine a_get C fl_RX6_119 (i := p1) hp1.1.1 (hid _ hp1.1.2) (v := .ref (ad (p1 + 4))) rfl dX6_tellingPattern_44 ?_
          refine a_iload_n C dX6_tellingPattern_47 (i := 2) rfl rfl ?_
          refine p_aaldH C (t := p1) hp1 hid dX6_tellingPattern_48 h (fun hr8 h => ?_)
          refine a_iconst C dX6_tellingPattern_49 (v := 0) rfl ?_
          refine a_aload_n C dX6_tellingPattern_50 (i := 0) rfl rfl ?_
          refine a_get C fl_RX6_67 (i := 1) kd_1 (hid 1 (by decide)) (v := .int (σ6.1 1 7)) rfl dX6_tellingPattern_51 ?_
          refine p_iastc C (i := (p1 + 5 + z1.toInt.toNat)) 0 hr8.1 hid (by decide) (show 0 < al (p1 + 5 + z1.toInt.toNat) by have := hr8.2; omega) dX6_tellingPattern_54 h (fun σ9 h => ?_)
          refine a_iconst C dX6_tellingPattern_55 (v := 1) rfl ?_
          refine a_istore_n C dX6_tellingPattern_56 (i := 3) rfl (by decide) rfl (vs1 := [some (.ref (ad 1)), some (.ref (ad p1)), some (.int z1), some (.int 1)]) rfl ?_
          exact j57 _ _ _ _ h
        ·
          refine a_iconst C dX6_tellingPattern_41 (v := 0) rfl ?_
          exact a_iret Rt dX6_tellingPattern_42 (nar_z (by decide)).1 (ret_eq (h.trans (congrArg some hR.symm)))
  ·
    refine a_aload_n C dX6_tellingPattern_10 (i := 0) rfl rfl ?_
    refine a_iconst C dX6_tellingPattern_11 (v := 2) rfl ?_
    refine p_callVi C (As := [.int 2]) (i := 1) kd_1 (hid 1 (by decide)) ⟨_, _, rfl⟩ (by decide) h (fun _ _ e => Z_X6_refuse hid e) mi_X6_refuse ml_RX6_60 rfl rfl (Nat.le_of_ble_eq_true rfl) (Nat.le_of_ble_eq_true rfl) (Nat.le_of_ble_eq_true rfl) dX6_tellingPattern_12 (fun r11 σ10 h => ?_)
    refine ite_n h (fun c h => ?_)
    exact a_iret Rt dX6_tellingPattern_15 (nar_z c).1 (ret_eq (h.trans (congrArg some hR.symm)))
set_option maxHeartbeats 4000000 in
set_option maxRecDepth 100000 in
theorem Z_X6_tellingThing {l : Launch} {D : va_G} {ids : List Nat} {ad : Nat → Nat} {ca : Nat → ClassId} {σ : HS} {p1 : Nat} {r0 : Int32} {s0 : HS} (hid : ∀ i, i < 277 → i ∈ ids) (hp1 : txtOK p1) (h : f_X6_tellingThing p1 σ = some (r0, s0)) : Ki l D ids ad ca yX6_tellingThing cX6_tellingThing 3 .boolean 3 66 [.ref (ad 1), .ref (ad p1)] σ (fun r σ1 => r = r0 ∧ σ1 = s0) := by
  obtain ⟨R, hR⟩ : ∃ R, (r0, s0) = R := ⟨_, rfl⟩
  replace h := h.trans (congrArg some hR)
  refine Ki.of (by decide) (Nat.le_of_ble_eq_true rfl) 1 (fun Γ C Rt => ?_)
  show AW ids ad ca Γ 0 [some (.ref (ad 1)), some (.ref (ad p1)), none] [] σ
  unfold f_X6_tellingThing at h
  refine a_aload_n C dX6_tellingThing_0 (i := 1) rfl rfl ?_
  refine a_get C fl_RX6_100 (i := p1) hp1.1.1 (hid _ hp1.1.2) (v := .int (σ.1 p1 0)) rfl dX6_tellingThing_1 ?_
  refine p_istore_n C (fun z1 => [some (.ref (ad 1)), some (.ref (ad p1)), some (.int z1)]) dX6_tellingThing_4 (i := 2) rfl (by decide) rfl (fun _ => rfl) h (fun z1 h => ?_)
  refine a_iload_n C dX6_tellingThing_5 (i := 2) rfl rfl ?_
  refine a_bipush C dX6_tellingThing_6 (v := 7) rfl ?_
  refine p_ic_lt C (X := z1.toInt) (Y := 7) rfl (by decide) dX6_tellingThing_8 (tgt := 17) rfl h (fun h => ?_) (fun h => ?_)
  ·
    refine a_aload_n C dX6_tellingThing_17 (i := 0) rfl rfl ?_
    refine a_iconst C dX6_tellingThing_18 (v := 0) rfl ?_
    refine p_callVi C (As := [.int 0]) (i := 1) kd_1 (hid 1 (by decide)) ⟨_, _, rfl⟩ (by decide) h (fun _ _ e => Z_X6_take hid e) mi_X6_take ml_RX6_77 rfl rfl (Nat.le_of_ble_eq_true rfl) (Nat.le_of_ble_eq_true rfl) (Nat.le_of_ble_eq_true rfl) dX6_tellingThing_19 (fun r3 σ2 h => ?_)
    refine p_if_eq C (X := r3.toInt) rfl dX6_tellingThing_22 (tgt := 42) rfl h (fun h => ?_) (fun h => ?_)
    ·
      refine a_iconst C dX6_tellingThing_42 (v := 0) rfl ?_
      exact a_iret Rt dX6_tellingThing_43 (nar_z (by decide)).1 (ret_eq (h.trans (congrArg some hR.symm)))
    ·
      refine a_aload_n C dX6_tellingThing_25 (i := 0) rfl rfl ?_
      refine p_callVi C (As := []) (i := 1) kd_1 (hid 1 (by decide)) ⟨_, _, rfl⟩ (by decide) h (fun _ _ e => Z_X6_takeName hid e) mi_X6_takeName ml_RX6_103 rfl rfl (Nat.le_of_ble_eq_true rfl) (Nat.le_of_ble_eq_true rfl) (Nat.le_of_ble_eq_true rfl) dX6_tellingThing_26 (fun r5 σ4 h => ?_)
      refine p_if_eq C (X := r5.toInt) rfl dX6_tellingThing_29 (tgt := 42) rfl h (fun h => ?_) (fun h => ?_)
      ·
        refine a_iconst C dX6_tellingThing_42 (v := 0) rfl ?_
        exact a_iret Rt dX6_tellingThing_43 (nar_z (by decide)).1 (ret_eq (h.trans (congrArg some hR.symm)))
      ·
        refine a_aload_n C dX6_tellingThing_32 (i := 0) rfl rfl ?_
        refine a_iconst C dX6_tellingThing_33 (v := 1) rfl ?_
        refine a_bipush C dX6_tellingThing_34 (v := 9) rfl ?_
        refine p_callVi C (As := [.int 1, .int 9]) (i := 1) kd_1 (hid 1 (by decide)) ⟨_, _, rfl⟩ (by decide) h (fun _ _ e => Z_X6_takeNumber hid e) mi_X6_takeNumber ml_RX6_90 rfl rfl (Nat.le_of_ble_eq_true rfl) (Nat.le_of_ble_eq_true rfl) (Nat.le_of_ble_eq_true rfl) dX6_tellingThing_36 (fun r7 σ6 h => ?_)
        refine p_if_ne C (X := r7.toInt) rfl dX6_tellingThing_39 (tgt := 44) rfl h (fun h => ?_) (fun h => ?_)
        ·
          refine a_aload_n C dX6_tellingThing_44 (i := 1) rfl rfl ?_
          refine a_get C fl_RX6_107 (i := p1) hp1.1.1 (hid _ hp1.1.2) (v := .ref (ad (p1 + 1))) rfl dX6_tellingThing_45 ?_
          refine a_iload_n C dX6_tellingThing_48 (i := 2) rfl rfl ?_
          refine a_aload_n C dX6_tellingThing_49 (i := 0) rfl rfl ?_
          refine a_get C fl_RX6_67 (i := 1) kd_1 (hid 1 (by decide)) (v := .int (σ6.1 1 7)) rfl dX6_tellingThing_50 ?_
          refine p_iast C (i := (p1 + 1)) hp1.2.1.1 hid (by rw [hp1.2.1.2]; rfl) dX6_tellingThing_53 h (fun σ8 h => ?_)
          refine a_aload_n C dX6_tellingThing_54 (i := 0) rfl rfl ?_
          refine a_iconst C dX6_tellingThing_55 (v := 0) rfl ?_
          refine a_bipush C dX6_tellingThing_56 (v := 9) rfl ?_
          refine p_callVi C (As := [.int 0, .int 9]) (i := 1) kd_1 (hid 1 (by decide)) ⟨_, _, rfl⟩ (by decide) h (fun _ _ e => Z_X6_takeNumber hid e) mi_X6_takeNumber ml_RX6_90 rfl rfl (Nat.le_of_ble_eq_true rfl) (Nat.le_of_ble_eq_true rfl) (Nat.le_of_ble_eq_true rfl) dX6_tellingThing_58 (fun r10 σ9 h => ?_)
          refine p_if_ne C (X := r10.toInt) rfl dX6_tellingThing_61 (tgt := 66) rfl h (fun h => ?_) (fun h => ?_)
          ·
            refine a_aload_n C dX6_tellingThing_66 (i := 1) rfl rfl ?_
            refine a_get C fl_RX6_110 (i := p1) hp1.1.1 (hid _ hp1.1.2) (v := .ref (ad (p1 + 2))) rfl dX6_tellingThing_67 ?_
            refine a_iload_n C dX6_tellingThing_70 (i := 2) rfl rfl ?_
            refine a_aload_n C dX6_tellingThing_71 (i := 0) rfl rfl ?_
            refine a_get C fl_RX6_67 (i := 1) kd_1 (hid 1 (by decide)) (v := .int (σ9.1 1 7)) rfl dX6_tellingThing_72 ?_
            refine p_iast C (i := (p1 + 2)) hp1.2.2.1.1 hid (by rw [hp1.2.2.1.2]; rfl) dX6_tellingThing_75 h (fun σ11 h => ?_)
            refine a_aload_n C dX6_tellingThing_76 (i := 0) rfl rfl ?_
            refine a_iconst C dX6_tellingThing_77 (v := 0) rfl ?_
            refine a_bipush C dX6_tellingThing_78 (v := 9) rfl ?_
            refine p_callVi C (As := [.int 0, .int 9]) (i := 1) kd_1 (hid 1 (by decide)) ⟨_, _, rfl⟩ (by decide) h (fun _ _ e => Z_X6_takeNumber hid e) mi_X6_takeNumber ml_RX6_90 rfl rfl (Nat.le_of_ble_eq_true rfl) (Nat.le_of_ble_eq_true rfl) (Nat.le_of_ble_eq_true rfl) dX6_tellingThing_80 (fun r13 σ12 h => ?_)
            refine p_if_ne C (X := r13.toInt) rfl dX6_tellingThing_83 (tgt := 88) rfl h (fun h => ?_) (fun h => ?_)
            ·
              refine a_aload_n C dX6_tellingThing_88 (i := 1) rfl rfl ?_
              refine a_get C fl_RX6_113 (i := p1) hp1.1.1 (hid _ hp1.1.2) (v := .ref (ad (p1 + 3))) rfl dX6_tellingThing_89 ?_
              refine a_iload_n C dX6_tellingThing_92 (i := 2) rfl rfl ?_
              refine a_aload_n C dX6_tellingThing_93 (i := 0) rfl rfl ?_
              refine a_get C fl_RX6_67 (i := 1) kd_1 (hid 1 (by decide)) (v := .int (σ12.1 1 7)) rfl dX6_tellingThing_94 ?_
              refine p_iast C (i := (p1 + 3)) hp1.2.2.2.1.1 hid (by rw [hp1.2.2.2.1.2]; rfl) dX6_tellingThing_97 h (fun σ14 h => ?_)
              refine a_aload_n C dX6_tellingThing_98 (i := 1) rfl rfl ?_
              refine a_dup C dX6_tellingThing_99 rfl ?_
              refine a_get C fl_RX6_100 (i := p1) hp1.1.1 (hid _ hp1.1.2) (v := .int (σ14.1 p1 0)) rfl dX6_tellingThing_100 ?_
              refine a_iconst C dX6_tellingThing_103 (v := 1) rfl ?_
              refine a_iadd C dX6_tellingThing_104 ?_
              refine p_put C fp_RX6_100 (i := p1) hp1.1.1 (hid _ hp1.1.2) rfl rfl dX6_tellingThing_105 h (fun σ15 h => ?_)
              refine a_aload_n C dX6_tellingThing_108 (i := 0) rfl rfl ?_
              refine a_bipush C dX6_tellingThing_109 (v := 59) rfl ?_
              refine p_callVi C (As := [.int 59]) (i := 1) kd_1 (hid 1 (by decide)) ⟨_, _, rfl⟩ (by decide) h (fun _ _ e => Z_X6_take hid e) mi_X6_take ml_RX6_77 rfl rfl (Nat.le_of_ble_eq_true rfl) (Nat.le_of_ble_eq_true rfl) (Nat.le_of_ble_eq_true rfl) dX6_tellingThing_111 (fun r17 σ16 h => ?_)
              refine ite_n h (fun c h => ?_)
              exact a_iret Rt dX6_tellingThing_114 (nar_z c).1 (ret_eq (h.trans (congrArg some hR.symm)))
            ·
              refine a_iconst C dX6_tellingThing_86 (v := 0) rfl ?_
              exact a_iret Rt dX6_tellingThing_87 (nar_z (by decide)).1 (ret_eq (h.trans (congrArg some hR.symm)))
          ·
            refine a_iconst C dX6_tellingThing_64 (v := 0) rfl ?_
            exact a_iret Rt dX6_tellingThing_65 (nar_z (by decide)).1 (ret_eq (h.trans (congrArg some hR.symm)))
        ·
          refine a_iconst C dX6_tellingThing_42 (v := 0) rfl ?_
          exact a_iret Rt dX6_tellingThing_43 (nar_z (by decide)).1 (ret_eq (h.trans (congrArg some hR.symm)))
  ·
    refine a_aload_n C dX6_tellingThing_11 (i := 0) rfl rfl ?_
    refine a_iconst C dX6_tellingThing_12 (v := 2) rfl ?_
    refine p_callVi C (As := [.int 2]) (i := 1) kd_1 (hid 1 (by decide)) ⟨_, _, rfl⟩ (by decide) h (fun _ _ e => Z_X6_refuse hid e) mi_X6_refuse ml_RX6_60 rfl rfl (Nat.le_of_ble_eq_true rfl) (Nat.le_of_ble_eq_true rfl) (Nat.le_of_ble_eq_true rfl) dX6_tellingThing_13 (fun r19 σ18 h => ?_)
    refine ite_n h (fun c h => ?_)
    exact a_iret Rt dX6_tellingThing_16 (nar_z c).1 (ret_eq (h.trans (congrArg some hR.symm)))
set_option maxHeartbeats 4000000 in
set_option maxRecDepth 100000 in
theorem Z_X6_telling {l : Launch} {D : va_G} {ids : List Nat} {ad : Nat → Nat} {ca : Nat → ClassId} {σ : HS} {p1 : Nat} {r0 : Int32} {s0 : HS} (hid : ∀ i, i < 277 → i ∈ ids) (hp1 : txtOK p1) (h : f_X6_telling p1 σ = some (r0, s0)) : Ki l D ids ad ca yX6_telling cX6_telling 3 .boolean 35 790 [.ref (ad 1), .ref (ad p1)] σ (fun r σ1 => r = r0 ∧ σ1 = s0) := by
  obtain ⟨R, hR⟩ : ∃ R, (r0, s0) = R := ⟨_, rfl⟩
  replace h := h.trans (congrArg some hR)
  refine Ki.of (by decide) (Nat.le_of_ble_eq_true rfl) 1 (fun Γ C Rt => ?_)
  show AW ids ad ca Γ 0 [some (.ref (ad 1)), some (.ref (ad p1)), none] [] σ
  unfold f_X6_telling at h
  have j148 : ∀ (v0 : Int32) (σ : HS), f_X6_telling_148 p1 v0 σ = some R → AW ids ad ca Γ 148 [some (.ref (ad 1)), some (.ref (ad p1)), none] [.int v0] σ := by
    intro v0 σ h
    unfold f_X6_telling_148 at h
    refine a_istore_n C dX6_telling_148 (i := 2) rfl (by decide) rfl (vs1 := [some (.ref (ad 1)), some (.ref (ad p1)), some (.int v0)]) rfl ?_
    refine a_aload_n C dX6_telling_149 (i := 1) rfl rfl ?_
    refine a_aload_n C dX6_telling_150 (i := 0) rfl rfl ?_
    refine a_get C fl_RX6_67 (i := 1) kd_1 (hid 1 (by decide)) (v := .int (σ.1 1 7)) rfl dX6_telling_151 ?_
    refine p_put C fp_RX6_97 (i := p1) hp1.1.1 (hid _ hp1.1.2) rfl rfl dX6_telling_154 h (fun σ1 h => ?_)
    refine a_iload_n C dX6_telling_157 (i := 2) rfl rfl ?_
    refine p_if_eq C (X := v0.toInt) rfl dX6_telling_158 (tgt := 174) rfl h (fun h => ?_) (fun h => ?_)
    ·
      refine a_iconst C dX6_telling_174 (v := 0) rfl ?_
      exact a_iret Rt dX6_telling_175 (nar_z (by decide)).1 (ret_eq (h.trans (congrArg some hR.symm)))
    ·
      refine a_aload_n C dX6_telling_161 (i := 0) rfl rfl ?_
      refine a_bipush C dX6_telling_162 (v := 59) rfl ?_
      refine p_callVi C (As := [.int 59]) (i := 1) kd_1 (hid 1 (by decide)) ⟨_, _, rfl⟩ (by decide) h (fun _ _ e => Z_X6_take hid e) mi_X6_take ml_RX6_77 rfl rfl (Nat.le_of_ble_eq_true rfl) (Nat.le_of_ble_eq_true rfl) (Nat.le_of_ble_eq_true rfl) dX6_telling_164 (fun r3 σ2 h => ?_)
      refine p_if_eq C (X := r3.toInt) rfl dX6_telling_167 (tgt := 174) rfl h (fun h => ?_) (fun h => ?_)
      ·
        refine a_iconst C dX6_telling_174 (v := 0) rfl ?_
        exact a_iret Rt dX6_telling_175 (nar_z (by decide)).1 (ret_eq (h.trans (congrArg some hR.symm)))
      ·
        refine a_iconst C dX6_telling_170 (v := 1) rfl ?_
        refine a_goto C dX6_telling_171 (tgt := 175) rfl ?_
        exact a_iret Rt dX6_telling_175 (nar_z (by decide)).1 (ret_eq (h.trans (congrArg some hR.symm)))
  have j147 : ∀ (σ : HS), f_X6_telling_147 p1 σ = some R → AW ids ad ca Γ 147 [some (.ref (ad 1)), some (.ref (ad p1)), none] [] σ := by
    intro σ h
    unfold f_X6_telling_147 at h
    refine a_iconst C dX6_telling_147 (v := 0) rfl ?_
    exact j148 _ _ h
  have j86 : ∀ (v0 : Int32) (σ : HS), f_X6_telling_86 p1 v0 σ = some R → AW ids ad ca Γ 86 [some (.ref (ad 1)), some (.ref (ad p1)), none] [.int v0] σ := by
    intro v0 σ h
    unfold f_X6_telling_86 at h
    refine a_istore_n C dX6_telling_86 (i := 2) rfl (by decide) rfl (vs1 := [some (.ref (ad 1)), some (.ref (ad p1)), some (.int v0)]) rfl ?_
    refine a_aload_n C dX6_telling_87 (i := 1) rfl rfl ?_
    refine a_aload_n C dX6_telling_88 (i := 0) rfl rfl ?_
    refine a_get C fl_RX6_67 (i := 1) kd_1 (hid 1 (by decide)) (v := .int (σ.1 1 7)) rfl dX6_telling_89 ?_
    refine p_put C fp_RX6_94 (i := p1) hp1.1.1 (hid _ hp1.1.2) rfl rfl dX6_telling_92 h (fun σ1 h => ?_)
    refine a_iload_n C dX6_telling_95 (i := 2) rfl rfl ?_
    refine p_if_eq C (X := v0.toInt) rfl dX6_telling_96 (tgt := 112) rfl h (fun h => ?_) (fun h => ?_)
    ·
      refine a_iconst C dX6_telling_112 (v := 0) rfl ?_
      exact a_iret Rt dX6_telling_113 (nar_z (by decide)).1 (ret_eq (h.trans (congrArg some hR.symm)))
    ·
      refine a_aload_n C dX6_telling_99 (i := 0) rfl rfl ?_
      refine a_bipush C dX6_telling_100 (v := 59) rfl ?_
      refine p_callVi C (As := [.int 59]) (i := 1) kd_1 (hid 1 (by decide)) ⟨_, _, rfl⟩ (by decide) h (fun _ _ e => Z_X6_take hid e) mi_X6_take ml_RX6_77 rfl rfl (Nat.le_of_ble_eq_true rfl) (Nat.le_of_ble_eq_true rfl) (Nat.le_of_ble_eq_true rfl) dX6_telling_102 (fun r3 σ2 h => ?_)
      refine p_if_eq C (X := r3.toInt) rfl dX6_telling_105 (tgt := 112) rfl h (fun h => ?_) (fun h => ?_)
      ·
        refine a_iconst C dX6_telling_112 (v := 0) rfl ?_
        exact a_iret Rt dX6_telling_113 (nar_z (by decide)).1 (ret_eq (h.trans (congrArg some hR.symm)))
      ·
        refine a_iconst C dX6_telling_108 (v := 1) rfl ?_
        refine a_goto C dX6_telling_109 (tgt := 113) rfl ?_
        exact a_iret Rt dX6_telling_113 (nar_z (by decide)).1 (ret_eq (h.trans (congrArg some hR.symm)))
  have j85 : ∀ (σ : HS), f_X6_telling_85 p1 σ = some R → AW ids ad ca Γ 85 [some (.ref (ad 1)), some (.ref (ad p1)), none] [] σ := by
    intro σ h
    unfold f_X6_telling_85 at h
    refine a_iconst C dX6_telling_85 (v := 0) rfl ?_
    exact j86 _ _ h
  have j53 : ∀ (σ : HS), f_X6_telling_53 p1 σ = some R → AW ids ad ca Γ 53 [some (.ref (ad 1)), some (.ref (ad p1)), none] [] σ := by
    intro σ h
    unfold f_X6_telling_53 at h
    refine a_aload_n C dX6_telling_53 (i := 0) rfl rfl ?_
    refine a_get C fl_RX6_53 (i := 1) kd_1 (hid 1 (by decide)) (v := .int (σ.1 1 6)) rfl dX6_telling_54 ?_
    refine a_bipush C dX6_telling_57 (v := 6) rfl ?_
    refine p_ic_ne C (X := (σ.1 1 6).toInt) (Y := 6) rfl (by decide) dX6_telling_59 (tgt := 114) rfl h (fun h => ?_) (fun h => ?_)
    ·
      refine a_aload_n C dX6_telling_114 (i := 0) rfl rfl ?_
      refine a_get C fl_RX6_53 (i := 1) kd_1 (hid 1 (by decide)) (v := .int (σ.1 1 6)) rfl dX6_telling_115 ?_
      refine a_bipush C dX6_telling_118 (v := 7) rfl ?_
      refine p_ic_ne C (X := (σ.1 1 6).toInt) (Y := 7) rfl (by decide) dX6_telling_120 (tgt := 176) rfl h (fun h => ?_) (fun h => ?_)
      ·
        refine a_aload_n C dX6_telling_176 (i := 0) rfl rfl ?_
        refine a_iconst C dX6_telling_177 (v := 1) rfl ?_
        refine p_callVi C (As := [.int 1]) (i := 1) kd_1 (hid 1 (by decide)) ⟨_, _, rfl⟩ (by decide) h (fun _ _ e => Z_X6_refuse hid e) mi_X6_refuse ml_RX6_60 rfl rfl (Nat.le_of_ble_eq_true rfl) (Nat.le_of_ble_eq_true rfl) (Nat.le_of_ble_eq_true rfl) dX6_telling_178 (fun r2 σ1 h => ?_)
        refine ite_n h (fun c h => ?_)
        exact a_iret Rt dX6_telling_181 (nar_z c).1 (ret_eq (h.trans (congrArg some hR.symm)))
      ·
        refine a_aload_n C dX6_telling_123 (i := 0) rfl rfl ?_
        refine a_bipush C dX6_telling_124 (v := 7) rfl ?_
        refine p_callVi C (As := [.int 7]) (i := 1) kd_1 (hid 1 (by decide)) ⟨_, _, rfl⟩ (by decide) h (fun _ _ e => Z_X6_take hid e) mi_X6_take ml_RX6_77 rfl rfl (Nat.le_of_ble_eq_true rfl) (Nat.le_of_ble_eq_true rfl) (Nat.le_of_ble_eq_true rfl) dX6_telling_126 (fun r4 σ3 h => ?_)
        refine p_if_eq C (X := r4.toInt) rfl dX6_telling_129 (tgt := 147) rfl h (fun h => ?_) (fun h => ?_)
        ·
          exact j147 _ h
        ·
          refine a_aload_n C dX6_telling_132 (i := 0) rfl rfl ?_
          refine a_iconst C dX6_telling_133 (v := 0) rfl ?_
          refine a_sipush C dX6_telling_134 (v := 9999) rfl ?_
          refine p_callVi C (As := [.int 0, .int 9999]) (i := 1) kd_1 (hid 1 (by decide)) ⟨_, _, rfl⟩ (by decide) h (fun _ _ e => Z_X6_takeNumber hid e) mi_X6_takeNumber ml_RX6_90 rfl rfl (Nat.le_of_ble_eq_true rfl) (Nat.le_of_ble_eq_true rfl) (Nat.le_of_ble_eq_true rfl) dX6_telling_137 (fun r6 σ5 h => ?_)
          refine p_if_eq C (X := r6.toInt) rfl dX6_telling_140 (tgt := 147) rfl h (fun h => ?_) (fun h => ?_)
          ·
            exact j147 _ h
          ·
            refine a_iconst C dX6_telling_143 (v := 1) rfl ?_
            refine a_goto C dX6_telling_144 (tgt := 148) rfl ?_
            exact j148 _ _ h
    ·
      refine a_aload_n C dX6_telling_62 (i := 0) rfl rfl ?_
      refine a_bipush C dX6_telling_63 (v := 6) rfl ?_
      refine p_callVi C (As := [.int 6]) (i := 1) kd_1 (hid 1 (by decide)) ⟨_, _, rfl⟩ (by decide) h (fun _ _ e => Z_X6_take hid e) mi_X6_take ml_RX6_77 rfl rfl (Nat.le_of_ble_eq_true rfl) (Nat.le_of_ble_eq_true rfl) (Nat.le_of_ble_eq_true rfl) dX6_telling_65 (fun r8 σ7 h => ?_)
      refine p_if_eq C (X := r8.toInt) rfl dX6_telling_68 (tgt := 85) rfl h (fun h => ?_) (fun h => ?_)
      ·
        exact j85 _ h
      ·
        refine a_aload_n C dX6_telling_71 (i := 0) rfl rfl ?_
        refine a_iconst C dX6_telling_72 (v := 0) rfl ?_
        refine a_bipush C dX6_telling_73 (v := 99) rfl ?_
        refine p_callVi C (As := [.int 0, .int 99]) (i := 1) kd_1 (hid 1 (by decide)) ⟨_, _, rfl⟩ (by decide) h (fun _ _ e => Z_X6_takeNumber hid e) mi_X6_takeNumber ml_RX6_90 rfl rfl (Nat.le_of_ble_eq_true rfl) (Nat.le_of_ble_eq_true rfl) (Nat.le_of_ble_eq_true rfl) dX6_telling_75 (fun r10 σ9 h => ?_)
        refine p_if_eq C (X := r10.toInt) rfl dX6_telling_78 (tgt := 85) rfl h (fun h => ?_) (fun h => ?_)
        ·
          exact j85 _ h
        ·
          refine a_iconst C dX6_telling_81 (v := 1) rfl ?_
          refine a_goto C dX6_telling_82 (tgt := 86) rfl ?_
          exact j86 _ _ h
  refine a_aload_n C dX6_telling_0 (i := 0) rfl rfl ?_
  refine a_get C fl_RX6_53 (i := 1) kd_1 (hid 1 (by decide)) (v := .int (σ.1 1 6)) rfl dX6_telling_1 ?_
  refine p_if_ne C (X := (σ.1 1 6).toInt) rfl dX6_telling_4 (tgt := 13) rfl h (fun h => ?_) (fun h => ?_)
  ·
    refine a_aload_n C dX6_telling_13 (i := 0) rfl rfl ?_
    refine a_get C fl_RX6_53 (i := 1) kd_1 (hid 1 (by decide)) (v := .int (σ.1 1 6)) rfl dX6_telling_14 ?_
    refine a_iconst C dX6_telling_17 (v := 1) rfl ?_
    refine p_ic_ne C (X := (σ.1 1 6).toInt) (Y := 1) rfl (by decide) dX6_telling_18 (tgt := 27) rfl h (fun h => ?_) (fun h => ?_)
    ·
      refine a_aload_n C dX6_telling_27 (i := 0) rfl rfl ?_
      refine a_get C fl_RX6_53 (i := 1) kd_1 (hid 1 (by decide)) (v := .int (σ.1 1 6)) rfl dX6_telling_28 ?_
      refine a_iconst C dX6_telling_31 (v := 2) rfl ?_
      refine p_ic_lt C (X := (σ.1 1 6).toInt) (Y := 2) rfl (by decide) dX6_telling_32 (tgt := 53) rfl h (fun h => ?_) (fun h => ?_)
      ·
        exact j53 _ h
      ·
        refine a_aload_n C dX6_telling_35 (i := 0) rfl rfl ?_
        refine a_get C fl_RX6_53 (i := 1) kd_1 (hid 1 (by decide)) (v := .int (σ.1 1 6)) rfl dX6_telling_36 ?_
        refine a_iconst C dX6_telling_39 (v := 5) rfl ?_
        refine p_ic_gt C (X := (σ.1 1 6).toInt) (Y := 5) rfl (by decide) dX6_telling_40 (tgt := 53) rfl h (fun h => ?_) (fun h => ?_)
        ·
          exact j53 _ h
        ·
          refine a_aload_n C dX6_telling_43 (i := 0) rfl rfl ?_
          refine a_aload_n C dX6_telling_44 (i := 1) rfl rfl ?_
          refine a_aload_n C dX6_telling_45 (i := 0) rfl rfl ?_
          refine a_get C fl_RX6_53 (i := 1) kd_1 (hid 1 (by decide)) (v := .int (σ.1 1 6)) rfl dX6_telling_46 ?_
          refine p_callVi C (As := [.ref (ad p1), .int (σ.1 1 6)]) (i := 1) kd_1 (hid 1 (by decide)) ⟨_, _, rfl⟩ (by decide) h (fun _ _ e => Z_X6_tellingLaw hid hp1 e) mi_X6_tellingLaw ml_RX6_86 rfl rfl (Nat.le_of_ble_eq_true rfl) (Nat.le_of_ble_eq_true rfl) (Nat.le_of_ble_eq_true rfl) dX6_telling_49 (fun r2 σ1 h => ?_)
          refine ite_n h (fun c h => ?_)
          exact a_iret Rt dX6_telling_52 (nar_z c).1 (ret_eq (h.trans (congrArg some hR.symm)))
    ·
      refine a_aload_n C dX6_telling_21 (i := 0) rfl rfl ?_
      refine a_aload_n C dX6_telling_22 (i := 1) rfl rfl ?_
      refine p_callVi C (As := [.ref (ad p1)]) (i := 1) kd_1 (hid 1 (by decide)) ⟨_, _, rfl⟩ (by decide) h (fun _ _ e => Z_X6_tellingPattern hid hp1 e) mi_X6_tellingPattern ml_RX6_83 rfl rfl (Nat.le_of_ble_eq_true rfl) (Nat.le_of_ble_eq_true rfl) (Nat.le_of_ble_eq_true rfl) dX6_telling_23 (fun r4 σ3 h => ?_)
      refine ite_n h (fun c h => ?_)
      exact a_iret Rt dX6_telling_26 (nar_z c).1 (ret_eq (h.trans (congrArg some hR.symm)))
  ·
    refine a_aload_n C dX6_telling_7 (i := 0) rfl rfl ?_
    refine a_aload_n C dX6_telling_8 (i := 1) rfl rfl ?_
    refine p_callVi C (As := [.ref (ad p1)]) (i := 1) kd_1 (hid 1 (by decide)) ⟨_, _, rfl⟩ (by decide) h (fun _ _ e => Z_X6_tellingThing hid hp1 e) mi_X6_tellingThing ml_RX6_80 rfl rfl (Nat.le_of_ble_eq_true rfl) (Nat.le_of_ble_eq_true rfl) (Nat.le_of_ble_eq_true rfl) dX6_telling_9 (fun r6 σ5 h => ?_)
    refine ite_n h (fun c h => ?_)
    exact a_iret Rt dX6_telling_12 (nar_z c).1 (ret_eq (h.trans (congrArg some hR.symm)))
set_option maxHeartbeats 4000000 in
set_option maxRecDepth 100000 in
theorem Z_X6_readInto {l : Launch} {D : va_G} {ids : List Nat} {ad : Nat → Nat} {ca : Nat → ClassId} {K : (Nat → Nat) × (Nat → Nat)} {σ : HS} {p1 : Nat} {r0 : Int32} {s0 : HS} (hid : ∀ i, i < 277 → i ∈ ids) (hp1 : txtOK p1) (h : f_X6_readInto p1 σ = some (r0, s0)) : KiS l D ids ad ca K yX6_readInto cX6_readInto 4 .int 36 812 [.ref (ad 1), .ref (ad p1)] σ (fun r σ1 => r = r0 ∧ σ1 = s0) := by
  obtain ⟨R, hR⟩ : ∃ R, (r0, s0) = R := ⟨_, rfl⟩
  replace h := h.trans (congrArg some hR)
  refine KiS.of (by decide) (Nat.le_of_ble_eq_true rfl) 2 (fun Γ C E Rt => ?_)
  show AW ids ad ca Γ 0 [some (.ref (ad 1)), some (.ref (ad p1)), none, none] [] σ
  unfold f_X6_readInto at h
  have j120 : ∀ (σ : HS), f_X6_readInto_120 p1 σ = some R → AW ids ad ca Γ 120 [some (.ref (ad 1)), none, none, none] [] σ := by
    intro σ h
    unfold f_X6_readInto_120 at h
    refine a_aload_n C dX6_readInto_120 (i := 0) rfl rfl ?_
    refine a_get C fl_RX6_34 (i := 1) kd_1 (hid 1 (by decide)) (v := .int (σ.1 1 2)) rfl dX6_readInto_121 ?_
    exact a_iret Rt dX6_readInto_124 rfl (ret_eq (h.trans (congrArg some hR.symm)))
  have j90 : ∀ (σ : HS), f_X6_readInto_90 p1 σ = some R → AW ids ad ca Γ 90 [some (.ref (ad 1)), none, none, none] [] σ := by
    intro σ h
    unfold f_X6_readInto_90 at h
    refine a_aload_n C dX6_readInto_90 (i := 0) rfl rfl ?_
    refine a_get C fl_RX6_34 (i := 1) kd_1 (hid 1 (by decide)) (v := .int (σ.1 1 2)) rfl dX6_readInto_91 ?_
    refine p_if_ne C (X := (σ.1 1 2).toInt) rfl dX6_readInto_94 (tgt := 120) rfl h (fun h => ?_) (fun h => ?_)
    ·
      exact j120 _ h
    ·
      refine a_aload_n C dX6_readInto_97 (i := 0) rfl rfl ?_
      refine a_get C fl_RX6_37 (i := 1) kd_1 (hid 1 (by decide)) (v := .int (σ.1 1 3)) rfl dX6_readInto_98 ?_
      refine p_if_eq C (X := (σ.1 1 3).toInt) rfl dX6_readInto_101 (tgt := 120) rfl h (fun h => ?_) (fun h => ?_)
      ·
        exact j120 _ h
      ·
        refine a_aload_n C dX6_readInto_104 (i := 0) rfl rfl ?_
        refine a_aload_n C dX6_readInto_105 (i := 0) rfl rfl ?_
        refine a_get C fl_RX6_37 (i := 1) kd_1 (hid 1 (by decide)) (v := .int (σ.1 1 3)) rfl dX6_readInto_106 ?_
        refine p_put C fp_RX6_34 (i := 1) kd_1 (hid 1 (by decide)) rfl rfl dX6_readInto_109 h (fun σ1 h => ?_)
        refine a_aload_n C dX6_readInto_112 (i := 0) rfl rfl ?_
        refine a_aload_n C dX6_readInto_113 (i := 0) rfl rfl ?_
        refine a_get C fl_RX6_40 (i := 1) kd_1 (hid 1 (by decide)) (v := .int (σ1.1 1 4)) rfl dX6_readInto_114 ?_
        refine p_put C fp_RX6_18 (i := 1) kd_1 (hid 1 (by decide)) rfl rfl dX6_readInto_117 h (fun σ2 h => ?_)
        exact j120 _ h
  have j58 : ∀ (n : Nat) (y2 : Int32) (y3 : Int32) (σ : HS), f_X6_readInto_58 p1 n y2 y3 σ = some R → AW ids ad ca Γ 58 [some (.ref (ad 1)), some (.ref (ad p1)), some (.int y2), some (.int y3)] [] σ := by
    intro n
    induction n with
    | zero => intro y2 y3 σ h; exact nn h
    | succ n ih =>
      intro y2 y3 σ h
      have h : b_X6_readInto_58 p1 (f_X6_readInto_58 p1 n) y2 y3 σ = some R := h
      unfold b_X6_readInto_58 at h
      refine a_iload_n C dX6_readInto_58 (i := 2) rfl rfl ?_
      refine p_if_eq C (X := y2.toInt) rfl dX6_readInto_59 (tgt := 90) rfl h (fun h => ?_) (fun h => ?_)
      ·
        refine AW.sub (vs' := [some (.ref (ad 1)), none, none, none]) (lsub_of (by simp [lsubB])) ?_
        exact j90 _ h
      ·
        refine a_aload_n C dX6_readInto_62 (i := 0) rfl rfl ?_
        refine a_get C fl_RX6_53 (i := 1) kd_1 (hid 1 (by decide)) (v := .int (σ.1 1 6)) rfl dX6_readInto_63 ?_
        refine a_bipush C dX6_readInto_66 (v := 22) rfl ?_
        refine p_ic_eq C (X := (σ.1 1 6).toInt) (Y := 22) rfl (by decide) dX6_readInto_68 (tgt := 90) rfl h (fun h => ?_) (fun h => ?_)
        ·
          refine AW.sub (vs' := [some (.ref (ad 1)), none, none, none]) (lsub_of (by simp [lsubB])) ?_
          exact j90 _ h
        ·
          refine a_iload_n C dX6_readInto_71 (i := 3) rfl rfl ?_
          refine a_sipush C dX6_readInto_72 (v := 400) rfl ?_
          refine p_ic_gt C (X := y3.toInt) (Y := 400) rfl (by decide) dX6_readInto_75 (tgt := 90) rfl h (fun h => ?_) (fun h => ?_)
          ·
            refine AW.sub (vs' := [some (.ref (ad 1)), none, none, none]) (lsub_of (by simp [lsubB])) ?_
            exact j90 _ h
          ·
            refine a_aload_n C dX6_readInto_78 (i := 0) rfl rfl ?_
            refine a_aload_n C dX6_readInto_79 (i := 1) rfl rfl ?_
            refine p_callVi C (As := [.ref (ad p1)]) (i := 1) kd_1 (hid 1 (by decide)) ⟨_, _, rfl⟩ (by decide) h (fun _ _ e => Z_X6_telling hid hp1 e) mi_X6_telling ml_RX6_56 rfl rfl (Nat.le_of_ble_eq_true rfl) (Nat.le_of_ble_eq_true rfl) (Nat.le_of_ble_eq_true rfl) dX6_readInto_80 (fun r2 σ1 h => ?_)
            refine a_istore_n C dX6_readInto_83 (i := 2) rfl (by decide) rfl (vs1 := [some (.ref (ad 1)), some (.ref (ad p1)), some (.int r2), some (.int y3)]) rfl ?_
            refine p_iinc C (y := (y3 + 1)) (fun z3 => [some (.ref (ad 1)), some (.ref (ad p1)), some (.int r2), some (.int z3)]) dX6_readInto_84 rfl rfl (by decide) rfl (fun _ => rfl) h (fun z3 h => ?_)
            refine a_goto C dX6_readInto_87 (tgt := 58) rfl ?_
            exact ih _ _ _ h
  refine a_aload_n C dX6_readInto_0 (i := 1) rfl rfl ?_
  refine p_callVv C (As := []) (i := p1) hp1.1.1 (hid _ hp1.1.2) ⟨_, _, rfl⟩ (by decide) h (fun _ e => Z_X10_clear hid hp1 e) mi_X10_clear ml_RX6_26 rfl rfl (Nat.le_of_ble_eq_true rfl) (Nat.le_of_ble_eq_true rfl) (Nat.le_of_ble_eq_true rfl) dX6_readInto_1 (fun σ1 h => ?_)
  refine a_aload_n C dX6_readInto_4 (i := 0) rfl rfl ?_
  refine a_iconst C dX6_readInto_5 (v := 0) rfl ?_
  refine p_put C fp_RX6_31 (i := 1) kd_1 (hid 1 (by decide)) rfl rfl dX6_readInto_6 h (fun σ3 h => ?_)
  refine a_aload_n C dX6_readInto_9 (i := 0) rfl rfl ?_
  refine a_iconst C dX6_readInto_10 (v := 0) rfl ?_
  refine p_put C fp_RX6_34 (i := 1) kd_1 (hid 1 (by decide)) rfl rfl dX6_readInto_11 h (fun σ4 h => ?_)
  refine a_aload_n C dX6_readInto_14 (i := 0) rfl rfl ?_
  refine a_iconst C dX6_readInto_15 (v := (-1)) rfl ?_
  refine p_put C fp_RX6_18 (i := 1) kd_1 (hid 1 (by decide)) rfl rfl dX6_readInto_16 h (fun σ5 h => ?_)
  refine a_aload_n C dX6_readInto_19 (i := 0) rfl rfl ?_
  refine a_iconst C dX6_readInto_20 (v := 0) rfl ?_
  refine p_put C fp_RX6_37 (i := 1) kd_1 (hid 1 (by decide)) rfl rfl dX6_readInto_21 h (fun σ6 h => ?_)
  refine a_aload_n C dX6_readInto_24 (i := 0) rfl rfl ?_
  refine a_iconst C dX6_readInto_25 (v := (-1)) rfl ?_
  refine p_put C fp_RX6_40 (i := 1) kd_1 (hid 1 (by decide)) rfl rfl dX6_readInto_26 h (fun σ7 h => ?_)
  refine a_aload_n C dX6_readInto_29 (i := 0) rfl rfl ?_
  refine a_get C fl_RX6_12 (i := 1) kd_1 (hid 1 (by decide)) (v := .ref (ad 2)) rfl dX6_readInto_30 ?_
  refine p_cVvS C E (As := []) (i := 2) kd_2 (hid 2 (by decide)) ⟨_, _, rfl⟩ (by decide) h (fun _ e => Z_X9_cut hid e) mi_X9_cut ml_RX6_43 rfl rfl (Nat.le_of_ble_eq_true rfl) (Nat.le_of_ble_eq_true rfl) (Nat.le_of_ble_eq_true rfl) dX6_readInto_33 (fun σ8 h => ?_)
  refine a_aload_n C dX6_readInto_36 (i := 0) rfl rfl ?_
  refine a_iconst C dX6_readInto_37 (v := 0) rfl ?_
  refine p_put C fp_RX6_46 (i := 1) kd_1 (hid 1 (by decide)) rfl rfl dX6_readInto_38 h (fun σ10 h => ?_)
  refine a_aload_n C dX6_readInto_41 (i := 0) rfl rfl ?_
  refine a_aload_n C dX6_readInto_42 (i := 0) rfl rfl ?_
  refine a_get C fl_RX6_12 (i := 1) kd_1 (hid 1 (by decide)) (v := .ref (ad 2)) rfl dX6_readInto_43 ?_
  refine a_get C fl_RX6_49 (i := 2) kd_2 (hid 2 (by decide)) (v := .ref (ad 4)) rfl dX6_readInto_46 ?_
  refine a_iconst C dX6_readInto_49 (v := 0) rfl ?_
  refine p_ialdc C (i := 4) 0 (show rowOK 4 from ⟨kd_4, by decide⟩) hid (by decide) (by rw [al_4]; decide) dX6_readInto_50 ?_
  refine p_put C fp_RX6_53 (i := 1) kd_1 (hid 1 (by decide)) rfl rfl dX6_readInto_51 h (fun σ11 h => ?_)
  refine a_iconst C dX6_readInto_54 (v := 1) rfl ?_
  refine a_istore_n C dX6_readInto_55 (i := 2) rfl (by decide) rfl (vs1 := [some (.ref (ad 1)), some (.ref (ad p1)), some (.int 1), none]) rfl ?_
  refine a_iconst C dX6_readInto_56 (v := 0) rfl ?_
  refine a_istore_n C dX6_readInto_57 (i := 3) rfl (by decide) rfl (vs1 := [some (.ref (ad 1)), some (.ref (ad p1)), some (.int 1), some (.int 0)]) rfl ?_
  exact j58 _ _ _ _ h

