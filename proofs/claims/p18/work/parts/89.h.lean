/-! read, the relation kept -/
section BRD2
variable {σ s s2 : HS} {n t u sd k nx m T : Nat} {ρ : Nat → Int32} {d : DAT} {b : Int} {H G : Nat → Nat → Int32} {tb9 : Nat → Nat}
/-- the class's read, then the reference's: answers, places and tapes alike; accepted texts alike -/
theorem BYT.read2 {t u sd : Nat} (ht : txk t) (hu : txk u) (htu : t ≠ u) (hsd : sd ≤ 1) (h : BYT σ) (hT : TXr t u σ) (hC : CC σ) (hlv : σ.1 236 18 = nI (1 - sd)) (hK : KEY σ) : ∃ r s s2, f_X11_read σ = some (r, s) ∧ f_X12_read s = some (r, s2) ∧ BYT s2 ∧ s2.1 1 1 = s2.1 236 17 ∧ (∀ a k, 236 ≤ a → s.1 a k = σ.1 a k) ∧ (∀ a k, a < 236 → s2.1 a k = s.1 a k) ∧ s2.2.2 = s.2.2 ∧ (∀ a, wlRc a = false → s.2.1 a = σ.2.1 a) ∧ (∀ a, wlRM a = false → s2.2.1 a = s.2.1 a) ∧ (r ≠ 0 → frm (wRc u) wlRc σ s ∧ frm (wRMr sd) wlRM s s2) ∧ (r = 0 → TXr u t s2 ∧ ACc u s ∧ ACm sd s2 ∧ ∃ d : DAT, TC u d s2 ∧ TM sd d s2 ∧ DOK d) ∧ (∀ a k, (wRc u a k || wBA a k) = false → s.1 a k = σ.1 a k) := by
  obtain ⟨m, hm, h1, h2, hb⟩ := h
  have en : nC σ = m := by unfold nC; rw [h1, nIt (by omega), Int.toNat_natCast]
  have w1 := w_read ht hu hT hC
  rw [en] at w1
  obtain ⟨r, s, er, c1, c2, c3, c4, c5, c6, c7⟩ := w1
  have up : ∀ a k, 236 ≤ a → s.1 a k = σ.1 a k := fun a k ha => c5 a k (wRc_hi hu ha)
  have enT : nT2 s = m := by unfold nT2; rw [up 236 2 (by omega), h2, nIt (by omega), Int.toNat_natCast]
  have w2 := mr_read (σ := s) (sd := sd) hsd (by rw [up 236 18 (by omega)]; exact hlv) (by rw [up 236 2 (by omega), h2, nIt (by omega)]; omega) (fun k hk => by rw [c4 243 rfl]; exact hK k hk)
  rw [enT, ← readS_cg (b := bC σ) (b' := bT s) (n := m) (fun i hi => by
    unfold bC bT
    rw [up 237 i (by omega)]; exact hb i hi)] at w2
  obtain ⟨r', s2, er2, d1, d2, d3, σb, d4, d5, d6, d7⟩ := w2
  have eq : r' = r := Int32.toInt_inj.mp (d4.trans c2.symm)
  subst eq
  have dn : ∀ a k, a < 236 → s2.1 a k = s.1 a k := fun a k ha => d2.1 a k (wRM_lo ha)
  refine ⟨r', s, s2, er, er2, ⟨0, by omega, ?_, ?_, fun i hi => absurd hi (by omega)⟩, ?_, up, dn, d2.2.2, c4, d2.2.1, fun hr => ?_, fun hr => ?_, c5⟩
  · rw [dn 2 1 (by omega)]; exact c1
  · exact d1
  · rw [dn 1 1 (by omega)]
    exact Int32.toInt_inj.mp (c3.trans d5.symm)
  · have : r'.toInt ≠ 0 := fun e => hr (Int32.toInt_inj.mp e)
    exact ⟨c6 this, d3 this⟩
  · have hr : r'.toInt = 0 := by rw [hr]; rfl
    obtain ⟨x1, x2, S, x3, x4, x5, x6, x7, p, x8, x9⟩ := c7 hr
    obtain ⟨y1, y2, S', y3, y4, y5, y6, y7, y8⟩ := d7 hr
    have hi : u + 12 < 56 := by rcases hu with rfl | rfl <;> decide
    have es : S' = S := by rw [x3] at y3; exact (Except.ok.inj y3).symm
    subst es
    refine ⟨by unfold TXr; rw [d2.2.2]; exact x1, x2, y2, S'.2.2.2, ⟨⟨?_, x5.2.1, fun e he => ?_⟩, ⟨?_, x6.2.1, fun p hp => ⟨?_, (x6.2.2 p hp).2.1, fun i hi => ?_⟩⟩, ⟨?_, ?_⟩, ⟨p, x8, fun k hk => ?_⟩⟩, ⟨y2.1, hsd, y5, y6, y7, y8⟩, read_ok (fun t h => vl_rg h) x3 x4⟩
    · rw [dn _ _ (by omega)]; exact x5.1
    · rw [dn _ _ (by omega), dn _ _ (by omega), dn _ _ (by omega)]; exact x5.2.2 e he
    · rw [dn _ _ (by omega)]; exact x6.1
    · rw [dn _ _ (by omega)]; exact (x6.2.2 p hp).1
    · rw [dn _ _ (by have := x6.2.1; omega)]; exact (x6.2.2 p hp).2.2 i hi
    · rw [dn _ _ (by omega)]; exact x7.1
    · rw [dn _ _ (by omega)]; exact x7.2
    · obtain ⟨q, q1, q2, q3⟩ := x9 k hk
      exact ⟨q, by rw [dn _ _ (by omega)]; exact q1, q2, q3.same (fun z _ _ => dn _ _ (by omega))⟩
theorem hf_no {sd a k : Nat} (hsd : sd ≤ 1) (h : ((a = 245 ∨ a = 249 ∨ a = 252 ∨ a = 253) ∧ k = sd) ∨ ((a = 246 ∨ a = 247 ∨ a = 248) ∧ 7 * sd ≤ k ∧ k < 7 * sd + 7) ∨ (a = 250 ∧ 5 * sd ≤ k ∧ k < 5 * sd + 5) ∨ (a = 251 ∧ 40 * sd ≤ k ∧ k < 40 * sd + 40) ∨ ((a = 254 ∨ a = 255) ∧ 4 * sd ≤ k ∧ k < 4 * sd + 4) ∨ ((256 ≤ a ∧ a ≤ 260) ∧ 130 * sd ≤ k ∧ k < 130 * sd + 130) ∨ ((a = 261 ∨ a = 262) ∧ 420 * sd ≤ k ∧ k < 420 * sd + 420)) : wRMr (1 - sd) a k = false := by
  have ha : 245 ≤ a ∧ a ≤ 262 := by omega
  have e1 : wr LC a k = false := by
    unfold wr LC
    rw [if_neg (by omega), if_neg (by omega)]
    simp
    omega
  have e2 : wPm (1 - sd) a k = false := by
    unfold wPm
    simp only [Bool.or_eq_false_iff, Bool.and_eq_false_iff, Bool.or_eq_false_iff, beq_eq_false_iff_ne, decide_eq_false_iff_not, ne_eq]
    rcases (show sd = 0 ∨ sd = 1 by omega) with rfl | rfl
    · refine ⟨⟨⟨⟨⟨⟨⟨⟨?_, ?_⟩, ?_⟩, ?_⟩, ?_⟩, ?_⟩, ?_⟩, ?_⟩, ?_⟩ <;> omega
    · refine ⟨⟨⟨⟨⟨⟨⟨⟨?_, ?_⟩, ?_⟩, ?_⟩, ?_⟩, ?_⟩, ?_⟩, ?_⟩, ?_⟩ <;> omega
  unfold wRMr wRd0
  rw [e1, e2, (beq_eq_false_iff_ne.mpr (show a ≠ 236 by omega)), (beq_eq_false_iff_ne.mpr (show a ≠ 238 by omega))]
  rfl
theorem TM.half {wl : Nat → Bool} (h : TM sd d σ) (hf : frm (wRMr (1 - sd)) wl σ s) : TM sd d s := by
  obtain ⟨h0, h1, h2, h3, h4, p, q, h5, h6, h7⟩ := h
  have e18 : wRMr (1 - sd) 236 18 = false := by unfold wRMr wRd0 wPm wr LC; simp
  refine ⟨by rw [hf.1 _ _ e18]; exact h0, h1, ⟨?_, h2.2.1, fun e he => ?_⟩, ⟨?_, h3.2.1, fun p hp => ⟨?_, (h3.2.2 p hp).2.1, fun i hi => ?_⟩⟩, ⟨?_, ?_⟩, p, q, h5, h6, fun k hk => ?_⟩
  · rw [hf.1 _ _ (hf_no h1 (by omega))]; exact h2.1
  · have := h2.2.1
    rw [hf.1 _ _ (hf_no (a := 246) h1 (by omega)), hf.1 _ _ (hf_no (a := 247) h1 (by omega)), hf.1 _ _ (hf_no (a := 248) h1 (by omega))]; exact h2.2.2 e he
  · rw [hf.1 _ _ (hf_no h1 (by omega))]; exact h3.1
  · have := h3.2.1
    rw [hf.1 _ _ (hf_no h1 (by omega))]; exact (h3.2.2 p hp).1
  · have := h3.2.1
    have := (h3.2.2 p hp).2.1
    rw [hf.1 _ _ (hf_no h1 (by omega))]; exact (h3.2.2 p hp).2.2 i hi
  · rw [hf.1 _ _ (hf_no h1 (by omega))]; exact h4.1
  · rw [hf.1 _ _ (hf_no h1 (by omega))]; exact h4.2
  · exact (h7 k hk).mono (Nat.le_refl _) (Nat.le_refl _) (fun a x y => hf.1 _ _ (hf_no h1 (by omega))) (fun a k x y z => hf.1 _ _ (hf_no h1 (by omega))) (fun a k x y z w => hf.1 _ _ (hf_no h1 (by omega)))
theorem rc_no {u a k : Nat} (hu : txk u) (h : a = 3 ∨ 8 ≤ a ∧ a < 30 ∨ 56 ≤ a) : wRc u a k = false := by
  have hi : u + 12 < 56 ∧ 30 ≤ u := by rcases hu with rfl | rfl <;> decide
  unfold wRc wP wCut
  simp
  omega
theorem rc_tx {t u a k : Nat} (ht : txk t) (hu : txk u) (htu : t ≠ u) (h1 : t ≤ a) (h2 : a ≤ t + 12) : wRc u a k = false := by
  rcases ht with rfl | rfl <;> rcases hu with rfl | rfl
  · exact absurd rfl htu
  · unfold wRc wP wCut; simp; omega
  · unfold wRc wP wCut; simp; omega
  · exact absurd rfl htu
theorem rm_lo {sd a k : Nat} (h : a < 236) : wRMr sd a k = false := by
  unfold wRMr wRd0 wPm wr LC
  rw [if_neg (by omega), if_neg (by omega)]
  simp
  omega
theorem rm_hi {sd a k : Nat} (h : 264 ≤ a) (h2 : a < 1000 ∧ a ≠ 267) : wRMr sd a k = false := by
  unfold wRMr wRd0 wPm wr LC
  rw [if_neg (by omega), if_neg (by omega)]
  simp
  omega
theorem sim_read : SIM n f_X11_read f_X12_read := sim_gen (fun d t u sd ρ k nx H m tb G σ h => by
  obtain ⟨⟨c1, c2, c3, c4⟩, ⟨b1, b2, b3, b4, b5, b6, b7⟩, c5, c6, c7, c8⟩ := h.next
  have hsd : sd ≤ 1 := b6.2.1
  have e1s : 1 - (1 - sd) = sd := by omega
  obtain ⟨r, s, s2, e1, e2, q1, q2, q3, q4, q5, q6, q7, q8, q9, q10⟩ := c1.read2 (sd := 1 - sd) b1 b2 b3 (by omega) b4 c2 (by rw [e1s]; exact b6.1) c3
  refine ⟨r, s, s2, e1, e2, ?_⟩
  have P3 : ∀ k, s2.1 3 k = σ.1 3 k := fun k => by rw [q4 3 k (by omega)]; exact q10 3 k (by rw [rc_no b2 (by omega)]; rfl)
  have tap : TAP s2 := ⟨q1, q1.cc (fun k => by rw [P3 k]; exact c2.2 k), fun i hi => by rw [q7 243 rfl, q6 243 rfl]; exact c3 i hi, q2⟩
  by_cases cr : r = 0
  · obtain ⟨y1, y2, y3, d', y4, y5, y6⟩ := q9 cr
    have hT := y4.T7
    have hP := y4.2.1.2.1
    obtain ⟨z1, z2, z3, z4⟩ := y2
    obtain ⟨a1, a2, a3, a4, a5, a6⟩ := z1
    obtain ⟨g1, g2, g3, g4, g5, g6, g7⟩ := y3
    have hi : u + 12 < 56 ∧ 30 ≤ u := by rcases b2 with rfl | rfl <;> decide
    have su : ∀ i k, i < 236 → s.1 i k = s2.1 i k := fun i k x => (q4 i k x).symm
    have eT : (s2.1 245 (1 - sd)).toInt.toNat = d'.1.1.1 := by rw [y5.2.2.1.1, nItn (by omega)]
    have eP : (s2.1 249 (1 - sd)).toInt.toNat = d'.1.2.1 := by rw [y5.2.2.2.1.1, nItn (by omega)]
    let ρ0 : Nat → Int32 := rowB s2 (1 - sd) d'.1.1.1 d'.1.2.1
    have r28 : ρ0 28 = -1 := rfl
    have r26 : ρ0 26 = if 0 < d'.1.2.1 then 0 else -2 := rfl
    have r7 : ∀ e, e < d'.1.1.1 → ρ0 (7 + e) = s2.1 248 (7 * (1 - sd) + e) := fun e he => by
      show (if 7 + e = 28 then (-1 : Int32) else if 7 + e = 26 then (if 0 < d'.1.2.1 then 0 else -2) else if 7 ≤ 7 + e ∧ 7 + e < 7 + d'.1.1.1 then s2.1 248 (7 * (1 - sd) + (7 + e - 7)) else 0) = _
      rw [if_neg (by omega), if_neg (by omega), if_pos (by omega), show 7 + e - 7 = e by omega]
    have r0 : ∀ i, (i < 7 ∨ 14 ≤ i) → i ≠ 26 → i ≠ 28 → ρ0 i = 0 := fun i h h2 h3 => by
      show (if i = 28 then (-1 : Int32) else if i = 26 then (if 0 < d'.1.2.1 then 0 else -2) else if 7 ≤ i ∧ i < 7 + d'.1.1.1 then s2.1 248 (7 * (1 - sd) + (i - 7)) else 0) = _
      rw [if_neg h3, if_neg h2, if_neg (by omega)]
    have hA : AR 56 d'.1.1.1 ρ0 s2 := by
      refine ⟨?_, fun e he => ⟨?_, ?_, ?_⟩, fun k x y => ?_, ?_, ?_, ?_⟩
      · rw [q4 56 0 (by omega), a1, su u 0 (by omega)]; exact y4.1.1
      · rw [q4 57 e (by omega), (a2 e (by omega)).1, r0 e (by omega) (by omega) (by omega)]
      · rw [q4 58 e (by omega), (a2 e (by omega)).2.1, su (u + 3) e (by omega), r7 e he]
        exact Int32.toInt_inj.mp ((y4.1.2.2 e he).2.2.trans (y5.2.2.1.2.2 e he).2.2.symm)
      · rw [q4 59 e (by omega), (a2 e (by omega)).2.2, r0 (14 + e) (by omega) (by omega) (by omega)]
      · rw [q4 56 k (by omega), a3 k x y, r0 (17 + k) (by omega) (by omega) (by omega)]
      · rw [q4 56 9 (by omega), a4, su u 4 (by omega), y4.2.1.1, nIt (by omega), r26]
        by_cases cP : 0 < d'.1.2.1
        · rw [if_pos (by omega), if_pos cP, if_neg (by decide)]
        · rw [if_neg (by omega), if_neg cP, if_pos rfl]
      · rw [q4 56 10 (by omega), a5, r0 27 (by omega) (by omega) (by omega)]
      · rw [q4 56 11 (by omega), a6, r28]
    have hN : NWm ρ0 s2 := fun i hi => by
      have := (g7 i hi).2
      rw [eT, eP] at this
      exact this
    have hW : RW d' (60 * ((n + 1 : Nat) : Int)) ρ0 := by
      refine ⟨fun e he => ⟨?_, fun _ => ?_⟩, ?_, ?_, ?_, ?_, ?_⟩
      · rw [r0 e (by omega) (by omega) (by omega)]; decide
      · rw [r7 e he, (y5.2.2.1.2.2 e he).2.2]; exact (y6.1 e he).2.2
      · rw [r0 21 (by omega) (by omega) (by omega), i0_eq]; omega
      · rw [r0 21 (by omega) (by omega) (by omega), r0 27 (by omega) (by omega) (by omega), i0_eq]; omega
      · rw [r26]
        by_cases cP : 0 < d'.1.2.1
        · rw [if_pos cP, i0_eq]; exact Or.inr ⟨by omega, by omega⟩
        · rw [if_neg cP]; exact Or.inl rfl
      · rw [r28]; decide
      · rw [r0 22 (by omega) (by omega) (by omega)]; decide
    have o12 : s2.1 12 1 = nI nx := by
      rw [q4 12 1 (by omega), q10 12 1 (by rw [rc_no b2 (by omega)]; rfl)]; exact c6.1
    refine ⟨d', u, t, 1 - sd, ρ0, 0, nx, H, 0, tb, G, tap, ⟨b2, b1, fun e => b3 e.symm, y1, y4, y5, y6⟩, ⟨hA, hN, hW⟩, ⟨o12, c6.2.1, by rw [q4 12 2 (by omega)]; exact z2, by decide, g4, fun j hj => absurd hj (by omega)⟩, ⟨by rw [q4 14 2 (by omega)]; exact z3, by decide, g5, fun i hi => absurd hi (by omega)⟩, fun j hj => ⟨⟨?_, ?_⟩, fun e => ?_⟩⟩
    · rw [q4 26 j (by omega), z4 j hj, g6 j hj]
    · exact Or.inl (g6 j hj)
    · rw [g6 j hj] at e; exact absurd e (by decide)
  · obtain ⟨f1, f2⟩ := q8 cr
    have lo : ∀ i k, i < 236 → wRMr (1 - sd) i k = false := fun i k h => rm_lo h
    have u12 : ∀ i k, 56 ≤ i → wRc u i k = false := fun i k h => rc_no b2 (by omega)
    refine ⟨d, t, u, sd, ρ, k, nx, H, m, tb, G, tap, ⟨b1, b2, b3, ?_, ?_, ?_, b7⟩, ⟨?_, ?_, c5.2.2⟩, ?_, ?_, ?_⟩
    · unfold TXr
      rw [f2.2.2, f1.2.2]; exact b4
    · exact (b5.fr f1 (fun i k x y => rc_tx b1 b2 b3 x y)).fr f2 (fun i k x y => lo i k (by rcases b1 with rfl | rfl <;> omega))
    · exact (b6.fr f1 (u12 _ _ (by omega)) (fun i k x y => u12 i k (by omega))).half f2
    · exact (c5.1.fr f1 (fun i k x y => u12 i k (by omega))).fr f2 (fun i k x y => lo i k (by omega))
    · exact (c5.2.1.fr f1 (fun k => u12 _ _ (by omega))).fr f2 (fun k => rm_hi (by omega) (by omega))
    · exact (c6.fr f1 (fun i k x y => u12 i k (by omega)) (fun k => u12 _ _ (by omega)) (fun k => rc_no b2 (by omega)) (u12 _ _ (by omega))).fr f2 (fun i k x y => lo i k (by omega)) (fun k => rm_hi (by omega) (by omega)) (fun k => lo _ _ (by omega)) (by unfold wRMr wRd0 wPm wr LC; simp)
    · exact (c7.fr f1 (fun i k x y => rc_no b2 (by omega)) (fun i k x y => u12 i k (by omega)) (u12 _ _ (by omega))).fr f2 (fun i k x y => lo i k (by omega)) (fun i k x y => rm_hi (by omega) (by omega)) (by unfold wRMr wRd0 wPm wr LC; simp)
    · exact (c8.fr f1 (fun i k x y => u12 i k (by omega)) (fun i k x y => u12 i k (by omega)) (fun k => rc_no b2 (by omega))).fr f2 (fun i k x y => lo i k (by omega)) (fun i k x y => rm_hi (by omega) (by omega)) (fun k => lo _ _ (by omega)))
end BRD2
/-! into: that the class answers -/
section INTOC
variable {σ s s2 : HS} {n t u sd k nx m T : Nat} {ρ : Nat → Int32} {d : DAT} {b : Int} {H G : Nat → Nat → Int32} {tb9 : Nat → Nat} {x y z : Int32}
def flV (x y : Int32) : Int32 := if (x ^^^ y).toInt < 0 then (if (x - x / y * y).toInt = 0 then x - x / y * y else x - x / y * y + y) else x - x / y * y
theorem e_flV (hy : y.toInt ≠ 0) : f_J9_floorMod_7cf53 x y σ = some (flV x y, σ) := by
  unfold f_J9_floorMod_7cf53 flV
  rw [if_neg hy]
  simp only [Bd]
  split
  · split <;> rfl
  · rfl
theorem w_fill2 {p N : Nat} {v : Int32} (hN : (Int32.ofNat (al p)).toInt = N) (hN2 : (al p : Int) = N) (h1 : N ≤ 2000) : Okv (f_J7_fill_53178 p v σ) (fun s => frm (fun a _ => a == p) wl0 σ s ∧ ∀ i, i < N → s.1 p i = v) := by
  unfold f_J7_fill_53178
  refine Okv.bd ?_
  have loop : ∀ (d k M : Nat) (s : HS), k + d = N → d < M → frm (fun a _ => a == p) wl0 σ s → (∀ i, i < k → s.1 p i = v) → Okv (f_J7_fill_53178_5 p M v (nI k) (Int32.ofNat (al p)) s) (fun s => frm (fun a _ => a == p) wl0 σ s ∧ ∀ i, i < N → s.1 p i = v) := by
    intro d
    induction d with
    | zero =>
      intro k M s hk hM hf hz
      obtain ⟨M, rfl⟩ : ∃ q, M = q + 1 := ⟨M - 1, by omega⟩
      show Okv (b_J7_fill_53178_5 p (f_J7_fill_53178_5 p M) v (nI k) (Int32.ofNat (al p)) s) _
      unfold b_J7_fill_53178_5
      rw [nIt (by omega), hN]
      exact Okv.f (by omega) (Okv.ret ⟨hf, fun i hi => hz i (by omega)⟩)
    | succ d ih =>
      intro k M s hk hM hf hz
      obtain ⟨M, rfl⟩ : ∃ q, M = q + 1 := ⟨M - 1, by omega⟩
      show Okv (b_J7_fill_53178_5 p (f_J7_fill_53178_5 p M) v (nI k) (Int32.ofNat (al p)) s) _
      unfold b_J7_fill_53178_5
      rw [nIt (by omega), hN, hN2, Int.toNat_natCast]
      refine Okv.t (by omega) (Okv.t (by omega) (Okv.bd (Okv.bd ?_)))
      rw [nI_1]
      refine ih (k + 1) M _ (by omega) (by omega) (hf.I (by simp)) (fun i hi => ?_)
      by_cases c : i = k
      · rw [c, rI_s]
      · rw [rI_k c]; exact hz i (by omega)
  rw [nI0]
  exact loop N 0 5000 σ (by omega) (by omega) frm.rf (fun i hi => absurd hi (by omega))
/-- what the search holds: c met, each with one it came from -/
def wFi (a k : Nat) : Bool := (a == 17 && (k == 1 || k == 5)) || a == 18 || a == 19 || a == 20 || a == 21
theorem fi_wQ (i k : Nat) (h : wFi i k = true) : wQ i k = true := by
  unfold wFi at h
  simp only [Bool.or_eq_true, Bool.and_eq_true, beq_iff_eq] at h
  rcases h with (((⟨h, h2⟩ | h) | h) | h) | h <;> subst h <;> rfl
def MET (s : HS) : Prop := ∀ i, i < 1024 → s.1 19 i = -1 ∨ ∃ j, j < 1024 ∧ s.1 19 i = nI j ∧ s.1 19 j ≠ -1
def FI (c : Nat) (s : HS) : Prop := s.1 17 1 = nI c ∧ c ≤ 1024 ∧ MET s ∧ ∀ i, i < c → ∃ j, j < 1024 ∧ s.1 18 i = nI j ∧ s.1 19 j ≠ -1
theorem m1_nI {j : Nat} (h : j < 1024) : nI j ≠ -1 := fun e => by
  have := congrArg Int32.toInt e
  rw [nIt (by omega)] at this
  exact absurd this (by show ¬ ((j : Int) = -1); omega)
theorem sh1_rg : ∀ a, a < 1024 → ∃ q, q < 512 ∧ (nI a) >>> ((1 : Int32) &&& 31) = nI q := by
  intro a ha
  have : ∀ a, a < 1024 → (nI a) >>> ((1 : Int32) &&& 31) = nI (a / 2) := by decide +kernel
  exact ⟨a / 2, by omega, this a ha⟩
theorem or_rg : ∀ q, q < 512 → ∀ y, y < 9 → (0 ≤ ((nI q) ||| ((1 : Int32) <<< ((nI (y + 1) - (1 : Int32)) &&& 31))).toInt ∧ ((nI q) ||| ((1 : Int32) <<< ((nI (y + 1) - (1 : Int32)) &&& 31))).toInt < 1024) := by decide +kernel
def FIq (σ : HS) (c : Nat) (s : HS) : Prop := ∃ c', c ≤ c' ∧ FI c' s ∧ frm wFi wl0 σ s ∧ s.1 17 5 = σ.1 17 5 ∧ ∀ i, σ.1 19 i ≠ -1 → s.1 19 i ≠ -1
theorem FIq.tr {c : Nat} {s1 : HS} {c1 : Nat} (h : FIq σ c s) (hc : FI c1 s) (k : ∀ c2, FI c2 s → FIq s c2 s1) : FIq σ c s1 := by
  obtain ⟨c', g1, g2, g3, g4, g5⟩ := h
  obtain ⟨c3, f1, f2, f3, f4, f5⟩ := k c' g2
  exact ⟨c3, by omega, f2, g3.tr f3, f4.trans g4, fun i hi => f5 i (g5 i hi)⟩
end INTOC
/-! into: that the class answers, further -/
section INTOC2
variable {σ s s2 : HS} {n t u sd k nx m T : Nat} {ρ : Nat → Int32} {d : DAT} {b : Int} {H G : Nat → Nat → Int32} {tb9 : Nat → Nat} {x y z : Int32}
theorem FI.uq {c c' : Nat} (h : FI c s) (h' : FI c' s) : c = c' := by
  have e2 := congrArg Int32.toInt (h.1.symm.trans h'.1)
  rw [nIt (by have := h.2.1; omega), nIt (by have := h'.2.1; omega)] at e2
  omega
end INTOC2
/-! into: that the reference answers -/
section INTOM
variable {σ s s2 : HS} {n t u sd k nx m T p : Nat} {ρ : Nat → Int32} {d : DAT} {b : Int} {H G : Nat → Nat → Int32} {tb9 : Nat → Nat} {x y z : Int32}
def nexV (x y : Int32) : Int32 := if (x &&& (1 : Int32)).toInt = 0 then (if y.toInt = 0 then x >>> ((1 : Int32) &&& 31) else -1) else if y.toInt = 0 then -1 else if ((x >>> (y &&& 31)) &&& (1 : Int32)).toInt = 1 then -1 else (x >>> ((1 : Int32) &&& 31)) ||| ((1 : Int32) <<< ((y - (1 : Int32)) &&& 31))
theorem e_nextOf : f_X12_nextOf x y σ = some (nexV x y, σ) := by
  unfold f_X12_nextOf nexV
  split
  · split <;> rfl
  · split
    · rfl
    · split <;> rfl
theorem nex_rg : ∀ q, q < 1024 → ∀ y, y < 10 → (nexV (nI q) (nI y)).toInt < 0 ∨ (0 ≤ (nexV (nI q) (nI y)).toInt ∧ (nexV (nI q) (nI y)).toInt < 1024) := by decide +kernel
theorem aim_z : ∀ L, L < 16 → 0 < L → ∀ q, q < 10 → ((nI L * (9 : Int32)) - nI q) - ((nI L * (9 : Int32)) - nI q) / nI L * nI L = nI ((9 * L - q) % L) := by decide +kernel
/-- how far off each set is: 99 for not at all, else by one step more than some next one -/
def FAR (f : Nat → Int32) : Prop := ∀ q, q < 1024 → f q = 99 ∨ f q = 0 ∨ ∃ w, 1 ≤ w ∧ w ≤ 12 ∧ f q = nI w ∧ ∃ y, y ≤ 9 ∧ ∃ r, r < 1024 ∧ nexV (nI q) (nI y) = nI r ∧ f r = nI (w - 1)
theorem n99 {w : Nat} (h : w ≤ 12) : nI w ≠ 99 := fun e => by
  have := congrArg Int32.toInt e
  rw [nIt (by omega)] at this
  have : (w : Int) = 99 := this
  omega
theorem FAR.put {f g : Nat → Int32} {q v r y : Nat} (h : FAR f) (hq : q < 1024) (h99 : f q = 99) (h1 : 1 ≤ v) (h2 : v ≤ 12) (hy : y ≤ 9) (hr : r < 1024) (e : nexV (nI q) (nI y) = nI r) (er : f r = nI (v - 1)) (hg : ∀ i, g i = if i = q then nI v else f i) : FAR g := fun i hi => by
  have ne : ∀ r' w, w ≤ 12 → f r' = nI w → r' ≠ q := fun r' w hw e2 e3 => by rw [e3, h99] at e2; exact n99 hw e2.symm
  by_cases c : i = q
  · subst c
    refine Or.inr (Or.inr ⟨v, h1, h2, by rw [hg, if_pos rfl], y, hy, r, hr, e, ?_⟩)
    rw [hg, if_neg (ne r (v - 1) (by omega) er)]; exact er
  · rw [hg i, if_neg c]
    rcases h i hi with g0 | g0 | ⟨w, w1, w2, w3, y', y1, r', r1, r2, r3⟩
    · exact Or.inl g0
    · exact Or.inr (Or.inl g0)
    · exact Or.inr (Or.inr ⟨w, w1, w2, w3, y', y1, r', r1, r2, by rw [hg, if_neg (ne r' (w - 1) (by omega) r3)]; exact r3⟩)
def w270 (a _k : Nat) : Bool := a == 270
theorem w270_Q (i k : Nat) (h : w270 i k = true) : wQ i k = true := by
  have : i = 270 := by unfold w270 at h; simpa using h
  subst this; rfl
end INTOM
/-! ways: that both answer -/
section WAYS9
variable {σ s s2 : HS} {n t u sd k nx m T p : Nat} {ρ : Nat → Int32} {d : DAT} {b : Int} {H G : Nat → Nat → Int32} {tb9 : Nat → Nat} {x y z x1 x2 x3 x4 : Int32}
def w24 (a k : Nat) : Bool := (a == 22 && k == 2) || a == 23 || a == 24
theorem w24_Q (i k : Nat) (h : w24 i k = true) : wQ i k = true := by
  unfold w24 at h
  simp only [Bool.or_eq_true, Bool.and_eq_true, beq_iff_eq] at h
  rcases h with (⟨h, h2⟩ | h) | h <;> subst h <;> rfl
theorem w_finish {P : Nat} (h3 : s.1 22 3 = nI P) (hP : 1 ≤ P ∧ P ≤ 5) : Okv (f_X8_finish s) (fun s2 => frm w24 wl0 s s2) := by
  have st : ∀ s1, frm w24 wl0 s s1 → Okv (f_X8_finish_24 s1) (fun s2 => frm w24 wl0 s s2) := fun s1 h1 => by
    unfold f_X8_finish_24
    exact Okv.bd (Okv.ret (h1.I rfl))
  unfold f_X8_finish
  rw [h3, nIt (n := P) (by omega)]
  exact Okv.i (fun _ => Okv.t (by omega) (Okv.bd (st _ (frm.rf.A (fun _ => rfl))))) (fun _ => st s frm.rf)
theorem w_fill8 {P M : Nat} (hP : 1 ≤ P ∧ P ≤ 5) (hM : M ≤ 7) : ∀ (dd a N : Nat) (x2 x3 : Int32) (s : HS), a + dd = P → dd < N → s.1 22 3 = nI P → s.1 22 4 = nI M → Okv (f_X8_fill N (nI a) x2 x3 s) (fun s2 => frm w24 wl0 s s2) := by
  intro dd
  induction dd with
  | zero =>
    intro a N x2 x3 s ha hN h3 h4
    obtain ⟨N, rfl⟩ : ∃ q, N = q + 1 := ⟨N - 1, by omega⟩
    show Okv (g_X8_fill (f_X8_fill N) (nI a) x2 x3 s) _
    unfold g_X8_fill
    rw [h3, nIt (n := a) (by omega), nIt (n := P) (by omega)]
    exact Okv.f (by omega) (Okv.i (fun _ => Okv.cv (w_finish h3 hP) (fun s1 h1 => Okv.ret h1)) (fun _ => Okv.ret frm.rf))
  | succ dd ih =>
    intro a N x2 x3 s ha hN h3 h4
    obtain ⟨N, rfl⟩ : ∃ q, N = q + 1 := ⟨N - 1, by omega⟩
    have loop : ∀ (dy y K : Nat) (s1 : HS), y + dy = M + 1 → dy < K → frm w24 wl0 s s1 → Okv (f_X8_fill_20 (f_X8_fill N) K (nI a) x2 x3 (nI y) s1) (fun s2 => frm w24 wl0 s s2) := by
      intro dy
      induction dy with
      | zero =>
        intro y K s1 hy hK hf
        obtain ⟨K, rfl⟩ : ∃ q, K = q + 1 := ⟨K - 1, by omega⟩
        show Okv (b_X8_fill_20 (f_X8_fill N) (f_X8_fill_20 (f_X8_fill N) K) (nI a) x2 x3 (nI y) s1) _
        unfold b_X8_fill_20
        rw [hf.1 22 4 rfl, h4, nIt (n := y) (by omega), nIt (n := M) (by omega)]
        exact Okv.t (by omega) (Okv.ret hf)
      | succ dy ihy =>
        intro y K s1 hy hK hf
        obtain ⟨K, rfl⟩ : ∃ q, K = q + 1 := ⟨K - 1, by omega⟩
        have nxt : ∀ s1, frm w24 wl0 s s1 → Okv (f_X8_fill_78 (f_X8_fill N) (f_X8_fill_20 (f_X8_fill N) K) (nI a) x2 x3 (nI y) s1) (fun s2 => frm w24 wl0 s s2) := fun s1 hf => by
          unfold f_X8_fill_78
          refine Okv.bd ?_
          rw [nI_1]
          exact ihy (y + 1) K s1 (by omega) (by omega) hf
        show Okv (b_X8_fill_20 (f_X8_fill N) (f_X8_fill_20 (f_X8_fill N) K) (nI a) x2 x3 (nI y) s1) _
        unfold b_X8_fill_20
        rw [hf.1 22 4 rfl, hf.1 22 3 rfl, h3, h4, nIt (n := y) (by omega), nIt (n := M) (by omega), nIt (n := P) (by omega), nIt (n := a) (by omega), Int.toNat_natCast]
        refine Okv.f (by omega) (Okv.i (fun _ => Okv.ret hf) (fun _ => Okv.f (by omega) (Okv.bd (Okv.i (fun _ => Okv.t (by omega) (Okv.bd ?_)) (fun _ => nxt s1 hf)))))
        have F2 : frm w24 wl0 s (hI s1 23 a (nI y)) := hf.I rfl
        have := ih (a + 1) N (x2 ||| ((1 : Int32) <<< (((nI a + nI y) - (nI a + nI y) / nI P * nI P) &&& 31))) (x3 - nI y) (hI s1 23 a (nI y)) (by omega) (by omega) (by rw [F2.1 22 3 rfl]; exact h3) (by rw [F2.1 22 4 rfl]; exact h4)
        rw [nI_1 a]
        exact Okv.cv this (fun s3 h3' => nxt s3 (F2.tr h3'))
    show Okv (g_X8_fill (f_X8_fill N) (nI a) x2 x3 s) _
    unfold g_X8_fill
    rw [h3, nIt (n := a) (by omega), nIt (n := P) (by omega)]
    exact Okv.t (by omega) (loop (M + 1) 0 5000 s (by omega) (by omega) frm.rf)
theorem cap5 : ∀ P, P < 6 → 1 ≤ P → (if (1 : Int32) < (if (5 : Int32) < nI P then 5 else nI P) then (if (5 : Int32) < nI P then 5 else nI P) else 1) = nI P := by decide +kernel
theorem q_ways_c9 : Ok (f_X11_ways x1 x2 x3 x4 σ) (fun _ s => frm wQ wl0 σ s) := by
  unfold f_X11_ways
  refine Ok.i (fun _ => Ok.ret frm.rf) (fun a1 => Ok.i (fun _ => Ok.ret frm.rf) (fun a2 => Ok.i (fun _ => Ok.ret frm.rf) (fun a3 => Ok.i (fun _ => Ok.ret frm.rf) (fun a4 => Ok.i (fun _ => Ok.ret frm.rf) (fun a5 => Ok.i (fun _ => Ok.ret frm.rf) (fun a6 => Ok.i (fun _ => Ok.ret frm.rf) (fun a7 => Ok.i (fun a8 => ?_) (fun _ => Ok.ret frm.rf))))))))
  obtain ⟨P, hP, rfl⟩ : ∃ P : Nat, (1 ≤ P ∧ P ≤ 5) ∧ x1 = nI P := ⟨x1.toInt.toNat, by omega, nI_tn (by omega) (by omega)⟩
  obtain ⟨M, hM, rfl⟩ : ∃ P : Nat, (1 ≤ P ∧ P ≤ 7) ∧ x2 = nI P := ⟨x2.toInt.toNat, by omega, nI_tn (by omega) (by omega)⟩
  rw [nIt (n := P) (by omega)] at a8
  have fnd : Okv (f_X8_find (nI P) (nI M) x3 σ) (fun s => frm wQ wl0 σ s) := by
    unfold f_X8_find
    refine Okv.bd (Okv.bd (Okv.bd ?_))
    rw [cap5 P (by omega) (by omega), nI0]
    have F : frm wQ wl0 σ (hI (hI (hI σ 22 3 (nI P)) 22 4 (nI M)) 22 2 (nI 0)) := ((frm.rf.I rfl).I rfl).I rfl
    refine Okv.cv (w_fill8 hP hM.2 P 0 7 _ _ _ (by omega) (by omega) ?_ ?_) (fun s1 h1 => Okv.ret (F.tr (h1.sub w24_Q)))
    · rw [rI_k (by decide), rI_k (by decide), rI_s]
    · rw [rI_k (by decide), rI_s]
  refine Ok.cv fnd (fun s1 h1 => Ok.i (fun _ => Ok.ret h1) (fun a9 => Ok.i (fun _ => Ok.ret h1) (fun _ => Ok.t (by omega) (Ok.ret h1))))
theorem nI_mulB {a c : Nat} (ha : a ≤ 4096) (hc : c ≤ 8) : nI a * nI c = nI (a * c) := Int32.toInt_inj.mp (by
  have hb : a * c ≤ 4096 * 8 := Nat.mul_le_mul ha hc
  rw [Int32.toInt_mul, nIt (n := a) (by omega), nIt (n := c) (by omega), nIt (n := a * c) (by omega), ← Int.natCast_mul, Int.bmod_def]
  omega)
theorem q_ways_m9 : Ok (f_X12_ways x1 x2 x3 x4 σ) (fun _ s => frm wQ wl0 σ s) := by
  unfold f_X12_ways
  refine Ok.cle e_in ?_
  by_cases a1 : (1 : Int32).toInt ≤ x1.toInt ∧ x1.toInt ≤ (5 : Int32).toInt
  · refine Ok.f (fun e => if10.mp e a1) (Ok.cle e_in ?_)
    by_cases a2 : (1 : Int32).toInt ≤ x2.toInt ∧ x2.toInt ≤ (7 : Int32).toInt
    · refine Ok.f (fun e => if10.mp e a2) (Ok.cle e_in ?_)
      by_cases a3 : (0 : Int32).toInt ≤ x3.toInt ∧ x3.toInt ≤ (7 : Int32).toInt
      · refine Ok.f (fun e => if10.mp e a3) (Ok.cle e_in ?_)
        by_cases a4 : (-1 : Int32).toInt ≤ x4.toInt ∧ x4.toInt ≤ (x1 - (1 : Int32)).toInt
        · refine Ok.f (fun e => if10.mp e a4) ?_
          have c1 : (1 : Int32).toInt = 1 := rfl
          have c5 : (5 : Int32).toInt = 5 := rfl
          have c7 : (7 : Int32).toInt = 7 := rfl
          have cm : (-1 : Int32).toInt = -1 := rfl
          rw [c1, c5] at a1
          rw [c1, c7] at a2
          rw [cm] at a4
          obtain ⟨P, hP, rfl⟩ : ∃ P : Nat, (1 ≤ P ∧ P ≤ 5) ∧ x1 = nI P := ⟨x1.toInt.toNat, by omega, nI_tn (by omega) (by omega)⟩
          obtain ⟨M, hM, rfl⟩ : ∃ P : Nat, (1 ≤ P ∧ P ≤ 7) ∧ x2 = nI P := ⟨x2.toInt.toNat, by omega, nI_tn (by omega) (by omega)⟩
          have eP : nI P - (1 : Int32) = nI (P - 1) := by
            obtain ⟨q, rfl⟩ : ∃ q, P = q + 1 := ⟨P - 1, by omega⟩
            rw [nI_mm (by omega)]; rfl
          rw [eP, nIt (n := P - 1) (by omega)] at a4
          have eM : nI M + (1 : Int32) = nI (M + 1) := nI_1 M
          have go80 : ∀ (dc c N : Nat) (tt : Nat) (y6 : Int32) (s : HS), tt ≤ 32768 → c + dc = tt → dc < N → s.1 236 57 = nI P → frm wQ wl0 σ s → Ok (f_X12_ways_80 N (nI P) (nI M) x3 x4 (nI tt) y6 (nI c) s) (fun _ s => frm wQ wl0 σ s) := by
            intro dc
            induction dc with
            | zero =>
              intro c N tt y6 s ht hc hN h57 hf
              obtain ⟨N, rfl⟩ : ∃ q, N = q + 1 := ⟨N - 1, by omega⟩
              show Ok (b_X12_ways_80 (f_X12_ways_80 N) (nI P) (nI M) x3 x4 (nI tt) y6 (nI c) s) _
              unfold b_X12_ways_80
              rw [nIt (n := c) (by omega), nIt (n := tt) (by omega)]
              exact Ok.f (by omega) (Ok.i (fun _ => Ok.ret hf) (fun _ => Ok.ret hf))
            | succ dc ih =>
              intro c N tt y6 s ht hc hN h57 hf
              obtain ⟨N, rfl⟩ : ∃ q, N = q + 1 := ⟨N - 1, by omega⟩
              have nxt : ∀ y6 s, s.1 236 57 = nI P → frm wQ wl0 σ s → Ok (f_X12_ways_155 (f_X12_ways_80 N) (nI P) (nI M) x3 x4 (nI tt) y6 (nI c) s) (fun _ s => frm wQ wl0 σ s) := fun y6 s h57 hf => by
                unfold f_X12_ways_155
                refine Ok.bd ?_
                rw [nI_1]
                exact ih (c + 1) N tt y6 s ht (by omega) (by omega) h57 hf
              have go96 : ∀ (dq K v : Nat) (y9 : Int32) (s : HS), y9.toInt = (dq : Int) - 1 → dq ≤ P → dq < K → v ≤ 32768 → s.1 236 57 = nI P → (∀ i, dq ≤ i → i < P → ∃ q, q ≤ 9 ∧ s.1 269 i = nI q) → frm wQ wl0 σ s → Ok (f_X12_ways_96 (f_X12_ways_80 N) K (nI P) (nI M) x3 x4 (nI tt) y6 (nI c) (nI v) y9 s) (fun _ s => frm wQ wl0 σ s) := by
                intro dq
                induction dq with
                | zero =>
                  intro K v y9 s hy hd hK hv h57 hz hf
                  obtain ⟨K, rfl⟩ : ∃ q, K = q + 1 := ⟨K - 1, by omega⟩
                  have hm : HM P (fun i => (s.1 269 i).toInt.toNat) s := ⟨fun i hi => by
                    obtain ⟨q, q1, q2⟩ := hz i (by omega) hi
                    show s.1 269 i = nI ((s.1 269 i).toInt.toNat) ∧ (s.1 269 i).toInt.toNat ≤ 9
                    rw [q2, nIt (by omega), Int.toNat_natCast]
                    exact ⟨rfl, q1⟩, hP.1, by omega, h57⟩
                  show Ok (b_X12_ways_96 (f_X12_ways_80 N) (f_X12_ways_96 (f_X12_ways_80 N) K) (nI P) (nI M) x3 x4 (nI tt) y6 (nI c) (nI v) y9 s) _
                  unfold b_X12_ways_96
                  refine Ok.t (by omega) (Ok.cle (e_keeps hm) (Ok.i (fun _ => Ok.i (fun _ => Ok.bd (nxt _ s h57 hf)) (fun c4 => Ok.t (by omega) (Ok.ret hf))) (fun _ => nxt y6 s h57 hf)))
                | succ dq ihq =>
                  intro K v y9 s hy hd hK hv h57 hz hf
                  obtain ⟨K, rfl⟩ : ∃ q, K = q + 1 := ⟨K - 1, by omega⟩
                  obtain rfl : y9 = nI dq := Int32.toInt_inj.mp (by rw [nIt (by omega)]; omega)
                  show Ok (b_X12_ways_96 (f_X12_ways_80 N) (f_X12_ways_96 (f_X12_ways_80 N) K) (nI P) (nI M) x3 x4 (nI tt) y6 (nI c) (nI v) (nI dq) s) _
                  unfold b_X12_ways_96
                  have hlt := Nat.mod_lt v (show 0 < M + 1 by omega)
                  have hdv : v / (M + 1) ≤ v := Nat.div_le_self _ _
                  rw [eM, nIt (n := dq) (by omega), nIt (n := M + 1) (by omega), Int.toNat_natCast, pk_rem (a := v) (d := M + 1) (by omega) (by omega) (by omega), pk_div (a := v) (d := M + 1) (by omega) (by omega) (by omega)]
                  refine Ok.f (by omega) (Ok.f (by omega) (Ok.t (by omega) (Ok.bd (Ok.f (by omega) (Ok.bd (Ok.bd ?_))))))
                  refine ihq K (v / (M + 1)) _ _ ?_ (by omega) (by omega) (by omega) (by rw [rI_i (by decide)]; exact h57) (fun i h1 h2 => ?_) (hf.I rfl)
                  · cases dq with
                    | zero => rfl
                    | succ q => rw [show nI (q + 1) + (-1 : Int32) = nI q by rw [← nI_1 q, Int32.add_assoc]; exact Int32.add_zero _, nIt (by omega)]; omega
                  · by_cases ci : i = dq
                    · rw [ci, rI_s]; exact ⟨v % (M + 1), by omega, rfl⟩
                    · rw [rI_k ci]; exact hz i (by omega) h2
              show Ok (b_X12_ways_80 (f_X12_ways_80 N) (nI P) (nI M) x3 x4 (nI tt) y6 (nI c) s) _
              unfold b_X12_ways_80
              rw [nIt (n := c) (by omega), nIt (n := tt) (by omega), eP]
              refine Ok.t (by omega) (Ok.bd ?_)
              exact go96 P 5000 c (nI (P - 1)) s (by rw [nIt (by omega)]; omega) (Nat.le_refl _) (by omega) (by omega) h57 (fun i h1 h2 => absurd h2 (by omega)) hf
          have go49 : ∀ (dj j N tt : Nat), j + dj = P → dj < N → tt ≤ 8 ^ j → Ok (f_X12_ways_49 N (nI P) (nI M) x3 x4 (nI tt) (nI j) σ) (fun _ s => frm wQ wl0 σ s) := by
            intro dj
            induction dj with
            | zero =>
              intro j N tt hj hN ht
              obtain ⟨N, rfl⟩ : ∃ q, N = q + 1 := ⟨N - 1, by omega⟩
              have h8 : 8 ^ j ≤ 32768 := Nat.le_trans (Nat.pow_le_pow_right (by omega) (show j ≤ 5 by omega)) (by decide)
              show Ok (b_X12_ways_49 (f_X12_ways_49 N) (nI P) (nI M) x3 x4 (nI tt) (nI j) σ) _
              unfold b_X12_ways_49
              rw [nIt (n := j) (by omega), nIt (n := P) (by omega)]
              refine Ok.f (by omega) (Ok.bd ?_)
              rw [nI0]
              exact go80 tt 0 40000 tt _ _ (by omega) (by omega) (by omega) rI_s (frm.rf.I rfl)
            | succ dj ih =>
              intro j N tt hj hN ht
              obtain ⟨N, rfl⟩ : ∃ q, N = q + 1 := ⟨N - 1, by omega⟩
              have h8 : 8 ^ j ≤ 4096 := Nat.le_trans (Nat.pow_le_pow_right (by omega) (show j ≤ 4 by omega)) (by decide)
              have hb : tt * (M + 1) ≤ 8 ^ j * 8 := Nat.mul_le_mul ht (by omega)
              show Ok (b_X12_ways_49 (f_X12_ways_49 N) (nI P) (nI M) x3 x4 (nI tt) (nI j) σ) _
              unfold b_X12_ways_49
              rw [nIt (n := j) (by omega), nIt (n := P) (by omega), eM, nI_mulB (by omega) (by omega)]
              refine Ok.t (by omega) (Ok.bd (Ok.bd ?_))
              rw [nI_1]
              exact ih (j + 1) N _ (by omega) (by omega) (by rw [Nat.pow_succ]; exact hb)
          rw [show (1 : Int32) = nI 1 from rfl, nI0]
          exact go49 P 0 5000 1 (by omega) (by omega) (by decide)
        · exact Ok.t (if10.mpr a4) (Ok.ret frm.rf)
      · exact Ok.t (if10.mpr a3) (Ok.ret frm.rf)
    · exact Ok.t (if10.mpr a2) (Ok.ret frm.rf)
  · exact Ok.t (if10.mpr a1) (Ok.ret frm.rf)
theorem simx_ways : SIMx n (f_X11_ways x1 x2 x3 x4) (f_X12_ways x1 x2 x3 x4) := sim_x (fun d t u sd ρ k nx H m tb G σ h => ⟨q_ways_c9, q_ways_m9⟩)
end WAYS9
/-! into: the fewest steps from set to set -/
section INTOG
variable {σ s s2 : HS} {a w : Nat}
theorem nI_i {i j : Nat} (hi : i ≤ 2000) (hj : j ≤ 2000) (e : nI i = nI j) : i = j := by
  have := congrArg Int32.toInt e
  rw [nIt (by omega), nIt (by omega)] at this
  omega
/-- a way of so many steps to the aim -/
def rB (a : Nat) : Nat → Nat → Prop
  | 0 => fun q => q = a
  | k + 1 => fun q => ∃ y, y ≤ 9 ∧ ∃ r, r < 1024 ∧ nexV (nI q) (nI y) = nI r ∧ rB a k r
def dB (a w q : Nat) : Prop := rB a w q ∧ ∀ k, k < w → ¬ rB a k q
theorem dB.uq {q w w' : Nat} (h : dB a w q) (h' : dB a w' q) : w = w' := by
  rcases Nat.lt_trichotomy w w' with c | c | c
  · exact absurd h.1 (h'.2 w c)
  · exact c
  · exact absurd h'.1 (h.2 w' c)
theorem dB.step {q : Nat} (h : dB a (w + 1) q) {y r : Nat} (hy : y ≤ 9) (hr : r < 1024) (e : nexV (nI q) (nI y) = nI r) (hb : rB a w r) : dB a w r := ⟨hb, fun k hk hc => h.2 (k + 1) (by omega) ⟨y, hy, r, hr, e, hc⟩⟩
/-- what is known of a set behind k steps -/
def FQ (a : Nat) (f : Nat → Int32) (k q : Nat) : Prop := (f q = 99 ∧ ∀ j, j ≤ k → ¬ rB a j q) ∨ ∃ w, w ≤ k ∧ f q = nI w ∧ dB a w q
def FS (a : Nat) (f : Nat → Int32) (u p : Nat) : Prop := ∀ q, q < 1024 → (q < p → FQ a f (u + 1) q) ∧ (p ≤ q → FQ a f u q)
theorem FQ.le {f : Nat → Int32} {u q : Nat} (h : FQ a f u q) (h9 : f q ≠ 99) : FQ a f (u + 1) q := by
  rcases h with g | ⟨w, w1, w2, w3⟩
  · exact absurd g.1 h9
  · exact Or.inr ⟨w, by omega, w2, w3⟩
theorem FQ.cg {f g : Nat → Int32} {u q : Nat} (h : FQ a f u q) (e : g q = f q) : FQ a g u q := by
  unfold FQ at h ⊢
  rw [e]; exact h
/-- its number is known: so far it is -/
theorem FQ.dist {f : Nat → Int32} {u q : Nat} (h : FQ a f u q) (hu : u ≤ 13) (hw : w ≤ 12) (e : f q = nI w) : dB a w q := by
  rcases h with g | ⟨v, v1, v2, v3⟩
  · rw [e] at g; exact absurd g.1 (n99 hw)
  · have := nI_i (by omega) (by omega) (v2.symm.trans e)
    rw [← this]; exact v3
theorem FQ.far {f : Nat → Int32} {u q : Nat} (h : FQ a f u q) (hd : dB a w q) (hw : w ≤ u) : f q = nI w := by
  rcases h with g | ⟨v, v1, v2, v3⟩
  · exact absurd hd.1 (g.2 w hw)
  · rw [hd.uq v3]; exact v2
theorem FS.any {f : Nat → Int32} {u p q : Nat} (h : FS a f u p) (hq : q < 1024) : FQ a f u q ∨ FQ a f (u + 1) q := by
  rcases Nat.lt_or_ge q p with c | c
  · exact Or.inr ((h q hq).1 c)
  · exact Or.inl ((h q hq).2 c)
theorem FS.put {f g : Nat → Int32} {u p y r : Nat} (h : FS a f u p) (hu : u ≤ 11) (h9 : f p = 99) (hp : p < 1024) (hy : y ≤ 9) (hr : r < 1024) (e : nexV (nI p) (nI y) = nI r) (er : f r = nI u) (hg : ∀ i, g i = if i = p then nI (u + 1) else f i) : FS a g u (p + 1) := fun q hq => by
  have hd : dB a u r := by
    rcases h.any hr with c | c
    · exact c.dist (by omega) (by omega) er
    · exact c.dist (by omega) (by omega) er
  have hn : ∀ j, j ≤ u → ¬ rB a j p := by
    rcases (h p hp).2 (Nat.le_refl p) with c | ⟨v, v1, v2, v3⟩
    · exact c.2
    · rw [h9] at v2; exact absurd v2.symm (n99 (by omega))
  by_cases c : q = p
  · subst c
    refine ⟨fun _ => Or.inr ⟨u + 1, Nat.le_refl _, by rw [hg, if_pos rfl], ⟨y, hy, r, hr, e, hd.1⟩, fun k hk => hn k (by omega)⟩, fun c => by omega⟩
  · have eg : g q = f q := by rw [hg, if_neg c]
    exact ⟨fun c1 => ((h q hq).1 (by omega)).cg eg, fun c1 => ((h q hq).2 (by omega)).cg eg⟩
theorem FS.on {f : Nat → Int32} {u p : Nat} (h : FS a f u p) (hp : p < 1024) (h1 : FQ a f (u + 1) p) : FS a f u (p + 1) := fun q hq => by
  by_cases c : q = p
  · subst c; exact ⟨fun _ => h1, fun c => by omega⟩
  · exact ⟨fun c1 => (h q hq).1 (by omega), fun c1 => (h q hq).2 (by omega)⟩
theorem FS.none {f : Nat → Int32} {u p : Nat} (h : FS a f u p) (hu : u ≤ 11) (hp : p < 1024) (h9 : f p = 99) (hn : ∀ y, y ≤ 9 → ∀ r, r < 1024 → nexV (nI p) (nI y) = nI r → f r ≠ nI u) : FS a f u (p + 1) := by
  refine h.on hp (Or.inl ⟨h9, ?_⟩)
  have hn0 : ∀ j, j ≤ u → ¬ rB a j p := by
    rcases (h p hp).2 (Nat.le_refl p) with c | ⟨v, v1, v2, v3⟩
    · exact c.2
    · rw [h9] at v2; exact absurd v2.symm (n99 (by omega))
  intro j hj hB
  by_cases c : j ≤ u
  · exact hn0 j c hB
  obtain rfl : j = u + 1 := by omega
  obtain ⟨y, hy, r, hr, e, hb⟩ := hB
  have hd : dB a u r := ⟨hb, fun k hk hc => hn0 (k + 1) (by omega) ⟨y, hy, r, hr, e, hc⟩⟩
  refine hn y hy r hr e ?_
  rcases h.any hr with c | c
  · exact c.far hd (Nat.le_refl _)
  · exact c.far hd (by omega)
theorem FS.go {f : Nat → Int32} {u : Nat} (h : FS a f u 1024) : FS a f (u + 1) 0 := fun q hq => ⟨fun c => absurd c (by omega), fun _ => (h q hq).1 hq⟩
theorem FS.at {f : Nat → Int32} {u q : Nat} (h : FS a f u 0) (hq : q < 1024) : FQ a f u q := (h q hq).2 (by omega)
theorem w_fillsX (ha : a < 1024) : Okv (f_X12_fillsFar (nI a) σ) (fun s => FS a (s.1 270) 12 0 ∧ frm w270 wl0 σ s) := by
  have go34 : ∀ (dv u N : Nat) (s : HS), u + dv = 12 → dv < N → FS a (s.1 270) u 0 → frm w270 wl0 σ s → Okv (f_X12_fillsFar_34 N (nI (u + 1)) s) (fun s => FS a (s.1 270) 12 0 ∧ frm w270 wl0 σ s) := by
    intro dv
    induction dv with
    | zero =>
      intro u N s hv hN hF hf
      obtain ⟨N, rfl⟩ : ∃ q, N = q + 1 := ⟨N - 1, by omega⟩
      obtain rfl : u = 12 := by omega
      show Okv (b_X12_fillsFar_34 (f_X12_fillsFar_34 N) (nI (12 + 1)) s) _
      unfold b_X12_fillsFar_34
      rw [nIt (n := 12 + 1) (by omega)]
      exact Okv.t (by omega) (Okv.ret ⟨hF, hf⟩)
    | succ dv ih =>
      intro u N s hv hN hF hf
      obtain ⟨N, rfl⟩ : ∃ q, N = q + 1 := ⟨N - 1, by omega⟩
      have go42 : ∀ (dq q M : Nat) (s : HS), q + dq = 1024 → dq < M → FS a (s.1 270) u q → frm w270 wl0 σ s → Okv (f_X12_fillsFar_42 (f_X12_fillsFar_34 N) M (nI (u + 1)) (nI q) s) (fun s => FS a (s.1 270) 12 0 ∧ frm w270 wl0 σ s) := by
        intro dq
        induction dq with
        | zero =>
          intro q M s hq hM hF hf
          obtain ⟨M, rfl⟩ : ∃ q, M = q + 1 := ⟨M - 1, by omega⟩
          obtain rfl : q = 1024 := by omega
          show Okv (b_X12_fillsFar_42 (f_X12_fillsFar_34 N) (f_X12_fillsFar_42 (f_X12_fillsFar_34 N) M) (nI (u + 1)) (nI 1024) s) _
          unfold b_X12_fillsFar_42
          rw [nIt (n := 1024) (by omega)]
          refine Okv.f (by omega) (Okv.bd ?_)
          rw [nI_1]
          exact ih (u + 1) N s (by omega) (by omega) hF.go hf
        | succ dq ihq =>
          intro q M s hq hM hF hf
          obtain ⟨M, rfl⟩ : ∃ q, M = q + 1 := ⟨M - 1, by omega⟩
          have nxt : ∀ s, FS a (s.1 270) u (q + 1) → frm w270 wl0 σ s → Okv (f_X12_fillsFar_109 (f_X12_fillsFar_34 N) (f_X12_fillsFar_42 (f_X12_fillsFar_34 N) M) (nI (u + 1)) (nI q) s) (fun s => FS a (s.1 270) 12 0 ∧ frm w270 wl0 σ s) := fun s hF hf => by
            unfold f_X12_fillsFar_109
            refine Okv.bd ?_
            rw [nI_1 q]
            exact ihq (q + 1) M s (by omega) (by omega) hF hf
          have go52B : ∀ (y K : Nat) (s : HS), y ≤ 10 → 0 < K → FS a (s.1 270) u (q + 1) → s.1 270 q ≠ 99 → frm w270 wl0 σ s → Okv (f_X12_fillsFar_52 (f_X12_fillsFar_34 N) (f_X12_fillsFar_42 (f_X12_fillsFar_34 N) M) K (nI (u + 1)) (nI q) (nI y) s) (fun s => FS a (s.1 270) 12 0 ∧ frm w270 wl0 σ s) := by
            intro y K s hy hK hF h9 hf
            obtain ⟨K, rfl⟩ : ∃ q, K = q + 1 := ⟨K - 1, by omega⟩
            show Okv (b_X12_fillsFar_52 (f_X12_fillsFar_34 N) (f_X12_fillsFar_42 (f_X12_fillsFar_34 N) M) (f_X12_fillsFar_52 (f_X12_fillsFar_34 N) (f_X12_fillsFar_42 (f_X12_fillsFar_34 N) M) K) (nI (u + 1)) (nI q) (nI y) s) _
            unfold b_X12_fillsFar_52
            rw [nIt (n := y) (by omega), nIt (n := q) (by omega), Int.toNat_natCast]
            exact Okv.i (fun _ => nxt s hF hf) (fun _ => Okv.t (by omega) (Okv.f (fun c => h9 (Int32.toInt_inj.mp c)) (nxt s hF hf)))
          have go52 : ∀ (dy y K : Nat) (s : HS), y + dy = 10 → dy < K → FS a (s.1 270) u q → (∀ y', y' < y → ∀ r, r < 1024 → nexV (nI q) (nI y') = nI r → s.1 270 r ≠ nI u) → frm w270 wl0 σ s → Okv (f_X12_fillsFar_52 (f_X12_fillsFar_34 N) (f_X12_fillsFar_42 (f_X12_fillsFar_34 N) M) K (nI (u + 1)) (nI q) (nI y) s) (fun s => FS a (s.1 270) 12 0 ∧ frm w270 wl0 σ s) := by
            intro dy
            induction dy with
            | zero =>
              intro y K s hy hK hF hn hf
              obtain ⟨K, rfl⟩ : ∃ q, K = q + 1 := ⟨K - 1, by omega⟩
              show Okv (b_X12_fillsFar_52 (f_X12_fillsFar_34 N) (f_X12_fillsFar_42 (f_X12_fillsFar_34 N) M) (f_X12_fillsFar_52 (f_X12_fillsFar_34 N) (f_X12_fillsFar_42 (f_X12_fillsFar_34 N) M) K) (nI (u + 1)) (nI q) (nI y) s) _
              unfold b_X12_fillsFar_52
              rw [nIt (n := y) (by omega)]
              refine Okv.t (by omega) (nxt s ?_ hf)
              by_cases c9 : s.1 270 q = 99
              · exact hF.none (by omega) (by omega) c9 (fun y' hy' => hn y' (by omega))
              · exact hF.on (by omega) (((hF q (by omega)).2 (Nat.le_refl q)).le c9)
            | succ dy ihy =>
              intro y K s hy hK hF hn hf
              obtain ⟨K, rfl⟩ : ∃ q, K = q + 1 := ⟨K - 1, by omega⟩
              have nx2 : ∀ s, FS a (s.1 270) u q → (∀ y', y' < y + 1 → ∀ r, r < 1024 → nexV (nI q) (nI y') = nI r → s.1 270 r ≠ nI u) → frm w270 wl0 σ s → Okv (f_X12_fillsFar_103 (f_X12_fillsFar_34 N) (f_X12_fillsFar_42 (f_X12_fillsFar_34 N) M) (f_X12_fillsFar_52 (f_X12_fillsFar_34 N) (f_X12_fillsFar_42 (f_X12_fillsFar_34 N) M) K) (nI (u + 1)) (nI q) (nI y) s) (fun s => FS a (s.1 270) 12 0 ∧ frm w270 wl0 σ s) := fun s hF hn hf => by
                unfold f_X12_fillsFar_103
                refine Okv.bd ?_
                rw [nI_1 y]
                exact ihy (y + 1) K s (by omega) (by omega) hF hn hf
              have nx3 : ∀ s, FS a (s.1 270) u (q + 1) → s.1 270 q ≠ 99 → frm w270 wl0 σ s → Okv (f_X12_fillsFar_103 (f_X12_fillsFar_34 N) (f_X12_fillsFar_42 (f_X12_fillsFar_34 N) M) (f_X12_fillsFar_52 (f_X12_fillsFar_34 N) (f_X12_fillsFar_42 (f_X12_fillsFar_34 N) M) K) (nI (u + 1)) (nI q) (nI y) s) (fun s => FS a (s.1 270) 12 0 ∧ frm w270 wl0 σ s) := fun s hF h9 hf => by
                unfold f_X12_fillsFar_103
                refine Okv.bd ?_
                rw [nI_1 y]
                exact go52B (y + 1) K s (by omega) (by omega) hF h9 hf
              show Okv (b_X12_fillsFar_52 (f_X12_fillsFar_34 N) (f_X12_fillsFar_42 (f_X12_fillsFar_34 N) M) (f_X12_fillsFar_52 (f_X12_fillsFar_34 N) (f_X12_fillsFar_42 (f_X12_fillsFar_34 N) M) K) (nI (u + 1)) (nI q) (nI y) s) _
              unfold b_X12_fillsFar_52
              rw [nIt (n := y) (by omega), nIt (n := q) (by omega), Int.toNat_natCast]
              refine Okv.f (by omega) (Okv.t (by omega) (Okv.i (fun c99 => ?_) (fun c9 => nxt s (hF.on (by omega) (((hF q (by omega)).2 (Nat.le_refl q)).le (fun e => c9 (by rw [e]; rfl)))) hf)))
              have e99 : s.1 270 q = 99 := Int32.toInt_inj.mp c99
              have rg := nex_rg q (by omega) y (by omega)
              have en : f_X12_nextOf (nI q) (nI y) s = some (nexV (nI q) (nI y), s) := e_nextOf
              refine Okv.cl (P := fun r s' => r = nexV (nI q) (nI y) ∧ s' = s) (Ok.of en ⟨rfl, rfl⟩) (fun r s' hr => ?_)
              obtain ⟨rfl, rfl⟩ := hr
              have hv0 : nI (u + 1) - (1 : Int32) = nI u := nI_mm (by omega)
              refine Okv.i (fun cn => nx2 s' hF (fun y' hy' r hr en2 => ?_) hf) (fun cn => Okv.t (by omega) (Okv.i (fun ce => Okv.t (by omega) (Okv.bd ?_)) (fun ce => nx2 s' hF (fun y' hy' r hr en2 => ?_) hf)))
              · by_cases c : y' = y
                · subst c; rw [en2, nIt (by omega)] at cn; omega
                · exact hn y' (by omega) r hr en2
              · rw [hv0] at ce
                have g9 : (hI s' 270 q (nI (u + 1))).1 270 q ≠ 99 := by rw [rI_s]; exact n99 (by omega)
                refine nx3 _ (hF.put (y := y) (r := (nexV (nI q) (nI y)).toInt.toNat) (by omega) e99 (by omega) (by omega) (by omega) (nI_tn (by omega) (by omega)) (Int32.toInt_inj.mp ce) (fun i => ?_)) g9 (hf.I rfl)
                by_cases ci : i = q
                · rw [ci, rI_s, if_pos rfl]
                · rw [rI_k ci, if_neg ci]
              · by_cases c : y' = y
                · subst c
                  rw [en2, nIt (by omega), Int.toNat_natCast, hv0] at ce
                  exact fun e => ce (by rw [e])
                · exact hn y' (by omega) r hr en2
          show Okv (b_X12_fillsFar_42 (f_X12_fillsFar_34 N) (f_X12_fillsFar_42 (f_X12_fillsFar_34 N) M) (nI (u + 1)) (nI q) s) _
          unfold b_X12_fillsFar_42
          rw [nIt (n := q) (by omega)]
          exact Okv.t (by omega) (go52 10 0 5000 s (by omega) (by omega) hF (fun y' hy' => absurd hy' (by omega)) hf)
      show Okv (b_X12_fillsFar_34 (f_X12_fillsFar_34 N) (nI (u + 1)) s) _
      unfold b_X12_fillsFar_34
      rw [nIt (n := u + 1) (by omega)]
      exact Okv.f (by omega) (go42 1024 0 5000 s (by omega) (by omega) hF hf)
  have go2 : ∀ (dq q N : Nat) (s : HS), q + dq = 1024 → dq < N → (∀ i, i < q → s.1 270 i = if i = a then 0 else 99) → frm w270 wl0 σ s → Okv (f_X12_fillsFar_2 N (nI a) (nI q) s) (fun s => FS a (s.1 270) 12 0 ∧ frm w270 wl0 σ s) := by
    intro dq
    induction dq with
    | zero =>
      intro q N s hq hN hz hf
      obtain ⟨N, rfl⟩ : ∃ q, N = q + 1 := ⟨N - 1, by omega⟩
      show Okv (b_X12_fillsFar_2 (f_X12_fillsFar_2 N) (nI a) (nI q) s) _
      unfold b_X12_fillsFar_2
      rw [nIt (n := q) (by omega)]
      refine Okv.f (by omega) (go34 12 0 5000 s (by omega) (by omega) (fun i hi => ⟨fun c => absurd c (by omega), fun _ => ?_⟩) hf)
      have e := hz i (by omega)
      by_cases c : i = a
      · rw [if_pos c] at e
        exact Or.inr ⟨0, Nat.le_refl _, e, c, fun k hk => absurd hk (by omega)⟩
      · rw [if_neg c] at e
        refine Or.inl ⟨e, fun j hj hb => ?_⟩
        obtain rfl : j = 0 := by omega
        exact c hb
    | succ dq ih =>
      intro q N s hq hN hz hf
      obtain ⟨N, rfl⟩ : ∃ q, N = q + 1 := ⟨N - 1, by omega⟩
      have st : ∀ v : Int32, v = (if q = a then 0 else 99) → Okv (f_X12_fillsFar_25 (f_X12_fillsFar_2 N) (nI a) (nI q) v (nI q) s) (fun s => FS a (s.1 270) 12 0 ∧ frm w270 wl0 σ s) := fun v hv => by
        unfold f_X12_fillsFar_25
        rw [nIt (n := q) (by omega), Int.toNat_natCast]
        refine Okv.t (by omega) (Okv.bd (Okv.bd ?_))
        rw [nI_1 q]
        refine ih (q + 1) N _ (by omega) (by omega) (fun i hi => ?_) (hf.I rfl)
        by_cases c : i = q
        · rw [c, rI_s]; exact hv
        · rw [rI_k c]; exact hz i (by omega)
      show Okv (b_X12_fillsFar_2 (f_X12_fillsFar_2 N) (nI a) (nI q) s) _
      unfold b_X12_fillsFar_2
      rw [nIt (n := q) (by omega), nIt (n := a) (by omega)]
      exact Okv.t (by omega) (Okv.i (fun c => st 0 (by rw [if_pos (by omega)])) (fun c => st 99 (by rw [if_neg (by omega)])))
  unfold f_X12_fillsFar
  rw [nI0]
  exact go2 1024 0 5000 σ (by omega) (by omega) (fun i hi => absurd hi (by omega)) frm.rf
/-- the lowest throw that comes one nearer -/
def GR (a w q y : Nat) : Prop := y ≤ 9 ∧ (∃ r, r < 1024 ∧ nexV (nI q) (nI y) = nI r ∧ dB a w r) ∧ ∀ y', y' < y → ∀ r, r < 1024 → nexV (nI q) (nI y') = nI r → ¬ dB a w r
theorem GR.uq {q y y' : Nat} (h : GR a w q y) (h' : GR a w q y') : y = y' := by
  obtain ⟨r, r1, r2, r3⟩ := h.2.1
  obtain ⟨r', r1', r2', r3'⟩ := h'.2.1
  rcases Nat.lt_trichotomy y y' with c | c | c
  · exact absurd r3 (h'.2.2 y c r r1 r2)
  · exact c
  · exact absurd r3' (h.2.2 y' c r' r1' r2')
theorem w_firstX {q : Nat} (hF : FS a (s.1 270) 12 0) (hq : q < 1024) (hw : w < 12) (hd : dB a (w + 1) q) : Ok (f_X12_firstOf (nI q) s) (fun r s2 => s2 = s ∧ ∃ y, GR a w q y ∧ r = nI y) := by
  obtain ⟨Y, y1, R, r1, r2, r3⟩ := hd.1
  have hR : dB a w R := hd.step y1 r1 r2 r3
  have e : s.1 270 q = nI (w + 1) := (hF.at hq).far hd (by omega)
  have hv0 : nI (w + 1) - (1 : Int32) = nI w := nI_mm (by omega)
  have loop : ∀ (dd y N : Nat), y + dd = Y → dd < N → (∀ y', y' < y → ∀ r, r < 1024 → nexV (nI q) (nI y') = nI r → ¬ dB a w r) → Ok (f_X12_firstOf_2 N (nI q) (nI y) s) (fun r s2 => s2 = s ∧ ∃ y, GR a w q y ∧ r = nI y) := by
    intro dd
    induction dd with
    | zero =>
      intro y N hy hN hn
      obtain ⟨N, rfl⟩ : ∃ q, N = q + 1 := ⟨N - 1, by omega⟩
      obtain rfl : y = Y := by omega
      show Ok (b_X12_firstOf_2 (f_X12_firstOf_2 N) (nI q) (nI y) s) _
      unfold b_X12_firstOf_2
      refine Ok.cle e_nextOf ?_
      rw [r2, nIt (n := R) (by omega)]
      refine Ok.f (by omega) (Ok.cle e_nextOf ?_)
      rw [r2, nIt (n := R) (by omega), nIt (n := q) (by omega), Int.toNat_natCast, Int.toNat_natCast, (hF.at r1).far hR (by omega), e, hv0]
      exact Ok.t (by omega) (Ok.t (by omega) (Ok.t rfl (Ok.ret ⟨rfl, y, ⟨y1, ⟨R, r1, r2, hR⟩, hn⟩, rfl⟩)))
    | succ dd ih =>
      intro y N hy hN hn
      obtain ⟨N, rfl⟩ : ∃ q, N = q + 1 := ⟨N - 1, by omega⟩
      have nxt : (∀ r, r < 1024 → nexV (nI q) (nI y) = nI r → ¬ dB a w r) → Ok (f_X12_firstOf_31 (f_X12_firstOf_2 N) (nI q) (nI y) s) (fun r s2 => s2 = s ∧ ∃ y, GR a w q y ∧ r = nI y) := fun h0 => by
        unfold f_X12_firstOf_31
        refine Ok.bd ?_
        rw [nI_1 y]
        refine ih (y + 1) N (by omega) (by omega) (fun y' hy' => ?_)
        by_cases c : y' = y
        · subst c; exact h0
        · exact hn y' (by omega)
      have rg := nex_rg q hq y (by omega)
      show Ok (b_X12_firstOf_2 (f_X12_firstOf_2 N) (nI q) (nI y) s) _
      unfold b_X12_firstOf_2
      refine Ok.cle e_nextOf (Ok.i (fun cn => nxt (fun r hr en => ?_)) (fun cn => Ok.cle e_nextOf ?_))
      · rw [en, nIt (by omega)] at cn; omega
      obtain ⟨r, hr, en⟩ : ∃ r : Nat, r < 1024 ∧ nexV (nI q) (nI y) = nI r := ⟨(nexV (nI q) (nI y)).toInt.toNat, by omega, nI_tn (by omega) (by omega)⟩
      rw [en, nIt (n := r) (by omega), nIt (n := q) (by omega), Int.toNat_natCast, Int.toNat_natCast, e, hv0]
      refine Ok.t (by omega) (Ok.t (by omega) (Ok.i (fun ce => Ok.ret ⟨rfl, y, ⟨by omega, ⟨r, hr, en, (hF.at hr).dist (by omega) (by omega) (Int32.toInt_inj.mp ce)⟩, hn⟩, rfl⟩) (fun ce => nxt (fun r' hr' en' hd' => ?_))))
      have : r = r' := nI_i (by omega) (by omega) (en.symm.trans en')
      subst this
      exact ce (by rw [(hF.at hr).far hd' (by omega)])
  unfold f_X12_firstOf
  rw [nI0]
  exact loop Y 0 5000 (by omega) (by omega) (fun y' hy' => absurd hy' (by omega))
end INTOG
/-! into: the class's search, breadth first -/
section INTOS
variable {σ s s2 : HS} {a A c t e B E G : Nat} {Q K Dp : Nat → Nat}
/-- distinct numbers below N are at most N -/
theorem pigeon : ∀ (N c : Nat) (f : Nat → Nat), (∀ i, i < c → f i < N) → (∀ i j, i < c → j < c → f i = f j → i = j) → c ≤ N := by
  intro N
  induction N with
  | zero =>
    intro c f h _
    rcases Nat.eq_zero_or_pos c with e | e
    · omega
    · exact absurd (h 0 e) (by omega)
  | succ N ih =>
    intro c f h hi
    by_cases ex : ∃ k, k < c ∧ f k = N
    · obtain ⟨k, hk, ek⟩ := ex
      have := ih (c - 1) (fun i => f (if i < k then i else i + 1)) (fun i hi' => ?_) (fun i j hi' hj' e => ?_)
      · omega
      · have h1 : (if i < k then i else i + 1) < c := by split <;> omega
        have h2 : (if i < k then i else i + 1) ≠ k := by split <;> omega
        have h3 := h _ h1
        have h4 : f (if i < k then i else i + 1) ≠ N := fun e4 => h2 (hi _ _ h1 hk (e4.trans ek.symm))
        show f (if i < k then i else i + 1) < N
        omega
      · have h1 : (if i < k then i else i + 1) < c := by split <;> omega
        have h2 : (if j < k then j else j + 1) < c := by split <;> omega
        have h3 := hi _ _ h1 h2 e
        by_cases c1 : i < k
        · by_cases c2 : j < k
          · rw [if_pos c1, if_pos c2] at h3; exact h3
          · rw [if_pos c1, if_neg c2] at h3; omega
        · by_cases c2 : j < k
          · rw [if_neg c1, if_pos c2] at h3; omega
          · rw [if_neg c1, if_neg c2] at h3; omega
    · have := ih c f (fun i hi' => ?_) hi
      · omega
      · have h1 := h i hi'
        have h2 : f i ≠ N := fun e => ex ⟨i, hi', e⟩
        omega
/-- the search: Q the sets met, in their order; K i: 10 times the place of the one it came from, and the throw; Dp i: how many steps; t: 10 times the place gone on from, and the next throw; e: layers gone; [B, E): the layer gone on from; below G: not the aim -/
def SQ (a A : Nat) (Q K Dp : Nat → Nat) (c t e B E G : Nat) (s : HS) : Prop :=
  ((s.1 17 1 = nI c ∧ s.1 17 5 = nI e) ∧ (1 ≤ c ∧ c ≤ 1024 ∧ E ≤ c ∧ B ≤ E)) ∧
  (∀ i, i < c → Q i < 1024 ∧ s.1 18 i = nI (Q i) ∧ s.1 19 (Q i) = nI (Q (K i / 10)) ∧ s.1 20 (Q i) = nI (K i % 10)) ∧
  ((∀ i, i < 1024 → s.1 19 i = -1 ∨ ∃ j, j < c ∧ Q j = i) ∧ (∀ i j, i < c → j < c → Q i = Q j → i = j)) ∧
  (Q 0 = A ∧ K 0 = 0 ∧ Dp 0 = 0) ∧
  (∀ i, 0 < i → i < c → K i / 10 < i ∧ nexV (nI (Q (K i / 10))) (nI (K i % 10)) = nI (Q i) ∧ Dp i = Dp (K i / 10) + 1 ∧ K i < t) ∧
  (∀ i j, 0 < i → i < j → j < c → K i < K j) ∧
  (∀ u, u < t → u / 10 < c → ∀ r, r < 1024 → nexV (nI (Q (u / 10))) (nI (u % 10)) = nI r → ∃ j, j < c ∧ Q j = r ∧ (j = 0 ∨ K j ≤ u)) ∧
  (∀ i, i < c → (i < B → Dp i < e) ∧ (B ≤ i → i < E → Dp i = e) ∧ (E ≤ i → Dp i = e + 1)) ∧
  (∀ i, i < G → Q i ≠ a)
theorem SQ.skip (h : SQ a A Q K Dp c t e B E G s) (hn : ∀ r, r < 1024 → nexV (nI (Q (t / 10))) (nI (t % 10)) ≠ nI r) : SQ a A Q K Dp c (t + 1) e B E G s := by
  obtain ⟨h1, h2, h3, h4, h5, h6, h7, h8, h9⟩ := h
  refine ⟨h1, h2, h3, h4, fun i i0 ic => ?_, h6, fun u hu hc r hr er => ?_, h8, h9⟩
  · obtain ⟨g1, g2, g3, g4⟩ := h5 i i0 ic
    exact ⟨g1, g2, g3, by omega⟩
  · by_cases cu : u = t
    · subst cu; exact absurd er (hn r hr)
    · exact h7 u (by omega) hc r hr er
theorem SQ.old (h : SQ a A Q K Dp c t e B E G s) {r : Nat} (hm : ∃ j, j < c ∧ Q j = r) (en : nexV (nI (Q (t / 10))) (nI (t % 10)) = nI r) (hr : r < 1024) : SQ a A Q K Dp c (t + 1) e B E G s := by
  obtain ⟨h1, h2, h3, h4, h5, h6, h7, h8, h9⟩ := h
  refine ⟨h1, h2, h3, h4, fun i i0 ic => ?_, h6, fun u hu hc r2 hr2 er => ?_, h8, h9⟩
  · obtain ⟨g1, g2, g3, g4⟩ := h5 i i0 ic
    exact ⟨g1, g2, g3, by omega⟩
  · by_cases cu : u = t
    · subst cu
      have : r = r2 := nI_i (by omega) (by omega) (en.symm.trans er)
      subst this
      obtain ⟨j, j1, j2⟩ := hm
      refine ⟨j, j1, j2, ?_⟩
      rcases Nat.eq_zero_or_pos j with z | z
      · exact Or.inl z
      · have := (h5 j z j1).2.2.2
        exact Or.inr (by omega)
    · exact h7 u (by omega) hc r2 hr2 er
def ext (f : Nat → Nat) (c v : Nat) (i : Nat) : Nat := if i = c then v else f i
theorem ext_o {f : Nat → Nat} {c v i : Nat} (h : i ≠ c) : ext f c v i = f i := if_neg h
theorem ext_s {f : Nat → Nat} {c v : Nat} : ext f c v c = v := if_pos rfl
theorem SQ.new (h : SQ a A Q K Dp c t e B E G s) (hG : G ≤ E) {r : Nat} (hr : r < 1024) (ht : B ≤ t / 10 ∧ t / 10 < E) (en : nexV (nI (Q (t / 10))) (nI (t % 10)) = nI r) (hx : ∀ j, j < c → Q j ≠ r) (hc : c < 1024)
    (e17 : s2.1 17 1 = nI (c + 1)) (e5 : s2.1 17 5 = s.1 17 5) (e18 : ∀ i, s2.1 18 i = if i = c then nI r else s.1 18 i) (e19 : ∀ i, s2.1 19 i = if i = r then nI (Q (t / 10)) else s.1 19 i) (e20 : ∀ i, s2.1 20 i = if i = r then nI (t % 10) else s.1 20 i) :
    SQ a A (ext Q c r) (ext K c t) (ext Dp c (Dp (t / 10) + 1)) (c + 1) (t + 1) e B E G s2 := by
  obtain ⟨⟨⟨h1, h1b⟩, c1, c2, c3, c4⟩, h2, ⟨h3, h3b⟩, ⟨h4, h4b, h4c⟩, h5, h6, h7, h8, h9⟩ := h
  have hK : ∀ i, i < c → K i / 10 < c := fun i hi => by
    rcases Nat.eq_zero_or_pos i with z | z
    · subst z; rw [h4b]; omega
    · have := (h5 i z hi).1; omega
  refine ⟨⟨⟨e17, e5.trans h1b⟩, by omega, by omega, by omega, c4⟩, fun i hi => ?_, ⟨fun i hi => ?_, fun i j hi hj eij => ?_⟩, ⟨?_, ?_, ?_⟩, fun i i0 hi => ?_, fun i j i0 ij hj => ?_, fun u hu huc r2 hr2 er => ?_, fun i hi => ?_, fun i hi => ?_⟩
  · by_cases ci : i = c
    · subst ci
      rw [ext_s, ext_s, ext_o (by omega), e18, if_pos rfl, e19, if_pos rfl, e20, if_pos rfl]
      exact ⟨hr, rfl, rfl, rfl⟩
    · have ic : i < c := by omega
      obtain ⟨g1, g2, g3, g4⟩ := h2 i ic
      have := hK i ic
      rw [ext_o ci, ext_o ci, ext_o (by omega), e18, if_neg ci, e19, if_neg (hx i ic), e20, if_neg (hx i ic)]
      exact ⟨g1, g2, g3, g4⟩
  · by_cases ci : i = r
    · exact Or.inr ⟨c, by omega, by rw [ext_s]; exact ci.symm⟩
    · rw [e19, if_neg ci]
      rcases h3 i hi with g | ⟨j, j1, j2⟩
      · exact Or.inl g
      · exact Or.inr ⟨j, by omega, by rw [ext_o (by omega)]; exact j2⟩
  · by_cases ci : i = c
    · by_cases cj : j = c
      · omega
      · rw [ci, ext_s, ext_o cj] at eij
        exact absurd eij.symm (hx j (by omega))
    · by_cases cj : j = c
      · rw [cj, ext_s, ext_o ci] at eij
        exact absurd eij (hx i (by omega))
      · rw [ext_o ci, ext_o cj] at eij
        exact h3b i j (by omega) (by omega) eij
  · rw [ext_o (by omega)]; exact h4
  · rw [ext_o (by omega)]; exact h4b
  · rw [ext_o (by omega)]; exact h4c
  · by_cases ci : i = c
    · subst ci
      rw [ext_s, ext_s, ext_s, ext_o (by omega), ext_o (by omega)]
      exact ⟨by omega, en, rfl, by omega⟩
    · obtain ⟨g1, g2, g3, g4⟩ := h5 i i0 (by omega)
      rw [ext_o ci, ext_o (i := i) ci, ext_o (i := i) ci, ext_o (by omega), ext_o (by omega)]
      exact ⟨g1, g2, g3, by omega⟩
  · rw [ext_o (i := i) (by omega)]
    by_cases cj : j = c
    · rw [cj, ext_s]
      exact (h5 i i0 (by omega)).2.2.2
    · rw [ext_o cj]; exact h6 i j i0 ij (by omega)
  · by_cases cu : u = t
    · subst cu
      rw [ext_o (by omega), en] at er
      have : r = r2 := nI_i (by omega) (by omega) er
      subst this
      exact ⟨c, by omega, ext_s, Or.inr (by rw [ext_s]; omega)⟩
    · rw [ext_o (by omega)] at er
      obtain ⟨j, j1, j2, j3⟩ := h7 u (by omega) (by omega) r2 hr2 er
      refine ⟨j, by omega, by rw [ext_o (by omega)]; exact j2, ?_⟩
      rw [ext_o (by omega)]; exact j3
  · by_cases ci : i = c
    · subst ci
      rw [ext_s]
      have := (h8 (t / 10) (by omega)).2.1 ht.1 ht.2
      exact ⟨fun x => by omega, fun x y => by omega, fun _ => by omega⟩
    · rw [ext_o ci]; exact h8 i (by omega)
  · rw [ext_o (by omega)]; exact h9 i hi
theorem w_meetX (h : SQ a A Q K Dp c t e B E G s) (hG : G ≤ E) {r : Nat} (hr : r < 1024) (ht : B ≤ t / 10 ∧ t / 10 < E) (en : nexV (nI (Q (t / 10))) (nI (t % 10)) = nI r) : Okv (f_X7_meet (nI r) (nI (Q (t / 10))) (nI (t % 10)) s) (fun s2 => ∃ Q' K' Dp' c', SQ a A Q' K' Dp' c' (t + 1) e B E G s2 ∧ frm wFi wl0 s s2 ∧ ∀ i, i < E → Q' i = Q i) := by
  have h' := h
  obtain ⟨⟨⟨h1, h1b⟩, c1, c2, c3, c4⟩, h2, ⟨h3, h3b⟩, -⟩ := h'
  unfold f_X7_meet
  rw [nIt (n := r) (by omega), Int.toNat_natCast, h1, nIt (n := c) (by omega)]
  refine Okv.t (by omega) (Okv.i (fun e => ?_) (fun e => Okv.ret ⟨Q, K, Dp, c, h.old ?_ en hr, frm.rf, fun _ _ => rfl⟩))
  · have e1 : s.1 19 r = -1 := Int32.toInt_inj.mp e
    have hx : ∀ j, j < c → Q j ≠ r := fun j hj ej => by
      have g := (h2 j hj).2.2.1
      rw [ej, e1] at g
      have hq : Q (K j / 10) < 1024 := by
        rcases Nat.eq_zero_or_pos j with z | z
        · subst z; rw [h.2.2.2.1.2.1]; exact (h2 0 (by omega)).1
        · exact (h2 _ (by have := (h.2.2.2.2.1 j z hj).1; omega)).1
      exact m1_nI hq g.symm
    have hc : c < 1024 := by
      have := pigeon 1024 (c + 1) (ext Q c r) (fun i hi => ?_) (fun i j hi hj eij => ?_)
      · omega
      · by_cases ci : i = c
        · rw [ci, ext_s]; exact hr
        · rw [ext_o ci]; exact (h2 i (by omega)).1
      · by_cases ci : i = c
        · by_cases cj : j = c
          · omega
          · rw [ci, ext_s, ext_o cj] at eij; exact absurd eij.symm (hx j (by omega))
        · by_cases cj : j = c
          · rw [cj, ext_s, ext_o ci] at eij; exact absurd eij (hx i (by omega))
          · rw [ext_o ci, ext_o cj] at eij; exact h3b i j (by omega) (by omega) eij
    refine Okv.t (by omega) (Okv.t (by omega) (Okv.bd (Okv.t (by omega) (Okv.bd ?_))))
    have k17 : (hI (hI s 19 r (nI (Q (t / 10)))) 20 r (nI (t % 10))).1 17 1 = nI c := by rw [rI_i (by decide), rI_i (by decide)]; exact h1
    rw [k17, nIt (n := c) (by omega), Int.toNat_natCast]
    refine Okv.t (by omega) (Okv.bd (Okv.bd ?_))
    have k17b : (hI (hI (hI s 19 r (nI (Q (t / 10)))) 20 r (nI (t % 10))) 18 c (nI r)).1 17 1 = nI c := by rw [rI_i (by decide)]; exact k17
    rw [k17b, nI_1 c]
    refine Okv.ret ⟨_, _, _, _, h.new hG hr ht en hx hc rI_s ?_ (fun i => ?_) (fun i => ?_) (fun i => ?_), (((frm.rf.I rfl).I rfl).I rfl).I rfl, fun i hi => ext_o (by omega)⟩
    · rw [rI_k (by decide), rI_i (by decide), rI_i (by decide), rI_i (by decide)]
    · rw [rI_i (by decide)]
      by_cases ci : i = c
      · rw [ci, rI_s, if_pos rfl]
      · rw [rI_k ci, if_neg ci, rI_i (by decide), rI_i (by decide)]
    · rw [rI_i (by decide), rI_i (by decide), rI_i (by decide)]
      by_cases ci : i = r
      · rw [ci, rI_s, if_pos rfl]
      · rw [rI_k ci, if_neg ci]
    · rw [rI_i (by decide), rI_i (by decide)]
      by_cases ci : i = r
      · rw [ci, rI_s, if_pos rfl]
      · rw [rI_k ci, if_neg ci, rI_i (by decide)]
  · rcases h3 r hr with g | g
    · exact absurd (by rw [g]; rfl) e
    · exact g
/-- the throws of a set: none lands, or one does -/
theorem nex_e0 : ∀ q, q < 1024 → ((nI q) &&& (1 : Int32)).toInt = 0 → nexV (nI q) (nI 0) = (nI q) >>> ((1 : Int32) &&& 31) ∧ (∃ r, r < 1024 ∧ (nI q) >>> ((1 : Int32) &&& 31) = nI r) := by
  intro q hq h
  obtain ⟨r, hr, e⟩ := sh1_rg q hq
  refine ⟨?_, r, by omega, e⟩
  unfold nexV
  rw [if_pos h, if_pos (show (nI 0).toInt = 0 from rfl)]
theorem nex_e1 {q y : Nat} (h : ((nI q) &&& (1 : Int32)).toInt = 0) (hy : 0 < y) (hy9 : y ≤ 9) {r : Nat} (hr : r < 1024) : nexV (nI q) (nI y) ≠ nI r := fun e => by
  unfold nexV at e
  rw [if_pos h, nIt (by omega), if_neg (by omega)] at e
  exact m1_nI hr e.symm
theorem nex_o0 {q : Nat} (h : ¬ ((nI q) &&& (1 : Int32)).toInt = 0) {r : Nat} (hr : r < 1024) : nexV (nI q) (nI 0) ≠ nI r := fun e => by
  unfold nexV at e
  rw [if_neg h, if_pos (show (nI 0).toInt = 0 from rfl)] at e
  exact m1_nI hr e.symm
theorem bit_y : ∀ q, q < 1024 → ∀ y, y < 9 → decide ((((nI q) >>> ((1 : Int32) &&& 31)) &&& ((1 : Int32) <<< ((nI (y + 1) - (1 : Int32)) &&& 31))).toInt = 0) = !decide ((((nI q) >>> (nI (y + 1) &&& 31)) &&& (1 : Int32)).toInt = 1) := by decide +kernel
theorem nex_o1 {q y : Nat} (hq : q < 1024) (h : ¬ ((nI q) &&& (1 : Int32)).toInt = 0) (hy : y < 9) : nexV (nI q) (nI (y + 1)) = if (((nI q) >>> ((1 : Int32) &&& 31)) &&& ((1 : Int32) <<< ((nI (y + 1) - (1 : Int32)) &&& 31))).toInt = 0 then ((nI q) >>> ((1 : Int32) &&& 31)) ||| ((1 : Int32) <<< ((nI (y + 1) - (1 : Int32)) &&& 31)) else -1 := by
  unfold nexV
  have hb := bit_y q hq y hy
  rw [if_neg h, nIt (by omega), if_neg (by omega)]
  by_cases c : (((nI q) >>> (nI (y + 1) &&& 31)) &&& (1 : Int32)).toInt = 1
  · rw [if_pos c]
    rw [decide_eq_true c, Bool.not_true, decide_eq_false_iff_not] at hb
    rw [if_neg hb]
  · rw [if_neg c]
    rw [decide_eq_false c, Bool.not_false, decide_eq_true_iff] at hb
    rw [if_pos hb]
/-- gone on from one set -/
def GOX (a A t e B E G : Nat) (s s2 : HS) : Prop := ∃ Q' K' Dp' c', SQ a A Q' K' Dp' c' t e B E G s2 ∧ frm wFi wl0 s s2
theorem w_goX {h0 : Nat} (h : SQ a A Q K Dp c (10 * h0) e B E G s) (hG : G ≤ E) (hB : B ≤ h0 ∧ h0 < E) : Okv (f_X7_goOnFrom (nI (Q h0)) s) (GOX a A (10 * (h0 + 1)) e B E G s) := by
  have hc : h0 < c := by have := h.1.2.2.2.1; omega
  have ha : Q h0 < 1024 := (h.2.1 h0 hc).1
  have d0 : 10 * h0 / 10 = h0 := by omega
  have m0 : 10 * h0 % 10 = 0 := by omega
  unfold f_X7_goOnFrom
  generalize hq : Q h0 = q at ha
  refine Okv.bd (Okv.i (fun c0 => ?_) (fun c0 => ?_))
  · obtain ⟨e0, r, hr, er⟩ := nex_e0 q ha c0
    have hm := w_meetX h hG (r := r) hr (by omega) (by rw [d0, m0, hq, e0, er])
    rw [d0, m0, hq, ← er] at hm
    refine Okv.cv hm (fun s1 h1 => Okv.ret ?_)
    obtain ⟨Q1, K1, D1, c1, g1, g2, g3⟩ := h1
    have hq1 : Q1 h0 = q := (g3 h0 hB.2).trans hq
    have sk : ∀ y, y ≤ 9 → SQ a A Q1 K1 D1 c1 (10 * h0 + 1 + y) e B E G s1 := by
      intro y
      induction y with
      | zero => intro _; exact g1
      | succ y ih =>
        intro hy
        refine (ih (by omega)).skip (fun r hr => ?_)
        rw [show (10 * h0 + 1 + y) / 10 = h0 by omega, show (10 * h0 + 1 + y) % 10 = y + 1 by omega, hq1]
        exact nex_e1 c0 (by omega) (by omega) hr
    exact ⟨Q1, K1, D1, c1, sk 9 (by omega), g2⟩
  · have h1 : SQ a A Q K Dp c (10 * h0 + 1) e B E G s := h.skip (fun r hr => by rw [d0, m0, hq]; exact nex_o0 c0 hr)
    have loop : ∀ (dd y N : Nat) (s1 : HS) (Q1 K1 D1 : Nat → Nat) (c1 : Nat), y + dd = 9 → dd < N → SQ a A Q1 K1 D1 c1 (10 * h0 + (y + 1)) e B E G s1 → Q1 h0 = q → frm wFi wl0 s s1 → Okv (f_X7_goOnFrom_20 N (nI q) ((nI q) >>> ((1 : Int32) &&& 31)) (nI (y + 1)) s1) (GOX a A (10 * (h0 + 1)) e B E G s) := by
      intro dd
      induction dd with
      | zero =>
        intro y N s1 Q1 K1 D1 c1 hy hN g gq gf
        obtain ⟨N, rfl⟩ : ∃ q, N = q + 1 := ⟨N - 1, by omega⟩
        obtain rfl : y = 9 := by omega
        show Okv (b_X7_goOnFrom_20 (f_X7_goOnFrom_20 N) (nI q) _ (nI (9 + 1)) s1) _
        unfold b_X7_goOnFrom_20
        rw [nIt (n := 9 + 1) (by omega)]
        exact Okv.t (by omega) (Okv.ret ⟨Q1, K1, D1, c1, g, gf⟩)
      | succ dd ih =>
        intro y N s1 Q1 K1 D1 c1 hy hN g gq gf
        obtain ⟨N, rfl⟩ : ∃ q, N = q + 1 := ⟨N - 1, by omega⟩
        have dy : (10 * h0 + (y + 1)) / 10 = h0 := by omega
        have my : (10 * h0 + (y + 1)) % 10 = y + 1 := by omega
        have eo := nex_o1 ha c0 (y := y) (by omega)
        show Okv (b_X7_goOnFrom_20 (f_X7_goOnFrom_20 N) (nI q) _ (nI (y + 1)) s1) _
        unfold b_X7_goOnFrom_20 f_X7_goOnFrom_50
        rw [nIt (n := y + 1) (by omega)]
        refine Okv.f (by omega) (Okv.bd (Okv.i (fun cb => ?_) (fun cb => Okv.bd ?_)))
        · rw [if_pos cb] at eo
          obtain ⟨q2, hq2, eq2⟩ := sh1_rg q ha
          have rg := or_rg q2 hq2 y (by omega)
          rw [← eq2] at rg
          obtain ⟨r, hr, er⟩ : ∃ r : Nat, r < 1024 ∧ ((nI q) >>> ((1 : Int32) &&& 31)) ||| ((1 : Int32) <<< ((nI (y + 1) - (1 : Int32)) &&& 31)) = nI r := ⟨_, by omega, nI_tn rg.1 (by omega)⟩
          have hm := w_meetX g hG (r := r) hr (by omega) (by rw [dy, my, gq, eo, er])
          rw [dy, my, gq] at hm
          rw [er]
          refine Okv.cv hm (fun s3 h3 => Okv.bd ?_)
          obtain ⟨Q3, K3, D3, c3, k1, k2, k3⟩ := h3
          rw [nI_1 (y + 1)]
          exact ih (y + 1) N s3 Q3 K3 D3 c3 (by omega) (by omega) k1 ((k3 h0 hB.2).trans gq) (gf.tr k2)
        · rw [if_neg cb] at eo
          rw [nI_1 (y + 1)]
          exact ih (y + 1) N s1 Q1 K1 D1 c1 (by omega) (by omega) (g.skip (fun r hr => by rw [dy, my, gq, eo]; exact fun e9 => m1_nI hr e9.symm)) gq gf
    have := loop 9 0 5000 s Q K Dp c (by omega) (by omega) h1 hq frm.rf
    exact this
end INTOS
/-! into: what the class's search finds -/
section INTOF
variable {σ s s2 : HS} {a A c t e B E G h0 D g : Nat} {Q K Dp : Nat → Nat}
theorem SQ.mono (h : SQ a A Q K Dp c t e B E G s) : ∀ {j i : Nat}, i ≤ j → j < c → Dp i ≤ Dp j := by
  obtain ⟨h1, h2, h3, ⟨h4, h4b, h4c⟩, h5, h6, h7, h8, h9⟩ := h
  intro j
  induction j using Nat.strongRecOn with
  | ind j ih =>
    intro i hi hj
    by_cases ci : i = j
    · subst ci; exact Nat.le_refl _
    rcases Nat.eq_zero_or_pos i with z | z
    · subst z; rw [h4c]; omega
    · obtain ⟨a1, -, a3, -⟩ := h5 i z (by omega)
      obtain ⟨b1, -, b3, -⟩ := h5 j (by omega) hj
      have := h6 i j z (by omega) hj
      have := ih (K j / 10) b1 (i := K i / 10) (by omega) (by omega)
      omega
/-- ways from a set met: the aim is met no later -/
theorem SQ.fwd (h : SQ a A Q K Dp c (10 * h0) D B E G s) (hl : ∀ i, i < c → Dp i < D → i < h0) : ∀ (L i : Nat), i < c → Dp i + L ≤ D → rB a L (Q i) → ∃ j, j < c ∧ Q j = a ∧ Dp j ≤ Dp i + L := by
  intro L
  induction L with
  | zero => intro i hi _ hb; exact ⟨i, hi, hb, Nat.le_refl _⟩
  | succ L ih =>
    intro i hi hd hb
    obtain ⟨y, hy, r, hr, en, hb⟩ := hb
    have hi0 := hl i hi (by omega)
    obtain ⟨j, j1, j2, j3⟩ := h.2.2.2.2.2.2.1 (10 * i + y) (by omega) (by omega) r hr (by rw [show (10 * i + y) / 10 = i by omega, show (10 * i + y) % 10 = y by omega]; exact en)
    have hj : Dp j ≤ Dp i + 1 := by
      rcases Nat.eq_zero_or_pos j with z | z
      · subst z; rw [h.2.2.2.1.2.2]; omega
      · rcases j3 with j3 | j3
        · omega
        · have a3 := (h.2.2.2.2.1 j z j1).2.2.1
          have := h.mono (i := K j / 10) (j := i) (by omega) hi
          omega
    obtain ⟨m, m1, m2, m3⟩ := ih j j1 (by omega) (by rw [j2]; exact hb)
    exact ⟨m, m1, m2, by omega⟩
/-- from the aim back -/
def itK (K : Nat → Nat) (g : Nat) : Nat → Nat
  | 0 => g
  | m + 1 => K (itK K g m) / 10
theorem SQ.itk (h : SQ a A Q K Dp c t e B E G s) (hg : g < c) (hD : Dp g = D) : ∀ m, m ≤ D → itK K g m < c ∧ Dp (itK K g m) + m = D := by
  intro m
  induction m with
  | zero => intro _; exact ⟨hg, hD⟩
  | succ m ih =>
    intro hm
    obtain ⟨i1, i2⟩ := ih (by omega)
    have z : 0 < itK K g m := by
      rcases Nat.eq_zero_or_pos (itK K g m) with z | z
      · rw [z, h.2.2.2.1.2.2] at i2; omega
      · exact z
    obtain ⟨a1, -, a3, -⟩ := h.2.2.2.2.1 _ z i1
    show K (itK K g m) / 10 < c ∧ Dp (K (itK K g m) / 10) + (m + 1) = D
    omega
theorem SQ.itp (h : SQ a A Q K Dp c t e B E G s) (hg : g < c) (hD : Dp g = D) {m : Nat} (hm : m < D) : 0 < itK K g m := by
  have i2 := (h.itk hg hD m (by omega)).2
  rcases Nat.eq_zero_or_pos (itK K g m) with z | z
  · rw [z, h.2.2.2.1.2.2] at i2; omega
  · exact z
/-- who stands before the one on the way doesn't come to the aim in as many steps -/
theorem SQ.lead (h : SQ a A Q K Dp c (10 * h0) D B E G s) (hl : ∀ i, i < c → Dp i < D → i < h0) (hg : g < c) (hD : Dp g = D) (ha : Q g = a) : ∀ (L i : Nat), L ≤ D → i < itK K g L → ¬ rB a L (Q i) := by
  intro L
  induction L with
  | zero =>
    intro i _ hi hb
    have hi' : i < g := hi
    have : i = g := h.2.2.1.2 i g (by omega) hg (Eq.trans hb ha.symm)
    omega
  | succ L ih =>
    intro i hL hi hb
    obtain ⟨y, hy, r, hr, en, hb⟩ := hb
    have z := h.itp hg hD (m := L) (by omega)
    obtain ⟨i1, i2⟩ := h.itk hg hD L (by omega)
    obtain ⟨p1, p2⟩ := h.itk hg hD (L + 1) hL
    have hi2 : i < K (itK K g L) / 10 := hi
    have hp := hl _ p1 (by omega)
    obtain ⟨j, j1, j2, j3⟩ := h.2.2.2.2.2.2.1 (10 * i + y) (by omega) (by omega) r hr (by rw [show (10 * i + y) / 10 = i by omega, show (10 * i + y) % 10 = y by omega]; exact en)
    refine ih j (by omega) ?_ (by rw [j2]; exact hb)
    rcases Nat.lt_or_ge j (itK K g L) with c1 | c1
    · exact c1
    · exfalso
      rcases j3 with j3 | j3
      · omega
      · have : K (itK K g L) ≤ K j := by
          rcases Nat.lt_or_ge (itK K g L) j with c2 | c2
          · exact Nat.le_of_lt (h.2.2.2.2.2.1 _ j z c2 j1)
          · rw [show itK K g L = j by omega]; exact Nat.le_refl _
        omega
/-- the way to the aim: sets, throws -/
def PTH (a D : Nat) (U hs : Nat → Nat) : Prop := dB a D (U 0) ∧ ∀ k, k < D → U k < 1024 ∧ GR a (D - k - 1) (U k) (hs k) ∧ nexV (nI (U k)) (nI (hs k)) = nI (U (k + 1)) ∧ dB a (D - k) (U k)
theorem SQ.rbk (h : SQ a A Q K Dp c t e B E G s) (hg : g < c) (hD : Dp g = D) (ha : Q g = a) : ∀ m, m ≤ D → rB a m (Q (itK K g m)) := by
  intro m
  induction m with
  | zero => intro _; exact ha
  | succ m ih =>
    intro hm
    have z := h.itp hg hD (m := m) (by omega)
    obtain ⟨i1, i2⟩ := h.itk hg hD m (by omega)
    exact ⟨K (itK K g m) % 10, by omega, Q (itK K g m), (h.2.1 _ i1).1, (h.2.2.2.2.1 _ z i1).2.1, ih (by omega)⟩
theorem SQ.dbk (h : SQ a A Q K Dp c (10 * h0) D B E G s) (hl : ∀ i, i < c → Dp i < D → i < h0) (hg : g < c) (hD : Dp g = D) (ha : Q g = a) {m : Nat} (hm : m ≤ D) : dB a m (Q (itK K g m)) := by
  refine ⟨h.rbk hg hD ha m hm, fun k hk hb => ?_⟩
  obtain ⟨i1, i2⟩ := h.itk hg hD m hm
  obtain ⟨j, j1, j2, j3⟩ := h.fwd hl k _ i1 (by omega) hb
  have : j = g := h.2.2.1.2 j g j1 hg (j2.trans ha.symm)
  subst this
  omega
theorem SQ.pth (h : SQ a A Q K Dp c (10 * h0) D B E G s) (hl : ∀ i, i < c → Dp i < D → i < h0) (hg : g < c) (hD : Dp g = D) (ha : Q g = a) : Q (itK K g D) = A ∧ PTH a D (fun k => Q (itK K g (D - k))) (fun k => K (itK K g (D - k - 1)) % 10) := by
  have h00 : itK K g D = 0 := by
    obtain ⟨i1, i2⟩ := h.itk hg hD D (Nat.le_refl _)
    rcases Nat.eq_zero_or_pos (itK K g D) with z | z
    · exact z
    · have := (h.2.2.2.2.1 _ z i1).2.2.1
      omega
  refine ⟨by rw [h00]; exact h.2.2.2.1.1, h.dbk hl hg hD ha (Nat.le_refl _), fun k hk => ?_⟩
  obtain ⟨m, rfl⟩ : ∃ m, D = m + 1 + k := ⟨D - k - 1, by omega⟩
  show Q (itK K g (m + 1 + k - k)) < 1024 ∧ GR a (m + 1 + k - k - 1) (Q (itK K g (m + 1 + k - k))) (K (itK K g (m + 1 + k - k - 1)) % 10) ∧ nexV (nI (Q (itK K g (m + 1 + k - k)))) (nI (K (itK K g (m + 1 + k - k - 1)) % 10)) = nI (Q (itK K g (m + 1 + k - (k + 1)))) ∧ dB a (m + 1 + k - k) (Q (itK K g (m + 1 + k - k)))
  rw [show m + 1 + k - (k + 1) = m by omega, show m + 1 + k - k = m + 1 by omega, show m + 1 - 1 = m by omega]
  have z := h.itp hg hD (m := m) (by omega)
  obtain ⟨i1, i2⟩ := h.itk hg hD m (by omega)
  obtain ⟨p1, p2⟩ := h.itk hg hD (m + 1) (by omega)
  have hn := (h.2.2.2.2.1 _ z i1).2.1
  refine ⟨(h.2.1 _ p1).1, ⟨by omega, ⟨Q (itK K g m), (h.2.1 _ i1).1, hn, h.dbk hl hg hD ha (by omega)⟩, fun y' hy' r hr en hb => ?_⟩, hn, h.dbk hl hg hD ha (by omega)⟩
  have hp : itK K g (m + 1) < h0 := hl _ p1 (by omega)
  have ek : itK K g (m + 1) = K (itK K g m) / 10 := rfl
  obtain ⟨j, j1, j2, j3⟩ := h.2.2.2.2.2.2.1 (10 * itK K g (m + 1) + y') (by omega) (by omega) r hr (by rw [show (10 * itK K g (m + 1) + y') / 10 = itK K g (m + 1) by omega, show (10 * itK K g (m + 1) + y') % 10 = y' by omega]; exact en)
  refine h.lead hl hg hD ha m j (by omega) ?_ (by rw [j2]; exact hb.1)
  rcases Nat.lt_or_ge j (itK K g m) with c1 | c1
  · exact c1
  · exfalso
    rcases j3 with j3 | j3
    · omega
    · have : K (itK K g m) ≤ K j := by
        rcases Nat.lt_or_ge (itK K g m) j with c2 | c2
        · exact Nat.le_of_lt (h.2.2.2.2.2.1 _ j z c2 j1)
        · rw [show itK K g m = j by omega]; exact Nat.le_refl _
      omega
/-- after the search -/
def FNX (a A : Nat) (σ : HS) (r : Int32) (s : HS) : Prop := frm wFi wl0 σ s ∧ ((r = 0 ∧ ∀ k, k ≤ 12 → ¬ rB a k A) ∨ (r = 1 ∧ ∃ D U hs, D ≤ 12 ∧ U 0 = A ∧ PTH a D U hs ∧ s.1 17 5 = nI D ∧ ∀ k, k < D → s.1 21 k = nI (hs k)))
theorem SQ.m19 (h : SQ a A Q K Dp c t e B E G s) {i : Nat} (hi : i < c) : s.1 19 (Q i) ≠ -1 := by
  have hK : K i / 10 < c := by
    rcases Nat.eq_zero_or_pos i with z | z
    · subst z; rw [h.2.2.2.1.2.1]; omega
    · have := (h.2.2.2.2.1 i z hi).1; omega
  rw [(h.2.1 i hi).2.2.1]
  exact m1_nI (h.2.1 _ hK).1
theorem w_find111X (h : SQ a A Q K Dp c (10 * B) D B E B s) (hEc : E = c) (ha : a < 1024) (hf : frm wFi wl0 σ s) (hD : D ≤ 12) (hx : D = 12 ∨ s.1 19 a ≠ -1) : Ok (f_X7_find_111 (nI a) s) (FNX a A σ) := by
  subst hEc
  have hl : ∀ i, i < E → Dp i < D → i < B := fun i hi hd => by
    rcases Nat.lt_or_ge i B with c1 | c1
    · exact c1
    · have := (h.2.2.2.2.2.2.2.1 i hi).2.1 c1 hi; omega
  unfold f_X7_find_111
  rw [nIt (n := a) (by omega), Int.toNat_natCast, h.1.1.2]
  refine Ok.t (by omega) (Ok.i (fun c0 => Ok.ret ⟨hf, Or.inl ⟨rfl, fun k hk hb => ?_⟩⟩) (fun c0 => Ok.bd ?_))
  · have e1 : s.1 19 a = -1 := Int32.toInt_inj.mp c0
    have hD2 : D = 12 := by
      rcases hx with hx | hx
      · exact hx
      · exact absurd e1 hx
    obtain ⟨j, j1, j2, -⟩ := h.fwd hl k 0 (by have := h.1.2.1; omega) (by rw [h.2.2.2.1.2.2]; omega) (by rw [h.2.2.2.1.1]; exact hb)
    have := h.m19 j1
    rw [j2] at this
    exact this e1
  · have e1 : s.1 19 a ≠ -1 := fun e => c0 (by rw [e]; rfl)
    obtain ⟨g, hg, eg⟩ : ∃ j, j < E ∧ Q j = a := by
      rcases h.2.2.1.1 a ha with z | z
      · exact absurd z e1
      · exact z
    have hgB : B ≤ g := by
      rcases Nat.lt_or_ge g B with c1 | c1
      · exact absurd eg (h.2.2.2.2.2.2.2.2 g c1)
      · exact c1
    have hDg : Dp g = D := (h.2.2.2.2.2.2.2.1 g hg).2.1 hgB hg
    obtain ⟨hA, hP⟩ := h.pth hl hg hDg eg
    have loop : ∀ (dd m N : Nat) (y5 : Int32) (s1 : HS), m + dd = D → dd < N → y5.toInt = (dd : Int) - 1 → frm wFi wl0 σ s1 → (∀ j, s1.1 19 j = s.1 19 j) → (∀ j, s1.1 20 j = s.1 20 j) → s1.1 17 5 = nI D → (∀ k, dd ≤ k → k < D → s1.1 21 k = nI (K (itK K g (D - k - 1)) % 10)) → Ok (f_X7_find_134 N (nI (Q (itK K g m))) y5 s1) (FNX a A σ) := by
      intro dd
      induction dd with
      | zero =>
        intro m N y5 s1 hm hN hy hf k19 k20 k5 k21
        obtain ⟨N, rfl⟩ : ∃ q, N = q + 1 := ⟨N - 1, by omega⟩
        show Ok (b_X7_find_134 (f_X7_find_134 N) (nI _) y5 s1) _
        unfold b_X7_find_134
        refine Ok.t (by omega) (Ok.ret ⟨hf, Or.inr ⟨rfl, D, _, _, hD, ?_, hP, k5, fun k hk => k21 k (by omega) hk⟩⟩)
        exact hA
      | succ dd ih =>
        intro m N y5 s1 hm hN hy hf k19 k20 k5 k21
        obtain ⟨N, rfl⟩ : ∃ q, N = q + 1 := ⟨N - 1, by omega⟩
        obtain rfl : y5 = nI dd := Int32.toInt_inj.mp (by rw [nIt (by omega)]; omega)
        obtain ⟨i1, i2⟩ := h.itk hg hDg m (by omega)
        obtain ⟨q1, q2, q3, q4⟩ := h.2.1 _ i1
        show Ok (b_X7_find_134 (f_X7_find_134 N) (nI _) (nI dd) s1) _
        unfold b_X7_find_134
        rw [nIt (n := dd) (by omega), nIt (n := Q (itK K g m)) (by omega), Int.toNat_natCast, Int.toNat_natCast, k20, q4]
        refine Ok.f (by omega) (Ok.t (by omega) (Ok.t (by omega) (Ok.bd (Ok.t (by omega) (Ok.bd (Ok.bd ?_))))))
        rw [rI_i (show (19 : Nat) ≠ 21 by decide), k19, q3]
        refine ih (m + 1) N _ _ (by omega) (by omega) ?_ (hf.I rfl) (fun j => by rw [rI_i (by decide)]; exact k19 j) (fun j => by rw [rI_i (by decide)]; exact k20 j) (by rw [rI_i (by decide)]; exact k5) (fun k hk hkD => ?_)
        · cases dd with
          | zero => rfl
          | succ q => rw [show nI (q + 1) + (-1 : Int32) = nI q by rw [← nI_1 q, Int32.add_assoc]; exact Int32.add_zero _, nIt (by omega)]; omega
        · by_cases ck : k = dd
          · rw [ck, rI_s, show D - dd - 1 = m by omega]
          · rw [rI_k ck]; exact k21 k (by omega) hkD
    have := loop D 0 5000 (nI D - (1 : Int32)) s (by omega) (by omega) ?_ hf (fun _ => rfl) (fun _ => rfl) h.1.1.2 (fun k hk hkD => absurd hkD (by omega))
    · rw [show itK K g 0 = g from rfl, eg] at this
      exact this
    · cases D with
      | zero => rfl
      | succ q => rw [nI_mm (by omega), nIt (by omega)]; omega
theorem w_findX (ha : a < 1024) : ∀ (z e B c : Nat) (Q K Dp : Nat → Nat) (s : HS), e + z = 12 → SQ a A Q K Dp c (10 * B) e B c B s → frm wFi wl0 σ s → ∀ N, z < N → Ok (f_X7_find_51 N (nI a) (nI B) s) (FNX a A σ) := by
  intro z
  induction z with
  | zero =>
    intro e B c Q K Dp s hz h hf N hN
    obtain ⟨N, rfl⟩ : ∃ q, N = q + 1 := ⟨N - 1, by omega⟩
    show Ok (b_X7_find_51 (f_X7_find_51 N) (nI a) (nI B) s) _
    unfold b_X7_find_51
    rw [h.1.1.2, nIt (n := e) (by omega)]
    exact Ok.f (by omega) (w_find111X h rfl ha hf (by omega) (Or.inl (by omega)))
  | succ z ih =>
    intro e B c Q K Dp s hz h hf N hN
    obtain ⟨N, rfl⟩ : ∃ q, N = q + 1 := ⟨N - 1, by omega⟩
    have hcc := h.1.2
    show Ok (b_X7_find_51 (f_X7_find_51 N) (nI a) (nI B) s) _
    unfold b_X7_find_51
    rw [h.1.1.2, nIt (n := e) (by omega), nIt (n := a) (by omega), Int.toNat_natCast]
    refine Ok.t (by omega) (Ok.t (by omega) (Ok.i (fun c0 => Ok.bd ?_) (fun c0 => w_find111X h rfl ha hf (by omega) (Or.inr (fun e => c0 (by rw [e]; rfl))))))
    have e19 : s.1 19 a = -1 := Int32.toInt_inj.mp c0
    rw [h.1.1.1]
    have h0 : SQ a A Q K Dp c (10 * B) e B c c s := ⟨h.1, h.2.1, h.2.2.1, h.2.2.2.1, h.2.2.2.2.1, h.2.2.2.2.2.1, h.2.2.2.2.2.2.1, h.2.2.2.2.2.2.2.1, fun i hi ei => by
      have := h.m19 hi
      rw [ei] at this
      exact this e19⟩
    have lay : ∀ (dd q M : Nat) (Q1 K1 D1 : Nat → Nat) (c1 : Nat) (s1 : HS), q + dd = c → B ≤ q → dd < M → SQ a A Q1 K1 D1 c1 (10 * q) e B c c s1 → frm wFi wl0 σ s1 → Ok (f_X7_find_76 (f_X7_find_51 N) M (nI a) (nI q) (nI c) s1) (FNX a A σ) := by
      intro dd
      induction dd with
      | zero =>
        intro q M Q1 K1 D1 c1 s1 hq hB hM g gf
        obtain ⟨M, rfl⟩ : ∃ q, M = q + 1 := ⟨M - 1, by omega⟩
        obtain rfl : q = c := by omega
        have gc := g.1.2
        show Ok (b_X7_find_76 (f_X7_find_51 N) (f_X7_find_76 (f_X7_find_51 N) M) (nI a) (nI q) (nI q) s1) _
        unfold b_X7_find_76
        rw [nIt (n := q) (by omega), g.1.1.2, nI_1 e]
        refine Ok.f (by omega) (Ok.bd ?_)
        refine ih (e + 1) q c1 Q1 K1 D1 _ (by omega) ?_ (gf.I rfl) N (by omega)
        obtain ⟨⟨⟨g1, g1b⟩, c1', c2, c3, c4⟩, g2, ⟨g3, g3b⟩, g4, g5, g6, g7, g8, g9⟩ := g
        refine ⟨⟨⟨by rw [rI_k (by decide)]; exact g1, rI_s⟩, c1', c2, Nat.le_refl _, c3⟩, fun i hi => ?_, ⟨fun i hi => ?_, g3b⟩, g4, g5, g6, g7, fun i hi => ⟨fun x => ?_, fun x y => ?_, fun x => absurd x (by omega)⟩, g9⟩
        · rw [rI_i (by decide), rI_i (by decide), rI_i (by decide)]; exact g2 i hi
        · rw [rI_i (by decide)]; exact g3 i hi
        · have := g8 i hi
          rcases Nat.lt_or_ge i B with w | w
          · have := this.1 w; omega
          · have := this.2.1 w x; omega
        · exact (g8 i hi).2.2 x
      | succ dd ih2 =>
        intro q M Q1 K1 D1 c1 s1 hq hB hM g gf
        obtain ⟨M, rfl⟩ : ∃ q, M = q + 1 := ⟨M - 1, by omega⟩
        have gc := g.1.2
        have hq1 := g.2.1 q (by omega)
        show Ok (b_X7_find_76 (f_X7_find_51 N) (f_X7_find_76 (f_X7_find_51 N) M) (nI a) (nI q) (nI c) s1) _
        unfold b_X7_find_76
        rw [nIt (n := q) (by omega), nIt (n := c) (by omega), Int.toNat_natCast, hq1.2.1]
        refine Ok.t (by omega) (Ok.t (by omega) (Ok.cv (w_goX g (Nat.le_refl _) ⟨hB, by omega⟩) (fun s2 h2 => Ok.bd ?_)))
        obtain ⟨Q2, K2, D2, c2, k1, k2⟩ := h2
        rw [nI_1 q]
        exact ih2 (q + 1) M Q2 K2 D2 c2 s2 (by omega) (by omega) (by omega) k1 (gf.tr k2)
    exact lay (c - B) B 5000 Q K Dp c s (by omega) (Nat.le_refl _) (by omega) h0 hf
theorem q_findX (hA : A < 1024) (ha : a < 1024) : Ok (f_X7_find (nI A) (nI a) σ) (FNX a A σ) := by
  unfold f_X7_find
  rw [nIt (n := A) (by omega), nIt (n := a) (by omega)]
  refine Ok.f (by omega) (Ok.t (by omega) (Ok.f (by omega) (Ok.t (by omega) ?_)))
  refine Ok.cv (w_fill2 (p := 19) (N := 1024) rfl rfl (by omega)) (fun s1 h1 => Ok.bd ?_)
  have f0 : frm wFi wl0 σ (hI s1 17 1 0) := (h1.1.sub (fun i k h => by
    have : i = 19 := by simpa using h
    subst this; rfl)).I rfl
  have hm : Okv (f_X7_meet (nI A) (nI A) 0 (hI s1 17 1 0)) (fun s2 => s2.1 17 1 = nI 1 ∧ s2.1 18 0 = nI A ∧ s2.1 20 A = 0 ∧ (∀ i, i < 1024 → s2.1 19 i = if i = A then nI A else -1) ∧ frm wFi wl0 σ s2) := by
    unfold f_X7_meet
    have e17 : (hI s1 17 1 0).1 17 1 = 0 := rI_s
    have e19 : (hI s1 17 1 0).1 19 A = -1 := by rw [rI_i (by decide)]; exact h1.2 A hA
    rw [nIt (n := A) (by omega), Int.toNat_natCast, e17, e19]
    refine Okv.t (by omega) (Okv.t rfl (Okv.t (by decide) (Okv.t (by omega) (Okv.bd (Okv.t (by omega) (Okv.bd ?_))))))
    have k17 : (hI (hI (hI s1 17 1 0) 19 A (nI A)) 20 A 0).1 17 1 = 0 := by rw [rI_i (by decide), rI_i (by decide)]; exact e17
    rw [k17]
    refine Okv.t (by decide) (Okv.bd (Okv.bd ?_))
    have k17b : (hI (hI (hI (hI s1 17 1 0) 19 A (nI A)) 20 A 0) 18 (0 : Int32).toInt.toNat (nI A)).1 17 1 = 0 := by rw [rI_i (by decide)]; exact k17
    rw [k17b]
    refine Okv.ret ⟨rI_s, ?_, ?_, fun i hi => ?_, (((f0.I rfl).I rfl).I rfl).I rfl⟩
    · rw [rI_i (by decide)]; exact rI_s
    · rw [rI_i (by decide), rI_i (by decide), rI_s]
    · rw [rI_i (by decide), rI_i (by decide), rI_i (by decide)]
      by_cases ci : i = A
      · rw [ci, rI_s, if_pos rfl]
      · rw [rI_k ci, if_neg ci, rI_i (by decide)]; exact h1.2 i hi
  refine Ok.cv hm (fun s3 h3 => Ok.bd ?_)
  obtain ⟨g1, g2, g3, g4, g5⟩ := h3
  have h0 : SQ a A (fun _ => A) (fun _ => 0) (fun _ => 0) 1 (10 * 0) 0 0 1 0 (hI s3 17 5 0) := by
    refine ⟨⟨⟨by rw [rI_k (by decide)]; exact g1, rI_s⟩, by omega, by omega, by omega, by omega⟩, fun i hi => ?_, ⟨fun i hi => ?_, fun i j hi hj _ => by omega⟩, ⟨rfl, rfl, rfl⟩, fun i i0 hi => by omega, fun i j i0 ij hj => by omega, fun u hu => by omega, fun i hi => ⟨fun x => by omega, fun _ _ => rfl, fun x => by omega⟩, fun i hi => by omega⟩
    · obtain rfl : i = 0 := by omega
      rw [rI_i (by decide), rI_i (by decide), rI_i (by decide), g2, g3, g4 A hA, if_pos rfl]
      exact ⟨hA, rfl, rfl, rfl⟩
    · rw [rI_i (by decide), g4 i hi]
      by_cases ci : i = A
      · exact Or.inr ⟨0, by omega, ci.symm⟩
      · rw [if_neg ci]; exact Or.inl rfl
  exact w_findX ha 12 0 0 1 _ _ _ _ (by omega) h0 (g5.I rfl) 5000 (by omega)
end INTOF
/-! into: both sides alike -/
section INTOB
variable {σ s s2 : HS} {n t u sd k nx m T N L p a A : Nat} {ρ : Nat → Int32} {d : DAT} {b : Int} {H G : Nat → Nat → Int32} {tb9 : Nat → Nat} {x y z v : Int32} {g : Nat → Nat}
theorem sumN_cgX {g g2 : Nat → Nat} : ∀ {n : Nat}, (∀ i, i < n → g i = g2 i) → sumN g n = sumN g2 n := by
  intro n
  induction n with
  | zero => intro _; rfl
  | succ n ih =>
    intro h
    show sumN g n + g n = sumN g2 n + g2 n
    rw [ih (fun i hi => h i (by omega)), h n (by omega)]
theorem twoN_iff (c : Nat → Nat) : ∀ N, cntB (fun n => decide (0 < c n)) N ≤ sumN c N ∧ (cntB (fun n => decide (0 < c n)) N < sumN c N ↔ ∃ n, n < N ∧ 1 < c n) := by
  intro N
  induction N with
  | zero => exact ⟨Nat.le_refl 0, fun h => absurd h (Nat.lt_irrefl 0), fun ⟨n, hn, _⟩ => absurd hn (by omega)⟩
  | succ N ih =>
    obtain ⟨i1, i2⟩ := ih
    show (if decide (0 < c N) = true then cntB (fun n => decide (0 < c n)) N + 1 else cntB (fun n => decide (0 < c n)) N) ≤ sumN c N + c N ∧ ((if decide (0 < c N) = true then cntB (fun n => decide (0 < c n)) N + 1 else cntB (fun n => decide (0 < c n)) N) < sumN c N + c N ↔ ∃ n, n < N + 1 ∧ 1 < c n)
    by_cases h0 : 0 < c N
    · rw [if_pos (decide_eq_true h0)]
      refine ⟨by omega, fun h => ?_, fun ⟨n, hn, h1⟩ => ?_⟩
      · by_cases h2 : 1 < c N
        · exact ⟨N, by omega, h2⟩
        · obtain ⟨n, hn, h3⟩ := i2.mp (by omega)
          exact ⟨n, by omega, h3⟩
      · by_cases e : n = N
        · subst e; omega
        · have := i2.mpr ⟨n, by omega, h1⟩; omega
    · rw [if_neg (by rw [decide_eq_true_iff]; exact h0)]
      refine ⟨by omega, fun h => ?_, fun ⟨n, hn, h1⟩ => ?_⟩
      · obtain ⟨n, hn, h3⟩ := i2.mp (by omega)
        exact ⟨n, by omega, h3⟩
      · by_cases e : n = N
        · subst e; omega
        · have := i2.mpr ⟨n, by omega, h1⟩; omega
theorem sumN_pl (f h : Nat → Nat) : ∀ N, sumN (fun n => f n + h n) N = sumN f N + sumN h N := by
  intro N
  induction N with
  | zero => rfl
  | succ N ih =>
    show sumN (fun n => f n + h n) N + (f N + h N) = sumN f N + f N + (sumN h N + h N)
    omega
theorem sum_one : ∀ q, q < 10 → sumN (fun n => if decide (q = n) = true then 1 else 0) 10 = 1 := by decide
theorem sum_no : ∀ N, sumN (fun _ => 0) N = 0 := by
  intro N
  induction N with
  | zero => rfl
  | succ N ih => exact ih
theorem sumLn : ∀ N, (∀ e, e < N → (ρ e).toInt = 0 → 0 ≤ (ρ (7 + e)).toInt ∧ (ρ (7 + e)).toInt ≤ 9) → sumN (fun q => cntB (lnR ρ (q : Nat)) N) 10 = cntB (upR ρ) N := by
  intro N
  induction N with
  | zero => intro _; exact sum_no 10
  | succ N ih =>
    intro hr
    have e1 : sumN (fun q => cntB (lnR ρ (q : Nat)) (N + 1)) 10 = sumN (fun q => cntB (lnR ρ (q : Nat)) N + (if lnR ρ (q : Nat) N = true then 1 else 0)) 10 := sumN_cgX (fun q hq => by
      show (if lnR ρ (q : Nat) N = true then cntB (lnR ρ (q : Nat)) N + 1 else cntB (lnR ρ (q : Nat)) N) = cntB (lnR ρ (q : Nat)) N + (if lnR ρ (q : Nat) N = true then 1 else 0)
      split <;> rfl)
    rw [e1, sumN_pl, ih (fun e he => hr e (by omega))]
    show cntB (upR ρ) N + _ = (if upR ρ N = true then cntB (upR ρ) N + 1 else cntB (upR ρ) N)
    by_cases c : (ρ N).toInt = 0
    · have := hr N (by omega) c
      obtain ⟨q0, hq0, eq0⟩ : ∃ q0 : Nat, q0 < 10 ∧ (ρ (7 + N)).toInt = (q0 : Int) := ⟨(ρ (7 + N)).toInt.toNat, by omega, by omega⟩
      have e2 : sumN (fun q => if lnR ρ (q : Nat) N = true then 1 else 0) 10 = sumN (fun n => if decide (q0 = n) = true then 1 else 0) 10 := sumN_cgX (fun q hq => by
        have : lnR ρ (q : Nat) N = decide (q0 = q) := by
          unfold lnR
          rw [eq0, decide_eq_true c, Bool.true_and, decide_eq_decide]
          omega
        rw [this])
      rw [e2, sum_one q0 hq0, show upR ρ N = true from decide_eq_true c, if_pos rfl]
    · have e2 : sumN (fun q => if lnR ρ (q : Nat) N = true then 1 else 0) 10 = sumN (fun _ => 0) 10 := sumN_cgX (fun q hq => by
        have : lnR ρ (q : Nat) N = false := by
          unfold lnR
          rw [decide_eq_false c, Bool.false_and]
        rw [this, if_neg (by decide)])
      rw [e2, sum_no, show upR ρ N = false from decide_eq_false c, if_neg (by decide), Nat.add_zero]
/-- two land in one beat -/
def TWS (d : DAT) (ρ : Nat → Int32) : Prop := ∃ q : Nat, q < 10 ∧ 1 < cntB (lnR ρ (q : Nat)) d.1.1.1
theorem e_twoX (h : RELx n d t u sd ρ k nx H m tb9 G σ) : Ok (f_X0_twoLandAlike 56 σ) (fun r s => s = σ ∧ (r.toInt = 0 ↔ ¬ TWS d ρ)) := by
  have hT := h.tc.T7
  have hs := sumLn (ρ := ρ) d.1.1.1 (fun e he h0 => (h.rw.1 e he).2 h0)
  have h2 := (twoN_iff (fun q => cntB (lnR ρ (q : Nat)) d.1.1.1) 10).2
  rw [hs] at h2
  have ec : pcI (lanS d ρ) = nI (cntB (lanP ρ d.1.1.1) 10) := by unfold lanS; exact pcI_cnt (by omega)
  have c1 : cntB (lanP ρ d.1.1.1) 10 ≤ 10 := cntB_le
  have c2 : cntB (upR ρ) d.1.1.1 ≤ d.1.1.1 := cntB_le
  unfold f_X0_twoLandAlike
  refine Ok.cle (e_landBits h) (Ok.cle e_bitCount (Ok.cle (e_howManyUp h.ar.1 hT) ?_))
  rw [ec, h.ar.cntUp, nIt (n := cntB (lanP ρ d.1.1.1) 10) (by omega), nIt (n := cntB (upR ρ) d.1.1.1) (by omega)]
  refine Ok.i (fun c => Ok.ret ⟨rfl, fun e => absurd e (by decide), fun e => absurd (h2.mp (by show cntB (lanP ρ d.1.1.1) 10 < _; omega)) e⟩) (fun c => Ok.ret ⟨rfl, fun _ e => ?_, fun _ => rfl⟩)
  have h3 : cntB (lanP ρ d.1.1.1) 10 < cntB (upR ρ) d.1.1.1 := h2.mpr e
  omega
theorem w_soonX (hM : TM sd d s) (hR : RRm ρ s) : Ok (f_X12_areTwoSoon s) (fun r s2 => s2 = s ∧ (r.toInt = 0 ↔ ¬ TWS d ρ)) := by
  have hT := hM.T7
  have loop : ∀ (dd q N : Nat), q + dd = 10 → dd < N → (∀ q', q' < q → ¬ 1 < cntB (lnR ρ (q' : Nat)) d.1.1.1) → Ok (f_X12_areTwoSoon_2 N (nI q) s) (fun r s2 => s2 = s ∧ (r.toInt = 0 ↔ ¬ TWS d ρ)) := by
    intro dd
    induction dd with
    | zero =>
      intro q N hq hN hn
      obtain ⟨N, rfl⟩ : ∃ q, N = q + 1 := ⟨N - 1, by omega⟩
      show Ok (b_X12_areTwoSoon_2 (f_X12_areTwoSoon_2 N) (nI q) s) _
      unfold b_X12_areTwoSoon_2
      rw [nIt (n := q) (by omega)]
      exact Ok.f (by omega) (Ok.ret ⟨rfl, fun _ ⟨q', h1, h2⟩ => hn q' (by omega) h2, fun _ => rfl⟩)
    | succ dd ih =>
      intro q N hq hN hn
      obtain ⟨N, rfl⟩ : ∃ q, N = q + 1 := ⟨N - 1, by omega⟩
      have e1 : cntB (lnR (s.1 267) ((nI q).toInt)) d.1.1.1 = cntB (lnR ρ (q : Nat)) d.1.1.1 := by
        rw [nIt (by omega)]
        exact cntB_cg (fun e he => hR.ln (by omega))
      have c2 : cntB (lnR ρ (q : Nat)) d.1.1.1 ≤ d.1.1.1 := cntB_le
      show Ok (b_X12_areTwoSoon_2 (f_X12_areTwoSoon_2 N) (nI q) s) _
      unfold b_X12_areTwoSoon_2
      refine Ok.t (by rw [nIt (by omega)]; omega) (Ok.cle (e_landsAt hM.lv) ?_)
      rw [e1, nIt (n := cntB (lnR ρ (q : Nat)) d.1.1.1) (by omega)]
      refine Ok.i (fun c => Ok.ret ⟨rfl, fun e => absurd e (by decide), fun e => absurd ⟨q, by omega, by omega⟩ e⟩) (fun c => Ok.bd ?_)
      rw [nI_1 q]
      refine ih (q + 1) N (by omega) (by omega) (fun q' hq' => ?_)
      by_cases e : q' = q
      · subst e; omega
      · exact hn q' (by omega)
  unfold f_X12_areTwoSoon
  rw [nI0]
  exact loop 10 0 5000 (by omega) (by omega) (fun q' h => absurd h (by omega))
/-! the aim -/
def aimV (g : Nat → Nat) (L : Nat) : Nat → Nat → Int32 → Int32
  | 0, _, y => y
  | dd + 1, q, y => aimV g L dd (q + 1) (if (nI (g ((9 * L - q) % L)) - nI q).toInt < 0 then y else y ||| ((1 : Int32) <<< ((nI (g ((9 * L - q) % L)) - nI q) &&& 31)))
theorem fl_z : ∀ L, L < 16 → 0 < L → ∀ q, q < 10 → flV (-(nI q)) (nI L) = nI ((9 * L - q) % L) := by decide +kernel
theorem or_z : ∀ q, q < 1024 → ∀ z, z < 9 → (0 ≤ ((nI q) ||| ((1 : Int32) <<< (nI z &&& 31))).toInt ∧ ((nI q) ||| ((1 : Int32) <<< (nI z &&& 31))).toInt < 1024) := by decide +kernel
theorem aim_rg (hg : ∀ i, i < L → g i ≤ 9) (hL : 1 ≤ L) : ∀ (dd q w : Nat), 1 ≤ q → q + dd ≤ 10 → w < 1024 → ∃ a, a < 1024 ∧ aimV g L dd q (nI w) = nI a := by
  intro dd
  induction dd with
  | zero => intro q w _ _ hw; exact ⟨w, hw, rfl⟩
  | succ dd ih =>
    intro q w h1 hq hw
    have hm := Nat.mod_lt (9 * L - q) (show 0 < L by omega)
    have g9 := hg _ hm
    show ∃ a, a < 1024 ∧ aimV g L dd (q + 1) (if (nI (g ((9 * L - q) % L)) - nI q).toInt < 0 then nI w else nI w ||| ((1 : Int32) <<< ((nI (g ((9 * L - q) % L)) - nI q) &&& 31))) = nI a
    by_cases c : (nI (g ((9 * L - q) % L)) - nI q).toInt < 0
    · rw [if_pos c]; exact ih (q + 1) w (by omega) (by omega) hw
    · rw [if_neg c]
      have hle : q ≤ g ((9 * L - q) % L) := by
        rcases Nat.lt_or_ge (g ((9 * L - q) % L)) q with w1 | w1
        · exfalso
          apply c
          rw [i32_sub (by rw [nIt (by omega), nIt (by omega)]; omega), nIt (by omega), nIt (by omega)]
          omega
        · exact w1
      rw [nI_sub hle (by omega)]
      have rg := or_z w hw (g ((9 * L - q) % L) - q) (by omega)
      rw [nI_tn rg.1 (by omega)]
      exact ih (q + 1) _ (by omega) (by omega) (by omega)
theorem w_land3X (hh : HC p L g σ) (hL : L ≤ 8) : f_X3_landingBits p (nI L) σ = some (aimV g L 9 1 0, σ) := by
  obtain ⟨h1, h2, h3, h4⟩ := hh
  have loop : ∀ (dd q N : Nat) (y : Int32), q + dd = 10 → dd < N → Ok (f_X3_landingBits_4 p N (nI L) y (nI q) σ) (fun r s => r = aimV g L dd q y ∧ s = σ) := by
    intro dd
    induction dd with
    | zero =>
      intro q N y hq hN
      obtain ⟨N, rfl⟩ : ∃ q, N = q + 1 := ⟨N - 1, by omega⟩
      show Ok (b_X3_landingBits_4 p (f_X3_landingBits_4 p N) (nI L) y (nI q) σ) _
      unfold b_X3_landingBits_4
      rw [nIt (n := q) (by omega)]
      exact Ok.t (by omega) (Ok.ret ⟨rfl, rfl⟩)
    | succ dd ih =>
      intro q N y hq hN
      obtain ⟨N, rfl⟩ : ∃ q, N = q + 1 := ⟨N - 1, by omega⟩
      have hm := Nat.mod_lt (9 * L - q) (show 0 < L by omega)
      show Ok (b_X3_landingBits_4 p (f_X3_landingBits_4 p N) (nI L) y (nI q) σ) (fun r s => r = aimV g L dd (q + 1) (if (nI (g ((9 * L - q) % L)) - nI q).toInt < 0 then y else y ||| ((1 : Int32) <<< ((nI (g ((9 * L - q) % L)) - nI q) &&& 31))) ∧ s = σ)
      unfold b_X3_landingBits_4 f_X3_landingBits_38
      rw [nIt (n := q) (by omega), nIt (n := L) (by omega)]
      refine Ok.f (by omega) (Ok.t (by omega) (Ok.cle (e_flV (by rw [nIt (by omega)]; omega)) ?_))
      rw [fl_z L (by omega) (by omega) q (by omega), nIt (n := (9 * L - q) % L) (by omega), Int.toNat_natCast, (h1 _ hm).1]
      refine Ok.t (by omega) (Ok.bd (Ok.i (fun c => Ok.bd ?_) (fun c => Ok.bd (Ok.bd ?_))))
      · rw [if_pos c, nI_1 q]; exact ih (q + 1) N _ (by omega) (by omega)
      · rw [if_neg c, nI_1 q]; exact ih (q + 1) N _ (by omega) (by omega)
  obtain ⟨r, s, e, rfl, rfl⟩ := loop 9 1 5000 0 (by omega) (by omega)
  exact e
theorem w_aimX (hM : TM sd d σ) (hD : DOK d) (hp : p < d.1.2.1) : f_X12_aimOf (nI p) σ = some (aimV (gP d p) (LnP d p) 9 1 0, σ) := by
  have hl := hM.lp hp
  have loop : ∀ (dd q N : Nat) (y : Int32), q + dd = 10 → dd < N → Ok (f_X12_aimOf_4 N (nI p) y (nI q) σ) (fun r s => r = aimV (gP d p) (LnP d p) dd q y ∧ s = σ) := by
    intro dd
    induction dd with
    | zero =>
      intro q N y hq hN
      obtain ⟨N, rfl⟩ : ∃ q, N = q + 1 := ⟨N - 1, by omega⟩
      show Ok (b_X12_aimOf_4 (f_X12_aimOf_4 N) (nI p) y (nI q) σ) _
      unfold b_X12_aimOf_4
      rw [nIt (n := q) (by omega)]
      exact Ok.t (by omega) (Ok.ret ⟨rfl, rfl⟩)
    | succ dd ih =>
      intro q N y hq hN
      obtain ⟨N, rfl⟩ : ∃ q, N = q + 1 := ⟨N - 1, by omega⟩
      have eL : d.1.2.2.1 p = LnP d p := rfl
      show Ok (b_X12_aimOf_4 (f_X12_aimOf_4 N) (nI p) y (nI q) σ) (fun r s => r = aimV (gP d p) (LnP d p) dd (q + 1) (if (nI (gP d p ((9 * LnP d p - q) % LnP d p)) - nI q).toInt < 0 then y else y ||| ((1 : Int32) <<< ((nI (gP d p ((9 * LnP d p - q) % LnP d p)) - nI q) &&& 31))) ∧ s = σ)
      unfold b_X12_aimOf_4 f_X12_aimOf_51
      rw [nIt (n := q) (by omega)]
      refine Ok.f (by omega) (Ok.cle (e_lengthOf hM hp) (Ok.cle (e_lengthOf hM hp) ?_))
      rw [eL, nIt (n := LnP d p) (by omega), aim_z _ (by omega) (by omega) q (by omega)]
      have hm := Nat.mod_lt (9 * LnP d p - q) (show 0 < LnP d p by omega)
      refine Ok.f (by omega) (Ok.bd (Ok.cle (e_hAt hM hD hp (by omega)) (Ok.bd ?_)))
      rw [Nat.mod_mod]
      refine Ok.i (fun c => Ok.bd ?_) (fun c => Ok.bd (Ok.bd ?_))
      · rw [if_pos c, nI_1 q]; exact ih (q + 1) N _ (by omega) (by omega)
      · rw [if_neg c, nI_1 q]; exact ih (q + 1) N _ (by omega) (by omega)
  obtain ⟨r, s, e, rfl, rfl⟩ := loop 9 1 5000 0 (by omega) (by omega)
  exact e
/-! the answer -/
def nonV (y : Int32) : Int32 := if y.toInt = -1 then -2 else -3
def INS (W : Prop) (A a : Nat) (y r : Int32) : Prop := ((W ∨ ∀ k, k ≤ 12 → ¬ rB a k A) ∧ r = nonV y) ∨ (¬ W ∧ ∃ D U hs, D ≤ 12 ∧ U 0 = A ∧ PTH a D U hs ∧ r = (if y.toInt = -1 then nI D else if y.toInt < (D : Int) then nI (hs y.toInt.toNat) else -1))
def lanN (d : DAT) (ρ : Nat → Int32) : Nat := bsN (lanP ρ d.1.1.1) 10
theorem lanN_e : lanS d ρ = nI (lanN d ρ) := by unfold lanS lanN; exact bset_N (by omega)
theorem lanN_lt : lanN d ρ < 1024 := bsN_lt (n := 10)
theorem in_np (hp : p < d.1.2.1) (hP : d.1.2.1 ≤ 5) : 0 ≤ (nI p).toInt ∧ (nI p).toInt < (d.1.2.1 : Int) := by rw [nIt (by omega)]; omega
theorem c_into0 (h : RELx n d t u sd ρ k nx H m tb9 G σ) (c : ¬ (0 ≤ x.toInt ∧ x.toInt < d.1.2.1)) : Ok (f_X11_into x y σ) (fun r s => r = -1 ∧ frm wQ wl0 σ s) := by
  have hP := h.tc.2.1.2.1
  unfold f_X11_into
  exact Ok.t (tk0 h) (Ok.cle (e_hasPattern (by rw [h.t0]; exact h.tc.2.1.1) hP) (Ok.t (if10.mpr c) (Ok.ret ⟨rfl, frm.rf⟩)))
theorem c_into1 (h : RELx n d t u sd ρ k nx H m tb9 G σ) (hp : p < d.1.2.1) (h1 : y.toInt < -1 ∨ ¬ clS (gP d p) (LnP d p) = true) : Ok (f_X11_into (nI p) y σ) (fun r s => r = -1 ∧ frm wQ wl0 σ s) := by
  have hP := h.tc.2.1.2.1
  have hc := h.tc.hc h.tk h.ok hp
  have hL := (h.tc.2.1.2.2 p hp).2.1
  unfold f_X11_into
  refine Ok.t (tk0 h) (Ok.cle (e_hasPattern (by rw [h.t0]; exact h.tc.2.1.1) hP) (Ok.f (fun e => if10.mp e (in_np hp hP)) (Ok.i (fun _ => Ok.ret ⟨rfl, frm.rf⟩) (fun cy => ?_))))
  rw [h.t0, nIt (n := p) (by omega), Int.toNat_natCast, (h.tc.2.1.2.2 p hp).1]
  refine Ok.t h.tk (Ok.t (by omega) (Ok.t h.tk (Ok.t (by omega) (Ok.bd (Ok.cle (e_close hc) (Ok.t (if10.mpr ?_) (Ok.ret ⟨rfl, frm.rf⟩)))))))
  rcases h1 with h1 | h1
  · exact absurd h1 cy
  · exact h1
theorem c_into2 (h : RELx n d t u sd ρ k nx H m tb9 G σ) (hp : p < d.1.2.1) (cy : ¬ y.toInt < -1) (cl : clS (gP d p) (LnP d p) = true) (ha : a < 1024) (ea : aimV (gP d p) (LnP d p) 9 1 0 = nI a) : Ok (f_X11_into (nI p) y σ) (fun r s => INS (TWS d ρ) (lanN d ρ) a y r ∧ frm wQ wl0 σ s) := by
  have hP := h.tc.2.1.2.1
  have hc := h.tc.hc h.tk h.ok hp
  have hL := (h.tc.2.1.2.2 p hp).2.1
  have hA : lanN d ρ < 1024 := lanN_lt
  have h87 : ∀ s, frm wQ wl0 σ s → (TWS d ρ ∨ ∀ k, k ≤ 12 → ¬ rB a k (lanN d ρ)) → Ok (f_X11_into_87 y s) (fun r s => INS (TWS d ρ) (lanN d ρ) a y r ∧ frm wQ wl0 σ s) := fun s hs hn => by
    unfold f_X11_into_87 f_X11_into_88
    exact Ok.t rfl (Ok.i (fun c => Ok.ret ⟨Or.inl ⟨hn, by unfold nonV; rw [if_pos c]⟩, hs⟩) (fun c => Ok.ret ⟨Or.inl ⟨hn, by unfold nonV; rw [if_neg c]⟩, hs⟩))
  unfold f_X11_into
  refine Ok.t (tk0 h) (Ok.cle (e_hasPattern (by rw [h.t0]; exact h.tc.2.1.1) hP) (Ok.f (fun e => if10.mp e (in_np hp hP)) (Ok.f cy ?_)))
  rw [h.t0, nIt (n := p) (by omega), Int.toNat_natCast, (h.tc.2.1.2.2 p hp).1]
  refine Ok.t h.tk (Ok.t (by omega) (Ok.t h.tk (Ok.t (by omega) (Ok.bd (Ok.cle (e_close hc) (Ok.f (fun e => if10.mp e cl) (Ok.cl (e_twoX h) (fun r s hs => ?_))))))))
  obtain ⟨rfl, hr⟩ := hs
  refine Ok.i (fun c0 => ?_) (fun c0 => h87 s frm.rf (Or.inl ?_))
  · have nW := hr.mp c0
    have ea' : aimV (gP d p) (d.1.2.2.1 p) 9 1 0 = nI a := ea
    refine Ok.cle (e_landBits h) (Ok.cle (w_land3X hc hL.2) ?_)
    rw [lanN_e, ea']
    refine Ok.cl (q_findX hA ha) (fun r3 s3 hs3 => ?_)
    obtain ⟨f3, g3⟩ := hs3
    have f3 := f3.sub fi_wQ
    rcases g3 with ⟨rfl, hn⟩ | ⟨rfl, D, U, hs, hD, hU, hPT, k5, k21⟩
    · exact Ok.t rfl (h87 s3 f3 (Or.inr hn))
    · refine Ok.f (by decide) ?_
      unfold f_X11_into_88
      rw [k5, nIt (n := D) (by omega)]
      refine Ok.f (by decide) (Ok.i (fun c => Ok.ret ⟨Or.inr ⟨nW, D, U, hs, hD, hU, hPT, by rw [if_pos c]⟩, f3⟩) (fun c => Ok.i (fun c2 => Ok.t (by omega) (Ok.ret ⟨Or.inr ⟨nW, D, U, hs, hD, hU, hPT, ?_⟩, f3⟩)) (fun c2 => Ok.ret ⟨Or.inr ⟨nW, D, U, hs, hD, hU, hPT, by rw [if_neg c, if_neg c2]⟩, f3⟩)))
      rw [if_neg c, if_pos c2]
      exact k21 _ (by omega)
  · rcases Classical.em (TWS d ρ) with w | w
    · exact w
    · exact absurd (hr.mpr w) c0
theorem m_into0 (h : RELx n d t u sd ρ k nx H m tb9 G σ) (c : ¬ (0 ≤ x.toInt ∧ x.toInt < d.1.2.1)) : Ok (f_X12_into x y σ) (fun r s => r = -1 ∧ frm wQ wl0 σ s) := by
  have hP := h.tc.2.1.2.1
  unfold f_X12_into
  exact Ok.cle (e_isPattern h.tm.lv h.tm.2.2.2.1.1 hP) (Ok.t (if10.mpr c) (Ok.ret ⟨rfl, frm.rf⟩))
theorem kep_neg (h : RELx n d t u sd ρ k nx H m tb9 G σ) (hp : p < d.1.2.1) : (kepS (gP d p) (LnP d p)).toInt < 0 ↔ ¬ clS (gP d p) (LnP d p) = true := by
  have hl := h.tm.lp hp
  rcases kep_rg (g := gP d p) (L := LnP d p) (fun i hi => (gP_of h.ok hp hi).2) (by omega) with ⟨k1, k2⟩ | ⟨k1, k2, k3⟩
  · rw [k1, k2]; exact ⟨fun _ => by decide, fun _ => by decide⟩
  · rw [k1, k2, nIt (by omega)]
    exact ⟨fun c => absurd c (Int.not_lt.mpr (Int.natCast_nonneg _)), fun c => absurd rfl c⟩
theorem m_into1 (h : RELx n d t u sd ρ k nx H m tb9 G σ) (hp : p < d.1.2.1) (h1 : y.toInt < -1 ∨ ¬ clS (gP d p) (LnP d p) = true) : Ok (f_X12_into (nI p) y σ) (fun r s => r = -1 ∧ frm wQ wl0 σ s) := by
  have hP := h.tc.2.1.2.1
  unfold f_X12_into
  refine Ok.cle (e_isPattern h.tm.lv h.tm.2.2.2.1.1 hP) (Ok.f (fun e => if10.mp e (in_np hp hP)) (Ok.cl (w_keepsOf h.tm h.ok hp) (fun r3 s3 h3 => ?_)))
  have f3 : frm wQ wl0 σ s3 := h3.2.2.sub tp_wQ
  rw [h3.1]
  refine Ok.i (fun _ => Ok.ret ⟨rfl, f3⟩) (fun ck => Ok.t ?_ (Ok.ret ⟨rfl, f3⟩))
  rcases h1 with h1 | h1
  · exact h1
  · exact absurd ((kep_neg h hp).mpr h1) ck
theorem m_into2 (h : RELx n d t u sd ρ k nx H m tb9 G σ) (hp : p < d.1.2.1) (cy : ¬ y.toInt < -1) (cl : clS (gP d p) (LnP d p) = true) (ha : a < 1024) (ea : aimV (gP d p) (LnP d p) 9 1 0 = nI a) (hv : INS (TWS d ρ) (lanN d ρ) a y v) : Ok (f_X12_into (nI p) y σ) (fun r s => r = v ∧ frm wQ wl0 σ s) := by
  have hP := h.tc.2.1.2.1
  have hA : lanN d ρ < 1024 := lanN_lt
  unfold f_X12_into
  refine Ok.cle (e_isPattern h.tm.lv h.tm.2.2.2.1.1 hP) (Ok.f (fun e => if10.mp e (in_np hp hP)) (Ok.cl (w_keepsOf h.tm h.ok hp) (fun r3 s3 h3 => ?_)))
  have f3 : frm wQ wl0 σ s3 := h3.2.2.sub tp_wQ
  rw [h3.1]
  refine Ok.f (fun c => (kep_neg h hp).mp c cl) (Ok.f cy (Ok.cl (w_landsM (h.fr f3)) (fun r5 s5 h5 => ?_)))
  obtain ⟨e5, R5, g5⟩ := h5
  have f5 : frm wQ wl0 σ s5 := f3.tr (g5.sub cp_wQ)
  have h5 := h.fr f5
  refine Ok.cle (w_aimX h5.tm h5.ok hp) ?_
  rw [ea, e5, lanN_e]
  refine Ok.cv (w_fillsX ha) (fun s9 h9 => ?_)
  obtain ⟨F9, g9⟩ := h9
  have f9 : frm wQ wl0 σ s9 := f5.tr (g9.sub w270_Q)
  have R9 : RRm ρ s9 := fun i hi => by rw [g9.1 267 i rfl]; exact R5 i hi
  refine Ok.cl (w_soonX (h.fr f9).tm R9) (fun r11 s11 h11 => ?_)
  obtain ⟨rfl, hr⟩ := h11
  have h55 : v = nonV y → Ok (f_X12_into_55 y s11) (fun r s => r = v ∧ frm wQ wl0 σ s) := fun ev => by
    subst ev
    unfold f_X12_into_55
    exact Ok.i (fun c => Ok.ret ⟨by unfold nonV; rw [if_pos c], f9⟩) (fun c => Ok.ret ⟨by unfold nonV; rw [if_neg c], f9⟩)
  have FA := F9.at hA
  rw [nIt (n := lanN d ρ) (by omega), Int.toNat_natCast]
  rcases hv with ⟨hn, ev⟩ | ⟨nW, D, U, hs, hD, hU, hPT, ev⟩
  · refine Ok.i (fun c0 => Ok.t (by omega) (Ok.t ?_ (h55 ev))) (fun _ => h55 ev)
    rcases hn with hn | hn
    · exact absurd hn (hr.mp c0)
    · rcases FA with g | ⟨w, w1, w2, w3⟩
      · rw [g.1]; rfl
      · exact absurd w3.1 (hn w w1)
  · have eF : s11.1 270 (lanN d ρ) = nI D := FA.far (by rw [← hU]; exact hPT.1) hD
    refine Ok.t (hr.mpr nW) (Ok.t (by omega) ?_)
    rw [eF]
    refine Ok.f (fun c => n99 hD (Int32.toInt_inj.mp c)) (Ok.i (fun c => Ok.t (by omega) (Ok.ret ⟨by rw [ev, if_pos c], f9⟩)) (fun c => Ok.t (by omega) ?_))
    rw [nIt (n := D) (by omega)]
    refine Ok.i (fun c2 => ?_) (fun c2 => Ok.ret ⟨by rw [ev, if_neg c, if_neg c2], f9⟩)
    rw [if_neg c, if_pos c2] at ev
    obtain ⟨X, hX, rfl⟩ : ∃ X : Nat, X < D ∧ y = nI X := ⟨y.toInt.toNat, by omega, nI_tn (by omega) (by omega)⟩
    rw [nIt (by omega), Int.toNat_natCast] at ev
    have loop : ∀ (dd j N : Nat), j + dd = X → dd < N → Ok (f_X12_into_95 N (nI X) (nI (U j)) (nI j) s11) (fun r s => r = v ∧ frm wQ wl0 σ s) := by
      intro dd
      induction dd with
      | zero =>
        intro j N hj hN
        obtain ⟨N, rfl⟩ : ∃ q, N = q + 1 := ⟨N - 1, by omega⟩
        obtain rfl : j = X := by omega
        obtain ⟨p1, p2, p3, p4⟩ := hPT.2 j hX
        rw [show D - j = (D - j - 1) + 1 by omega] at p4
        show Ok (b_X12_into_95 (f_X12_into_95 N) (nI j) (nI (U j)) (nI j) s11) _
        unfold b_X12_into_95
        refine Ok.f (Int.lt_irrefl _) (Ok.cl (w_firstX F9 p1 (by omega) p4) (fun r s hs => ?_))
        obtain ⟨rfl, y', hy', rfl⟩ := hs
        exact Ok.ret ⟨by rw [ev, hy'.uq p2], f9⟩
      | succ dd ih =>
        intro j N hj hN
        obtain ⟨N, rfl⟩ : ∃ q, N = q + 1 := ⟨N - 1, by omega⟩
        obtain ⟨p1, p2, p3, p4⟩ := hPT.2 j (by omega)
        rw [show D - j = (D - j - 1) + 1 by omega] at p4
        show Ok (b_X12_into_95 (f_X12_into_95 N) (nI X) (nI (U j)) (nI j) s11) _
        unfold b_X12_into_95
        refine Ok.t (by rw [nIt (by omega), nIt (by omega)]; omega) (Ok.cl (w_firstX F9 p1 (by omega) p4) (fun r s hs => ?_))
        obtain ⟨rfl, y', hy', rfl⟩ := hs
        have ey := hy'.uq p2
        subst ey
        refine Ok.cle e_nextOf (Ok.bd ?_)
        rw [p3, nI_1 j]
        exact ih (j + 1) N (by omega) (by omega)
    have := loop X 0 5000 (by omega) (by omega)
    rw [hU, nI_0] at this
    exact this
theorem sim_into : SIM n (f_X11_into x y) (f_X12_into x y) := sim_q (fun d t u sd ρ k nx H m tb G σ h => by
  have hP := h.tc.2.1.2.1
  by_cases c : 0 ≤ x.toInt ∧ x.toInt < d.1.2.1
  · obtain ⟨p, hp, rfl⟩ := in_T c (by omega)
    by_cases h1 : y.toInt < -1 ∨ ¬ clS (gP d p) (LnP d p) = true
    · exact ⟨-1, c_into1 h hp h1, fun s hs hf => m_into1 hs hp h1⟩
    · obtain ⟨cy, cl⟩ := not_or.mp h1
      have cl := Classical.not_not.mp cl
      have hl := h.tm.lp hp
      obtain ⟨a, ha, ea⟩ := aim_rg (g := gP d p) (L := LnP d p) (fun i hi => (gP_of h.ok hp hi).2) (by omega) 9 1 0 (by omega) (by omega) (by omega)
      rw [nI_0] at ea
      obtain ⟨r, s, e, hI, hf⟩ := c_into2 h hp cy cl ha ea
      exact ⟨r, ⟨r, s, e, rfl, hf⟩, fun s hs hf => m_into2 hs hp cy cl ha ea hI⟩
  · exact ⟨-1, c_into0 h c, fun s hs hf => m_into0 hs c⟩)
end INTOB
