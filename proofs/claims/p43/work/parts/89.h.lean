/-! read, the relation kept -/
section BRD2
variable {σ s s2 : HS} {n t u sd k nx m T : Nat} {ρ : Nat → Int32} {d : DAT} {b : Int} {H G : Nat → Nat → Int32} {tb9 : Nat → Nat}
/-- the class's read, then the reference's: answers, places and tapes alike; accepted texts alike -/
theorem BYT.read2 {t u sd : Nat} (ht : txk t) (hu : txk u) (htu : t ≠ u) (hsd : sd ≤ 1) (h : BYT σ) (hT : TXr t u σ) (hC : CC σ) (hlv : σ.1 236 18 = nI (1 - sd)) (hK : KEY σ) : ∃ r s s2, f_X11_read σ = some (r, s) ∧ f_X12_read s = some (r, s2) ∧ BYT s2 ∧ s2.1 1 1 = s2.1 236 17 ∧ (∀ a k, 236 ≤ a → s.1 a k = σ.1 a k) ∧ (∀ a k, a < 236 → s2.1 a k = s.1 a k) ∧ s2.2.2 = s.2.2 ∧ (∀ a, wlRc a = false → s.2.1 a = σ.2.1 a) ∧ (∀ a, wlRM a = false → s2.2.1 a = s.2.1 a) ∧ (r ≠ 0 → frm (wRc u) wlRc σ s ∧ frm (wRMr sd) wlRM s s2) ∧ (r = 0 → TXr u t s2 ∧ ACc u s ∧ ACm sd s2 ∧ ∃ d : DAT, TC u d s2 ∧ TM sd d s2 ∧ DOK d) ∧ (∀ a k, (wRc u a k || wBA a k) = false → s.1 a k = σ.1 a k) := by
  obtain ⟨m, hm, h1, h2, hb⟩ := h
  have en : nC σ = m := by unfold nC; rw [h1, nIt (by omega), Int.toNat_natCast]
  have w1 := w_read ht hu hT hC
  rw [en] at w1
  obtain ⟨r, s, er, c1, c2, c3, c4, c5, c6, c7⟩ := w1
  have up : ∀ a k, 236 ≤ a → s.1 a k = σ.1 a k := fun a k ha => c5 a k (wRc_hi hu ha)
  have enT : nT2 s = m := by unfold nT2; rw [up 236 2 (by omega), h2, nIt (by omega), Int.toNat_natCast]
  have w2 := mr_read (σ := s) (sd := sd) hsd (by rw [up 236 18 (by omega)]; exact hlv) (by rw [up 236 2 (by omega), h2, nIt (by omega)]; omega) (fun k hk => by rw [c4 243 rfl]; exact hK k hk)
  rw [enT, ← readS_cg (b := bC σ) (b' := bT s) (n := m) (fun i hi => by
    unfold bC bT
    rw [up 237 i (by omega)]; exact hb i hi)] at w2
  obtain ⟨r', s2, er2, d1, d2, d3, σb, d4, d5, d6, d7⟩ := w2
  have eq : r' = r := Int32.toInt_inj.mp (d4.trans c2.symm)
  subst eq
  have dn : ∀ a k, a < 236 → s2.1 a k = s.1 a k := fun a k ha => d2.1 a k (wRM_lo ha)
  refine ⟨r', s, s2, er, er2, ⟨0, by omega, ?_, ?_, fun i hi => absurd hi (by omega)⟩, ?_, up, dn, d2.2.2, c4, d2.2.1, fun hr => ?_, fun hr => ?_, c5⟩
  · rw [dn 2 1 (by omega)]; exact c1
  · exact d1
  · rw [dn 1 1 (by omega)]
    exact Int32.toInt_inj.mp (c3.trans d5.symm)
  · have : r'.toInt ≠ 0 := fun e => hr (Int32.toInt_inj.mp e)
    exact ⟨c6 this, d3 this⟩
  · have hr : r'.toInt = 0 := by rw [hr]; rfl
    obtain ⟨x1, x2, S, x3, x4, x5, x6, x7, p, x8, x9⟩ := c7 hr
    obtain ⟨y1, y2, S', y3, y4, y5, y6, y7, y8⟩ := d7 hr
    have hi : u + 12 < 56 := by rcases hu with rfl | rfl <;> decide
    have es : S' = S := by rw [x3] at y3; exact (Except.ok.inj y3).symm
    subst es
    refine ⟨by unfold TXr; rw [d2.2.2]; exact x1, x2, y2, S'.2.2.2, ⟨⟨?_, x5.2.1, fun e he => ?_⟩, ⟨?_, x6.2.1, fun p hp => ⟨?_, (x6.2.2 p hp).2.1, fun i hi => ?_⟩⟩, ⟨?_, ?_⟩, ⟨p, x8, fun k hk => ?_⟩⟩, ⟨y2.1, hsd, y5, y6, y7, y8⟩, read_ok (fun t h => vl_rg h) x3 x4⟩
    · rw [dn _ _ (by omega)]; exact x5.1
    · rw [dn _ _ (by omega), dn _ _ (by omega), dn _ _ (by omega)]; exact x5.2.2 e he
    · rw [dn _ _ (by omega)]; exact x6.1
    · rw [dn _ _ (by omega)]; exact (x6.2.2 p hp).1
    · rw [dn _ _ (by have := x6.2.1; omega)]; exact (x6.2.2 p hp).2.2 i hi
    · rw [dn _ _ (by omega)]; exact x7.1
    · rw [dn _ _ (by omega)]; exact x7.2
    · obtain ⟨q, q1, q2, q3⟩ := x9 k hk
      exact ⟨q, by rw [dn _ _ (by omega)]; exact q1, q2, q3.same (fun z _ _ => dn _ _ (by omega))⟩
theorem hf_no {sd a k : Nat} (hsd : sd ≤ 1) (h : ((a = 245 ∨ a = 249 ∨ a = 252 ∨ a = 253) ∧ k = sd) ∨ ((a = 246 ∨ a = 247 ∨ a = 248) ∧ 7 * sd ≤ k ∧ k < 7 * sd + 7) ∨ (a = 250 ∧ 5 * sd ≤ k ∧ k < 5 * sd + 5) ∨ (a = 251 ∧ 40 * sd ≤ k ∧ k < 40 * sd + 40) ∨ ((a = 254 ∨ a = 255) ∧ 4 * sd ≤ k ∧ k < 4 * sd + 4) ∨ ((256 ≤ a ∧ a ≤ 260) ∧ 130 * sd ≤ k ∧ k < 130 * sd + 130) ∨ ((a = 261 ∨ a = 262) ∧ 420 * sd ≤ k ∧ k < 420 * sd + 420)) : wRMr (1 - sd) a k = false := by
  have ha : 245 ≤ a ∧ a ≤ 262 := by omega
  have e1 : wr LC a k = false := by
    unfold wr LC
    rw [if_neg (by omega), if_neg (by omega)]
    simp
    omega
  have e2 : wPm (1 - sd) a k = false := by
    unfold wPm
    simp only [Bool.or_eq_false_iff, Bool.and_eq_false_iff, Bool.or_eq_false_iff, beq_eq_false_iff_ne, decide_eq_false_iff_not, ne_eq]
    rcases (show sd = 0 ∨ sd = 1 by omega) with rfl | rfl
    · refine ⟨⟨⟨⟨⟨⟨⟨⟨?_, ?_⟩, ?_⟩, ?_⟩, ?_⟩, ?_⟩, ?_⟩, ?_⟩, ?_⟩ <;> omega
    · refine ⟨⟨⟨⟨⟨⟨⟨⟨?_, ?_⟩, ?_⟩, ?_⟩, ?_⟩, ?_⟩, ?_⟩, ?_⟩, ?_⟩ <;> omega
  unfold wRMr wRd0
  rw [e1, e2, (beq_eq_false_iff_ne.mpr (show a ≠ 236 by omega)), (beq_eq_false_iff_ne.mpr (show a ≠ 238 by omega))]
  rfl
theorem TM.half {wl : Nat → Bool} (h : TM sd d σ) (hf : frm (wRMr (1 - sd)) wl σ s) : TM sd d s := by
  obtain ⟨h0, h1, h2, h3, h4, p, q, h5, h6, h7⟩ := h
  have e18 : wRMr (1 - sd) 236 18 = false := by unfold wRMr wRd0 wPm wr LC; simp
  refine ⟨by rw [hf.1 _ _ e18]; exact h0, h1, ⟨?_, h2.2.1, fun e he => ?_⟩, ⟨?_, h3.2.1, fun p hp => ⟨?_, (h3.2.2 p hp).2.1, fun i hi => ?_⟩⟩, ⟨?_, ?_⟩, p, q, h5, h6, fun k hk => ?_⟩
  · rw [hf.1 _ _ (hf_no h1 (by omega))]; exact h2.1
  · have := h2.2.1
    rw [hf.1 _ _ (hf_no (a := 246) h1 (by omega)), hf.1 _ _ (hf_no (a := 247) h1 (by omega)), hf.1 _ _ (hf_no (a := 248) h1 (by omega))]; exact h2.2.2 e he
  · rw [hf.1 _ _ (hf_no h1 (by omega))]; exact h3.1
  · have := h3.2.1
    rw [hf.1 _ _ (hf_no h1 (by omega))]; exact (h3.2.2 p hp).1
  · have := h3.2.1
    have := (h3.2.2 p hp).2.1
    rw [hf.1 _ _ (hf_no h1 (by omega))]; exact (h3.2.2 p hp).2.2 i hi
  · rw [hf.1 _ _ (hf_no h1 (by omega))]; exact h4.1
  · rw [hf.1 _ _ (hf_no h1 (by omega))]; exact h4.2
  · exact (h7 k hk).mono (Nat.le_refl _) (Nat.le_refl _) (fun a x y => hf.1 _ _ (hf_no h1 (by omega))) (fun a k x y z => hf.1 _ _ (hf_no h1 (by omega))) (fun a k x y z w => hf.1 _ _ (hf_no h1 (by omega)))
theorem rc_no {u a k : Nat} (hu : txk u) (h : a = 3 ∨ 8 ≤ a ∧ a < 30 ∨ 56 ≤ a) : wRc u a k = false := by
  have hi : u + 12 < 56 ∧ 30 ≤ u := by rcases hu with rfl | rfl <;> decide
  unfold wRc wP wCut
  simp
  omega
theorem rc_tx {t u a k : Nat} (ht : txk t) (hu : txk u) (htu : t ≠ u) (h1 : t ≤ a) (h2 : a ≤ t + 12) : wRc u a k = false := by
  rcases ht with rfl | rfl <;> rcases hu with rfl | rfl
  · exact absurd rfl htu
  · unfold wRc wP wCut; simp; omega
  · unfold wRc wP wCut; simp; omega
  · exact absurd rfl htu
theorem rm_lo {sd a k : Nat} (h : a < 236) : wRMr sd a k = false := by
  unfold wRMr wRd0 wPm wr LC
  rw [if_neg (by omega), if_neg (by omega)]
  simp
  omega
theorem rm_hi {sd a k : Nat} (h : 264 ≤ a) (h2 : a < 1000 ∧ a ≠ 267) : wRMr sd a k = false := by
  unfold wRMr wRd0 wPm wr LC
  rw [if_neg (by omega), if_neg (by omega)]
  simp
  omega
theorem sim_read : SIM n f_X11_read f_X12_read := sim_gen (fun d t u sd ρ k nx H m tb G σ h => by
  obtain ⟨⟨c1, c2, c3, c4⟩, ⟨b1, b2, b3, b4, b5, b6, b7⟩, c5, c6, c7, c8⟩ := h.next
  have hsd : sd ≤ 1 := b6.2.1
  have e1s : 1 - (1 - sd) = sd := by omega
  obtain ⟨r, s, s2, e1, e2, q1, q2, q3, q4, q5, q6, q7, q8, q9, q10⟩ := c1.read2 (sd := 1 - sd) b1 b2 b3 (by omega) b4 c2 (by rw [e1s]; exact b6.1) c3
  refine ⟨r, s, s2, e1, e2, ?_⟩
  have P3 : ∀ k, s2.1 3 k = σ.1 3 k := fun k => by rw [q4 3 k (by omega)]; exact q10 3 k (by rw [rc_no b2 (by omega)]; rfl)
  have tap : TAP s2 := ⟨q1, q1.cc (fun k => by rw [P3 k]; exact c2.2 k), fun i hi => by rw [q7 243 rfl, q6 243 rfl]; exact c3 i hi, q2⟩
  by_cases cr : r = 0
  · obtain ⟨y1, y2, y3, d', y4, y5, y6⟩ := q9 cr
    have hT := y4.T7
    have hP := y4.2.1.2.1
    obtain ⟨z1, z2, z3, z4⟩ := y2
    obtain ⟨a1, a2, a3, a4, a5, a6⟩ := z1
    obtain ⟨g1, g2, g3, g4, g5, g6, g7⟩ := y3
    have hi : u + 12 < 56 ∧ 30 ≤ u := by rcases b2 with rfl | rfl <;> decide
    have su : ∀ i k, i < 236 → s.1 i k = s2.1 i k := fun i k x => (q4 i k x).symm
    have eT : (s2.1 245 (1 - sd)).toInt.toNat = d'.1.1.1 := by rw [y5.2.2.1.1, nItn (by omega)]
    have eP : (s2.1 249 (1 - sd)).toInt.toNat = d'.1.2.1 := by rw [y5.2.2.2.1.1, nItn (by omega)]
    let ρ0 : Nat → Int32 := rowB s2 (1 - sd) d'.1.1.1 d'.1.2.1
    have r28 : ρ0 28 = -1 := rfl
    have r26 : ρ0 26 = if 0 < d'.1.2.1 then 0 else -2 := rfl
    have r7 : ∀ e, e < d'.1.1.1 → ρ0 (7 + e) = s2.1 248 (7 * (1 - sd) + e) := fun e he => by
      show (if 7 + e = 28 then (-1 : Int32) else if 7 + e = 26 then (if 0 < d'.1.2.1 then 0 else -2) else if 7 ≤ 7 + e ∧ 7 + e < 7 + d'.1.1.1 then s2.1 248 (7 * (1 - sd) + (7 + e - 7)) else 0) = _
      rw [if_neg (by omega), if_neg (by omega), if_pos (by omega), show 7 + e - 7 = e by omega]
    have r0 : ∀ i, (i < 7 ∨ 14 ≤ i) → i ≠ 26 → i ≠ 28 → ρ0 i = 0 := fun i h h2 h3 => by
      show (if i = 28 then (-1 : Int32) else if i = 26 then (if 0 < d'.1.2.1 then 0 else -2) else if 7 ≤ i ∧ i < 7 + d'.1.1.1 then s2.1 248 (7 * (1 - sd) + (i - 7)) else 0) = _
      rw [if_neg h3, if_neg h2, if_neg (by omega)]
    have hA : AR 56 d'.1.1.1 ρ0 s2 := by
      refine ⟨?_, fun e he => ⟨?_, ?_, ?_⟩, fun k x y => ?_, ?_, ?_, ?_⟩
      · rw [q4 56 0 (by omega), a1, su u 0 (by omega)]; exact y4.1.1
      · rw [q4 57 e (by omega), (a2 e (by omega)).1, r0 e (by omega) (by omega) (by omega)]
      · rw [q4 58 e (by omega), (a2 e (by omega)).2.1, su (u + 3) e (by omega), r7 e he]
        exact Int32.toInt_inj.mp ((y4.1.2.2 e he).2.2.trans (y5.2.2.1.2.2 e he).2.2.symm)
      · rw [q4 59 e (by omega), (a2 e (by omega)).2.2, r0 (14 + e) (by omega) (by omega) (by omega)]
      · rw [q4 56 k (by omega), a3 k x y, r0 (17 + k) (by omega) (by omega) (by omega)]
      · rw [q4 56 9 (by omega), a4, su u 4 (by omega), y4.2.1.1, nIt (by omega), r26]
        by_cases cP : 0 < d'.1.2.1
        · rw [if_pos (by omega), if_pos cP, if_neg (by decide)]
        · rw [if_neg (by omega), if_neg cP, if_pos rfl]
      · rw [q4 56 10 (by omega), a5, r0 27 (by omega) (by omega) (by omega)]
      · rw [q4 56 11 (by omega), a6, r28]
    have hN : NWm ρ0 s2 := fun i hi => by
      have := (g7 i hi).2
      rw [eT, eP] at this
      exact this
    have hW : RW d' (60 * ((n + 1 : Nat) : Int)) ρ0 := by
      refine ⟨fun e he => ⟨?_, fun _ => ?_⟩, ?_, ?_, ?_, ?_, ?_⟩
      · rw [r0 e (by omega) (by omega) (by omega)]; decide
      · rw [r7 e he, (y5.2.2.1.2.2 e he).2.2]; exact (y6.1 e he).2.2
      · rw [r0 21 (by omega) (by omega) (by omega), i0_eq]; omega
      · rw [r0 21 (by omega) (by omega) (by omega), r0 27 (by omega) (by omega) (by omega), i0_eq]; omega
      · rw [r26]
        by_cases cP : 0 < d'.1.2.1
        · rw [if_pos cP, i0_eq]; exact Or.inr ⟨by omega, by omega⟩
        · rw [if_neg cP]; exact Or.inl rfl
      · rw [r28]; decide
      · rw [r0 22 (by omega) (by omega) (by omega)]; decide
    have o12 : s2.1 12 1 = nI nx := by
      rw [q4 12 1 (by omega), q10 12 1 (by rw [rc_no b2 (by omega)]; rfl)]; exact c6.1
    refine ⟨d', u, t, 1 - sd, ρ0, 0, nx, H, 0, tb, G, tap, ⟨b2, b1, fun e => b3 e.symm, y1, y4, y5, y6⟩, ⟨hA, hN, hW⟩, ⟨o12, c6.2.1, by rw [q4 12 2 (by omega)]; exact z2, by decide, g4, fun j hj => absurd hj (by omega)⟩, ⟨by rw [q4 14 2 (by omega)]; exact z3, by decide, g5, fun i hi => absurd hi (by omega)⟩, fun j hj => ⟨⟨?_, ?_⟩, fun e => ?_⟩⟩
    · rw [q4 26 j (by omega), z4 j hj, g6 j hj]
    · exact Or.inl (g6 j hj)
    · rw [g6 j hj] at e; exact absurd e (by decide)
  · obtain ⟨f1, f2⟩ := q8 cr
    have lo : ∀ i k, i < 236 → wRMr (1 - sd) i k = false := fun i k h => rm_lo h
    have u12 : ∀ i k, 56 ≤ i → wRc u i k = false := fun i k h => rc_no b2 (by omega)
    refine ⟨d, t, u, sd, ρ, k, nx, H, m, tb, G, tap, ⟨b1, b2, b3, ?_, ?_, ?_, b7⟩, ⟨?_, ?_, c5.2.2⟩, ?_, ?_, ?_⟩
    · unfold TXr
      rw [f2.2.2, f1.2.2]; exact b4
    · exact (b5.fr f1 (fun i k x y => rc_tx b1 b2 b3 x y)).fr f2 (fun i k x y => lo i k (by rcases b1 with rfl | rfl <;> omega))
    · exact (b6.fr f1 (u12 _ _ (by omega)) (fun i k x y => u12 i k (by omega))).half f2
    · exact (c5.1.fr f1 (fun i k x y => u12 i k (by omega))).fr f2 (fun i k x y => lo i k (by omega))
    · exact (c5.2.1.fr f1 (fun k => u12 _ _ (by omega))).fr f2 (fun k => rm_hi (by omega) (by omega))
    · exact (c6.fr f1 (fun i k x y => u12 i k (by omega)) (fun k => u12 _ _ (by omega)) (fun k => rc_no b2 (by omega)) (u12 _ _ (by omega))).fr f2 (fun i k x y => lo i k (by omega)) (fun k => rm_hi (by omega) (by omega)) (fun k => lo _ _ (by omega)) (by unfold wRMr wRd0 wPm wr LC; simp)
    · exact (c7.fr f1 (fun i k x y => rc_no b2 (by omega)) (fun i k x y => u12 i k (by omega)) (u12 _ _ (by omega))).fr f2 (fun i k x y => lo i k (by omega)) (fun i k x y => rm_hi (by omega) (by omega)) (by unfold wRMr wRd0 wPm wr LC; simp)
    · exact (c8.fr f1 (fun i k x y => u12 i k (by omega)) (fun i k x y => u12 i k (by omega)) (fun k => rc_no b2 (by omega))).fr f2 (fun i k x y => lo i k (by omega)) (fun i k x y => rm_hi (by omega) (by omega)) (fun k => lo _ _ (by omega)))
end BRD2
/-! into: that the class answers -/
section INTOC
variable {σ s s2 : HS} {n t u sd k nx m T : Nat} {ρ : Nat → Int32} {d : DAT} {b : Int} {H G : Nat → Nat → Int32} {tb9 : Nat → Nat} {x y z : Int32}
def flV (x y : Int32) : Int32 := if (x ^^^ y).toInt < 0 then (if (x - x / y * y).toInt = 0 then x - x / y * y else x - x / y * y + y) else x - x / y * y
theorem e_flV (hy : y.toInt ≠ 0) : f_J9_floorMod_7cf53 x y σ = some (flV x y, σ) := by
  unfold f_J9_floorMod_7cf53 flV
  rw [if_neg hy]
  simp only [Bd]
  split
  · split <;> rfl
  · rfl
theorem flV_rg : ∀ q, q < 10 → ∀ L, L < 16 → 0 < L → 0 ≤ (flV (-(nI q)) (nI L)).toInt ∧ (flV (-(nI q)) (nI L)).toInt < (L : Int) := by decide +kernel
theorem w_land3 {p L : Nat} (hL : 1 ≤ L ∧ L ≤ 8) (ha : (L : Int) ≤ al p) : Ok (f_X3_landingBits p (nI L) σ) (fun _ s => s = σ) := by
  have loop : ∀ (dd q N : Nat) (y : Int32), q + dd = 10 → dd < N → Ok (f_X3_landingBits_4 p N (nI L) y (nI q) σ) (fun _ s => s = σ) := by
    intro dd
    induction dd with
    | zero =>
      intro q N y hq hN
      obtain ⟨N, rfl⟩ : ∃ q, N = q + 1 := ⟨N - 1, by omega⟩
      show Ok (b_X3_landingBits_4 p (f_X3_landingBits_4 p N) (nI L) y (nI q) σ) _
      unfold b_X3_landingBits_4
      rw [nIt (n := q) (by omega)]
      exact Ok.t (by omega) (Ok.ret rfl)
    | succ dd ih =>
      intro q N y hq hN
      obtain ⟨N, rfl⟩ : ∃ q, N = q + 1 := ⟨N - 1, by omega⟩
      show Ok (b_X3_landingBits_4 p (f_X3_landingBits_4 p N) (nI L) y (nI q) σ) _
      unfold b_X3_landingBits_4 f_X3_landingBits_38
      have fr := flV_rg q (by omega) L (by omega) (by omega)
      rw [nIt (n := q) (by omega), nIt (n := L) (by omega)]
      refine Ok.f (by omega) (Ok.t (by omega) (Ok.cle (e_flV (by rw [nIt (by omega)]; omega)) (Ok.t (by omega) (Ok.bd (Ok.i (fun _ => Ok.bd ?_) (fun _ => Ok.bd (Ok.bd ?_)))))))
      · rw [nI_1]; exact ih (q + 1) N _ (by omega) (by omega)
      · rw [nI_1]; exact ih (q + 1) N _ (by omega) (by omega)
  exact loop 9 1 5000 0 (by omega) (by omega)
theorem e_two (h : RELx n d t u sd ρ k nx H m tb9 G σ) : Ok (f_X0_twoLandAlike 56 σ) (fun _ s => s = σ) := by
  have hT := h.tc.T7
  unfold f_X0_twoLandAlike
  exact Ok.cle (e_landingBits h.ar.1 hT) (Ok.cle e_bitCount (Ok.cle (e_howManyUp h.ar.1 hT) (Ok.i (fun _ => Ok.ret rfl) (fun _ => Ok.ret rfl))))
theorem w_fill2 {p N : Nat} {v : Int32} (hN : (Int32.ofNat (al p)).toInt = N) (hN2 : (al p : Int) = N) (h1 : N ≤ 2000) : Okv (f_J7_fill_53178 p v σ) (fun s => frm (fun a _ => a == p) wl0 σ s ∧ ∀ i, i < N → s.1 p i = v) := by
  unfold f_J7_fill_53178
  refine Okv.bd ?_
  have loop : ∀ (d k M : Nat) (s : HS), k + d = N → d < M → frm (fun a _ => a == p) wl0 σ s → (∀ i, i < k → s.1 p i = v) → Okv (f_J7_fill_53178_5 p M v (nI k) (Int32.ofNat (al p)) s) (fun s => frm (fun a _ => a == p) wl0 σ s ∧ ∀ i, i < N → s.1 p i = v) := by
    intro d
    induction d with
    | zero =>
      intro k M s hk hM hf hz
      obtain ⟨M, rfl⟩ : ∃ q, M = q + 1 := ⟨M - 1, by omega⟩
      show Okv (b_J7_fill_53178_5 p (f_J7_fill_53178_5 p M) v (nI k) (Int32.ofNat (al p)) s) _
      unfold b_J7_fill_53178_5
      rw [nIt (by omega), hN]
      exact Okv.f (by omega) (Okv.ret ⟨hf, fun i hi => hz i (by omega)⟩)
    | succ d ih =>
      intro k M s hk hM hf hz
      obtain ⟨M, rfl⟩ : ∃ q, M = q + 1 := ⟨M - 1, by omega⟩
      show Okv (b_J7_fill_53178_5 p (f_J7_fill_53178_5 p M) v (nI k) (Int32.ofNat (al p)) s) _
      unfold b_J7_fill_53178_5
      rw [nIt (by omega), hN, hN2, Int.toNat_natCast]
      refine Okv.t (by omega) (Okv.t (by omega) (Okv.bd (Okv.bd ?_)))
      rw [nI_1]
      refine ih (k + 1) M _ (by omega) (by omega) (hf.I (by simp)) (fun i hi => ?_)
      by_cases c : i = k
      · rw [c, rI_s]
      · rw [rI_k c]; exact hz i (by omega)
  rw [nI0]
  exact loop N 0 5000 σ (by omega) (by omega) frm.rf (fun i hi => absurd hi (by omega))
/-- what the search holds: c met, each with one it came from -/
def wFi (a k : Nat) : Bool := (a == 17 && (k == 1 || k == 5)) || a == 18 || a == 19 || a == 20 || a == 21
theorem fi_wQ (i k : Nat) (h : wFi i k = true) : wQ i k = true := by
  unfold wFi at h
  simp only [Bool.or_eq_true, Bool.and_eq_true, beq_iff_eq] at h
  rcases h with (((⟨h, h2⟩ | h) | h) | h) | h <;> subst h <;> rfl
def MET (s : HS) : Prop := ∀ i, i < 1024 → s.1 19 i = -1 ∨ ∃ j, j < 1024 ∧ s.1 19 i = nI j ∧ s.1 19 j ≠ -1
def FI (c : Nat) (s : HS) : Prop := s.1 17 1 = nI c ∧ c ≤ 1024 ∧ MET s ∧ ∀ i, i < c → ∃ j, j < 1024 ∧ s.1 18 i = nI j ∧ s.1 19 j ≠ -1
theorem m1_nI {j : Nat} (h : j < 1024) : nI j ≠ -1 := fun e => by
  have := congrArg Int32.toInt e
  rw [nIt (by omega)] at this
  exact absurd this (by show ¬ ((j : Int) = -1); omega)
theorem w_meet {c a p : Nat} {v : Int32} (h : FI c s) (ha : a < 1024) (hp : p < 1024) (hx : p = a ∨ s.1 19 p ≠ -1) : Okv (f_X7_meet (nI a) (nI p) v s) (fun s2 => ∃ c', c ≤ c' ∧ FI c' s2 ∧ frm wFi wl0 s s2 ∧ s2.1 17 5 = s.1 17 5 ∧ ∀ i, s.1 19 i ≠ -1 → s2.1 19 i ≠ -1) := by
  obtain ⟨h1, h2, h3, h4⟩ := h
  unfold f_X7_meet
  rw [nIt (n := a) (by omega), Int.toNat_natCast, h1, nIt (n := c) (by omega)]
  refine Okv.t (by omega) (Okv.i (fun e => ?_) (fun _ => Okv.ret ⟨c, Nat.le_refl _, ⟨h1, h2, h3, h4⟩, frm.rf, rfl, fun i hi => hi⟩))
  have e1 : s.1 19 a = -1 := Int32.toInt_inj.mp e
  refine Okv.i (fun hc => ?_) (fun _ => Okv.ret ⟨c, Nat.le_refl _, ⟨h1, h2, h3, h4⟩, frm.rf, rfl, fun i hi => hi⟩)
  refine Okv.t (by omega) (Okv.bd (Okv.t (by omega) (Okv.bd ?_)))
  have e17 : (hI (hI s 19 a (nI p)) 20 a v).1 17 1 = nI c := by rw [rI_i (by decide), rI_i (by decide)]; exact h1
  rw [e17, nIt (n := c) (by omega), Int.toNat_natCast]
  refine Okv.t (by omega) (Okv.bd (Okv.bd ?_))
  have e17b : (hI (hI (hI s 19 a (nI p)) 20 a v) 18 c (nI a)).1 17 1 = nI c := by rw [rI_i (by decide)]; exact e17
  rw [e17b, nI_1]
  have k19 : ∀ i, (hI (hI (hI (hI s 19 a (nI p)) 20 a v) 18 c (nI a)) 17 1 (nI (c + 1))).1 19 i = if i = a then nI p else s.1 19 i := fun i => by
    rw [rI_i (by decide), rI_i (by decide), rI_i (by decide)]
    by_cases ci : i = a
    · rw [ci, rI_s, if_pos rfl]
    · rw [rI_k ci, if_neg ci]
  have k19' : ∀ i, s.1 19 i ≠ -1 → (hI (hI (hI (hI s 19 a (nI p)) 20 a v) 18 c (nI a)) 17 1 (nI (c + 1))).1 19 i ≠ -1 := fun i hi => by
    rw [k19]
    by_cases ci : i = a
    · rw [if_pos ci]; exact m1_nI hp
    · rw [if_neg ci]; exact hi
  refine Okv.ret ⟨c + 1, by omega, ⟨rI_s, by omega, fun i hi => ?_, fun i hi => ?_⟩, (((frm.rf.I rfl).I rfl).I rfl).I rfl, ?_, k19'⟩
  · rw [k19 i]
    by_cases ci : i = a
    · rw [if_pos ci]
      refine Or.inr ⟨p, hp, rfl, ?_⟩
      rcases hx with hx | hx
      · rw [k19, if_pos hx]; exact m1_nI hp
      · exact k19' p hx
    · rw [if_neg ci]
      rcases h3 i hi with g | ⟨j, g1, g2, g3⟩
      · exact Or.inl g
      · exact Or.inr ⟨j, g1, g2, k19' j g3⟩
  · rw [rI_i (by decide)]
    by_cases ci : i = c
    · rw [ci, rI_s]
      exact ⟨a, ha, rfl, by rw [k19, if_pos rfl]; exact m1_nI hp⟩
    · rw [rI_k ci, rI_i (by decide), rI_i (by decide)]
      obtain ⟨j, g1, g2, g3⟩ := h4 i (by omega)
      exact ⟨j, g1, g2, k19' j g3⟩
  · rw [rI_k (by decide), rI_i (by decide), rI_i (by decide), rI_i (by decide)]
theorem sh1_rg : ∀ a, a < 1024 → ∃ q, q < 512 ∧ (nI a) >>> ((1 : Int32) &&& 31) = nI q := by
  intro a ha
  have : ∀ a, a < 1024 → (nI a) >>> ((1 : Int32) &&& 31) = nI (a / 2) := by decide +kernel
  exact ⟨a / 2, by omega, this a ha⟩
theorem or_rg : ∀ q, q < 512 → ∀ y, y < 9 → (0 ≤ ((nI q) ||| ((1 : Int32) <<< ((nI (y + 1) - (1 : Int32)) &&& 31))).toInt ∧ ((nI q) ||| ((1 : Int32) <<< ((nI (y + 1) - (1 : Int32)) &&& 31))).toInt < 1024) := by decide +kernel
def FIq (σ : HS) (c : Nat) (s : HS) : Prop := ∃ c', c ≤ c' ∧ FI c' s ∧ frm wFi wl0 σ s ∧ s.1 17 5 = σ.1 17 5 ∧ ∀ i, σ.1 19 i ≠ -1 → s.1 19 i ≠ -1
theorem FIq.tr {c : Nat} {s1 : HS} {c1 : Nat} (h : FIq σ c s) (hc : FI c1 s) (k : ∀ c2, FI c2 s → FIq s c2 s1) : FIq σ c s1 := by
  obtain ⟨c', g1, g2, g3, g4, g5⟩ := h
  obtain ⟨c3, f1, f2, f3, f4, f5⟩ := k c' g2
  exact ⟨c3, by omega, f2, g3.tr f3, f4.trans g4, fun i hi => f5 i (g5 i hi)⟩
theorem w_goOnFrom {c a : Nat} (h : FI c s) (ha : a < 1024) (hx : s.1 19 a ≠ -1) : Okv (f_X7_goOnFrom (nI a) s) (FIq s c) := by
  unfold f_X7_goOnFrom
  obtain ⟨q, hq, eq⟩ := sh1_rg a ha
  refine Okv.bd ?_
  rw [eq]
  refine Okv.i (fun _ => Okv.cv (w_meet h (by omega) ha (Or.inr hx)) (fun s1 h1 => Okv.ret h1)) (fun _ => ?_)
  have loop : ∀ (dd y N : Nat) (s1 : HS), y + dd = 9 → dd < N → FIq s c s1 → Okv (f_X7_goOnFrom_20 N (nI a) (nI q) (nI (y + 1)) s1) (FIq s c) := by
    intro dd
    induction dd with
    | zero =>
      intro y N s1 hy hN h1
      obtain ⟨N, rfl⟩ : ∃ q, N = q + 1 := ⟨N - 1, by omega⟩
      show Okv (b_X7_goOnFrom_20 (f_X7_goOnFrom_20 N) (nI a) (nI q) (nI (y + 1)) s1) _
      unfold b_X7_goOnFrom_20
      rw [nIt (n := y + 1) (by omega)]
      exact Okv.t (by omega) (Okv.ret h1)
    | succ dd ih =>
      intro y N s1 hy hN h1
      obtain ⟨N, rfl⟩ : ∃ q, N = q + 1 := ⟨N - 1, by omega⟩
      show Okv (b_X7_goOnFrom_20 (f_X7_goOnFrom_20 N) (nI a) (nI q) (nI (y + 1)) s1) _
      unfold b_X7_goOnFrom_20 f_X7_goOnFrom_50
      rw [nIt (n := y + 1) (by omega)]
      refine Okv.f (by omega) (Okv.bd (Okv.i (fun _ => ?_) (fun _ => Okv.bd ?_)))
      · have rg := or_rg q hq y (by omega)
        generalize hv : ((nI q) ||| ((1 : Int32) <<< ((nI (y + 1) - (1 : Int32)) &&& 31))) = v at rg
        obtain ⟨w, hw, rfl⟩ : ∃ w : Nat, w < 1024 ∧ v = nI w := ⟨v.toInt.toNat, by omega, nI_tn rg.1 (by omega)⟩
        obtain ⟨c1, g1, g2, g3, g4, g5⟩ := h1
        refine Okv.cv (w_meet (v := nI (y + 1)) g2 (by omega) ha (Or.inr (g5 a hx))) (fun s3 h3 => Okv.bd ?_)
        rw [nI_1]
        exact ih (y + 1) N s3 (by omega) (by omega) (FIq.tr ⟨c1, g1, g2, g3, g4, g5⟩ g2 (fun c2 h2 => by
          obtain ⟨c3, f1, f2, f3, f4, f5⟩ := h3
          have : c2 = c1 := by
            have e := h2.1.symm.trans g2.1
            have e2 := congrArg Int32.toInt e
            rw [nIt (by have := h2.2.1; omega), nIt (by have := g2.2.1; omega)] at e2
            omega
          subst this
          exact ⟨c3, f1, f2, f3, f4, f5⟩))
      · rw [nI_1]; exact ih (y + 1) N s1 (by omega) (by omega) h1
  exact loop 9 0 5000 s (by omega) (by omega) ⟨c, Nat.le_refl _, h, frm.rf, rfl, fun i hi => hi⟩
end INTOC
/-! into: that the class answers, further -/
section INTOC2
variable {σ s s2 : HS} {n t u sd k nx m T : Nat} {ρ : Nat → Int32} {d : DAT} {b : Int} {H G : Nat → Nat → Int32} {tb9 : Nat → Nat} {x y z : Int32}
/-- after the search: what it wrote, how deep -/
def FND (σ : HS) (r : Int32) (s : HS) : Prop := frm wFi wl0 σ s ∧ 0 ≤ (s.1 17 5).toInt ∧ (s.1 17 5).toInt ≤ 12
theorem w_find111 {c a e : Nat} (h : FI c s) (ha : a < 1024) (hf : frm wFi wl0 σ s) (h5 : s.1 17 5 = nI e) (he : e ≤ 12) : Ok (f_X7_find_111 (nI a) s) (FND σ) := by
  unfold f_X7_find_111
  rw [nIt (n := a) (by omega), Int.toNat_natCast, h5]
  refine Ok.t (by omega) (Ok.i (fun _ => Ok.ret ⟨hf, by rw [h5, nIt (by omega)]; omega, by rw [h5, nIt (by omega)]; omega⟩) (fun c0 => Ok.bd ?_))
  have hm : s.1 19 a ≠ -1 := fun e => c0 (by rw [e]; rfl)
  have loop : ∀ (dd a N : Nat) (y5 : Int32) (s1 : HS), y5.toInt = (dd : Int) - 1 → dd ≤ 12 → dd < N → a < 1024 → s1.1 19 a ≠ -1 → MET s1 → frm wFi wl0 σ s1 → s1.1 17 5 = nI e → Ok (f_X7_find_134 N (nI a) y5 s1) (FND σ) := by
    intro dd
    induction dd with
    | zero =>
      intro a N y5 s1 hy hd hN ha hm hM hf h5
      obtain ⟨N, rfl⟩ : ∃ q, N = q + 1 := ⟨N - 1, by omega⟩
      show Ok (b_X7_find_134 (f_X7_find_134 N) (nI a) y5 s1) _
      unfold b_X7_find_134
      exact Ok.t (by omega) (Ok.ret ⟨hf, by rw [h5, nIt (by omega)]; omega, by rw [h5, nIt (by omega)]; omega⟩)
    | succ dd ih =>
      intro a N y5 s1 hy hd hN ha hm hM hf h5
      obtain ⟨N, rfl⟩ : ∃ q, N = q + 1 := ⟨N - 1, by omega⟩
      obtain rfl : y5 = nI dd := Int32.toInt_inj.mp (by rw [nIt (by omega)]; omega)
      obtain ⟨j, j1, j2, j3⟩ : ∃ j, j < 1024 ∧ s1.1 19 a = nI j ∧ s1.1 19 j ≠ -1 := by
        rcases hM a ha with g | g
        · exact absurd g hm
        · exact g
      show Ok (b_X7_find_134 (f_X7_find_134 N) (nI a) (nI dd) s1) _
      unfold b_X7_find_134
      rw [nIt (n := dd) (by omega), nIt (n := a) (by omega), Int.toNat_natCast, Int.toNat_natCast]
      refine Ok.f (by omega) (Ok.t (by omega) (Ok.t (by omega) (Ok.bd (Ok.t (by omega) (Ok.bd (Ok.bd ?_))))))
      rw [rI_i (show (19 : Nat) ≠ 21 by decide), j2]
      have k19 : ∀ i v, (hI s1 21 dd v).1 19 i = s1.1 19 i := fun i v => rI_i (by decide)
      refine ih j N _ _ (by cases dd with
        | zero => rfl
        | succ q => rw [show nI (q + 1) + (-1 : Int32) = nI q by rw [← nI_1 q, Int32.add_assoc]; exact Int32.add_zero _, nIt (by omega)]; omega) (by omega) (by omega) j1 (by rw [k19]; exact j3) (fun i hi => ?_) (hf.I rfl) (by rw [rI_i (by decide)]; exact h5)
      rcases hM i hi with g | ⟨q, g1, g2, g3⟩
      · exact Or.inl (by rw [k19]; exact g)
      · exact Or.inr ⟨q, g1, by rw [k19]; exact g2, by rw [k19]; exact g3⟩
  refine loop e a 5000 _ s ?_ he (by omega) ha hm h.2.2.1 hf h5
  cases e with
  | zero => rfl
  | succ q => rw [nI_mm (by omega), nIt (by omega)]; omega
theorem w_find {c a e q : Nat} (h : FI c s) (hq : q ≤ c) (ha : a < 1024) (hf : frm wFi wl0 σ s) (h5 : s.1 17 5 = nI e) (he : e ≤ 12) : ∀ N, 12 - e < N → Ok (f_X7_find_51 N (nI a) (nI q) s) (FND σ) := by
  obtain ⟨z, hz⟩ : ∃ z, e + z = 12 := ⟨12 - e, by omega⟩
  induction z generalizing e q c s with
  | zero =>
    intro N hN
    obtain ⟨N, rfl⟩ : ∃ q, N = q + 1 := ⟨N - 1, by omega⟩
    show Ok (b_X7_find_51 (f_X7_find_51 N) (nI a) (nI q) s) _
    unfold b_X7_find_51
    rw [h5, nIt (n := e) (by omega)]
    exact Ok.f (by omega) (w_find111 h ha hf h5 he)
  | succ z ih =>
    intro N hN
    obtain ⟨N, rfl⟩ : ∃ q, N = q + 1 := ⟨N - 1, by omega⟩
    show Ok (b_X7_find_51 (f_X7_find_51 N) (nI a) (nI q) s) _
    unfold b_X7_find_51
    rw [h5, nIt (n := e) (by omega), nIt (n := a) (by omega), Int.toNat_natCast]
    refine Ok.t (by omega) (Ok.t (by omega) (Ok.i (fun _ => Ok.bd ?_) (fun _ => w_find111 h ha hf h5 he)))
    rw [h.1]
    have lay : ∀ (dd q M c' : Nat) (s1 : HS), q + dd = c → dd < M → FI c' s1 → c ≤ c' → frm wFi wl0 σ s1 → s1.1 17 5 = nI e → Ok (f_X7_find_76 (f_X7_find_51 N) M (nI a) (nI q) (nI c) s1) (FND σ) := by
      intro dd
      induction dd with
      | zero =>
        intro q M c' s1 hq hM g hc hf1 h51
        obtain ⟨M, rfl⟩ : ∃ q, M = q + 1 := ⟨M - 1, by omega⟩
        have := h.2.1
        show Ok (b_X7_find_76 (f_X7_find_51 N) (f_X7_find_76 (f_X7_find_51 N) M) (nI a) (nI q) (nI c) s1) _
        unfold b_X7_find_76
        rw [nIt (n := q) (by omega), nIt (n := c) (by omega), h51, nI_1 e]
        have eq : q = c := by omega
        refine Ok.f (by omega) (Ok.bd ?_)
        have g2 : FI c' (hI s1 17 5 (nI (e + 1))) := ⟨by rw [rI_k (by decide)]; exact g.1, g.2.1, fun i hi => by
          rcases g.2.2.1 i hi with w | ⟨j, w1, w2, w3⟩
          · exact Or.inl (by rw [rI_i (by decide)]; exact w)
          · exact Or.inr ⟨j, w1, by rw [rI_i (by decide)]; exact w2, by rw [rI_i (by decide)]; exact w3⟩, fun i hi => by
          obtain ⟨j, w1, w2, w3⟩ := g.2.2.2 i hi
          exact ⟨j, w1, by rw [rI_i (by decide)]; exact w2, by rw [rI_i (by decide)]; exact w3⟩⟩
        rw [eq]
        exact ih (e := e + 1) g2 (by omega) (hf1.I rfl) rI_s (by omega) (by omega) N (by omega)
      | succ dd ih2 =>
        intro q M c' s1 hq hM g hc hf1 h51
        obtain ⟨M, rfl⟩ : ∃ q, M = q + 1 := ⟨M - 1, by omega⟩
        have := h.2.1
        obtain ⟨j, w1, w2, w3⟩ := g.2.2.2 q (by omega)
        show Ok (b_X7_find_76 (f_X7_find_51 N) (f_X7_find_76 (f_X7_find_51 N) M) (nI a) (nI q) (nI c) s1) _
        unfold b_X7_find_76
        rw [nIt (n := q) (by omega), nIt (n := c) (by omega), Int.toNat_natCast, w2]
        refine Ok.t (by omega) (Ok.t (by omega) (Ok.cv (w_goOnFrom g w1 w3) (fun s2 h2 => Ok.bd ?_)))
        rw [nI_1]
        obtain ⟨c3, f1, f2, f3, f4, f5⟩ := h2
        exact ih2 (q + 1) M c3 s2 (by omega) (by omega) f2 (by omega) (hf1.tr f3) (f4.trans h51)
    have := h.2.1
    exact lay (c - q) q 5000 c s (by omega) (by omega) h (Nat.le_refl _) hf h5
theorem q_find (hx : x.toInt < 1024) : Ok (f_X7_find x y σ) (fun r s => frm wQ wl0 σ s ∧ (r.toInt ≠ 0 → (s.1 17 5).toInt ≤ 12)) := by
  unfold f_X7_find
  have no : Ok (some ((0 : Int32), σ)) (fun r s => frm wQ wl0 σ s ∧ (r.toInt ≠ 0 → (s.1 17 5).toInt ≤ 12)) := Ok.ret ⟨frm.rf, fun h => absurd rfl h⟩
  refine Ok.i (fun _ => no) (fun c1 => Ok.i (fun c2 => Ok.i (fun _ => no) (fun c3 => Ok.i (fun c4 => ?_) (fun _ => no))) (fun _ => no))
  obtain ⟨a, ha, rfl⟩ : ∃ a : Nat, a < 1024 ∧ x = nI a := ⟨x.toInt.toNat, by omega, nI_tn (by omega) (by omega)⟩
  obtain ⟨e, he, rfl⟩ : ∃ a : Nat, a < 1024 ∧ y = nI a := ⟨y.toInt.toNat, by omega, nI_tn (by omega) (by omega)⟩
  refine Ok.cv (w_fill2 (p := 19) (N := 1024) rfl rfl (by omega)) (fun s1 h1 => Ok.bd ?_)
  have F0 : FI 0 (hI s1 17 1 0) := ⟨rI_s, by omega, fun i hi => Or.inl (by rw [rI_i (by decide)]; exact h1.2 i hi), fun i hi => absurd hi (by omega)⟩
  have f0 : frm wFi wl0 σ (hI s1 17 1 0) := (h1.1.sub (fun i k h => by
    have : i = 19 := by simpa using h
    subst this; rfl)).I rfl
  refine Ok.cv (w_meet (v := 0) F0 ha ha (Or.inl rfl)) (fun s3 h3 => Ok.bd ?_)
  obtain ⟨c3, g1, g2, g3, g4, g5⟩ := h3
  have F1 : FI c3 (hI s3 17 5 0) := ⟨by rw [rI_k (by decide)]; exact g2.1, g2.2.1, fun i hi => by
      rcases g2.2.2.1 i hi with w | ⟨j, w1, w2, w3⟩
      · exact Or.inl (by rw [rI_i (by decide)]; exact w)
      · exact Or.inr ⟨j, w1, by rw [rI_i (by decide)]; exact w2, by rw [rI_i (by decide)]; exact w3⟩, fun i hi => by
      obtain ⟨j, w1, w2, w3⟩ := g2.2.2.2 i hi
      exact ⟨j, w1, by rw [rI_i (by decide)]; exact w2, by rw [rI_i (by decide)]; exact w3⟩⟩
  refine (w_find (σ := σ) (e := 0) (q := 0) F1 (by omega) he ((f0.tr g3).I rfl) rI_s (by omega) 5000 (by omega)).mono (fun r s h => ⟨h.1.sub fi_wQ, fun _ => h.2.2⟩)
theorem q_into_c (h : RELx n d t u sd ρ k nx H m tb9 G σ) : Ok (f_X11_into x y σ) (fun _ s => frm wQ wl0 σ s) := by
  have hP := h.tc.2.1.2.1
  have h87 : ∀ s, frm wQ wl0 σ s → Ok (f_X11_into_87 y s) (fun _ s => frm wQ wl0 σ s) := fun s hs => by
    unfold f_X11_into_87 f_X11_into_88
    exact Ok.t rfl (Ok.i (fun _ => Ok.ret hs) (fun _ => Ok.ret hs))
  unfold f_X11_into
  refine Ok.t (tk0 h) (Ok.cle (e_hasPattern (by rw [h.t0]; exact h.tc.2.1.1) hP) ?_)
  by_cases c : 0 ≤ x.toInt ∧ x.toInt < d.1.2.1
  · refine Ok.f (fun e => if10.mp e c) (Ok.i (fun _ => Ok.ret frm.rf) (fun cy => ?_))
    obtain ⟨p, hp, rfl⟩ := in_T c (by omega)
    have hc := h.tc.hc h.tk h.ok hp
    rw [h.t0, nIt (n := p) (by omega), Int.toNat_natCast, (h.tc.2.1.2.2 p hp).1]
    have hL := (h.tc.2.1.2.2 p hp).2.1
    refine Ok.t h.tk (Ok.t (by omega) (Ok.t h.tk (Ok.t (by omega) (Ok.bd (Ok.cle (e_close hc) (Ok.i (fun _ => Ok.ret frm.rf) (fun _ => Ok.cl (e_two h) (fun r s hs => ?_))))))))
    subst hs
    refine Ok.i (fun _ => Ok.cle (e_landBits h) (Ok.cl (w_land3 hL hc.2.2.2) (fun r2 s hs => ?_))) (fun _ => h87 s frm.rf)
    subst hs
    have rl : (lanS d ρ).toInt < 1024 := by
      unfold lanS
      rw [bset_N (by omega), nIt (by have := bsN_lt (p := lanP ρ d.1.1.1) (n := 10); omega)]
      have := bsN_lt (p := lanP ρ d.1.1.1) (n := 10)
      omega
    refine Ok.cl (q_find rl) (fun r3 s3 hs3 => Ok.i (fun _ => h87 s3 hs3.1) (fun c3 => ?_))
    unfold f_X11_into_88
    refine Ok.f (by decide) (Ok.i (fun _ => Ok.ret hs3.1) (fun cn => Ok.i (fun cl => Ok.t (by have := hs3.2 c3; omega) (Ok.ret hs3.1)) (fun _ => Ok.ret hs3.1)))
  · exact Ok.t (if10.mpr c) (Ok.ret frm.rf)
end INTOC2
/-! into: that the reference answers -/
section INTOM
variable {σ s s2 : HS} {n t u sd k nx m T p : Nat} {ρ : Nat → Int32} {d : DAT} {b : Int} {H G : Nat → Nat → Int32} {tb9 : Nat → Nat} {x y z : Int32}
def nexV (x y : Int32) : Int32 := if (x &&& (1 : Int32)).toInt = 0 then (if y.toInt = 0 then x >>> ((1 : Int32) &&& 31) else -1) else if y.toInt = 0 then -1 else if ((x >>> (y &&& 31)) &&& (1 : Int32)).toInt = 1 then -1 else (x >>> ((1 : Int32) &&& 31)) ||| ((1 : Int32) <<< ((y - (1 : Int32)) &&& 31))
theorem e_nextOf : f_X12_nextOf x y σ = some (nexV x y, σ) := by
  unfold f_X12_nextOf nexV
  split
  · split <;> rfl
  · split
    · rfl
    · split <;> rfl
theorem nex_rg : ∀ q, q < 1024 → ∀ y, y < 10 → (nexV (nI q) (nI y)).toInt < 0 ∨ (0 ≤ (nexV (nI q) (nI y)).toInt ∧ (nexV (nI q) (nI y)).toInt < 1024) := by decide +kernel
theorem aim_z : ∀ L, L < 16 → 0 < L → ∀ q, q < 10 → ((nI L * (9 : Int32)) - nI q) - ((nI L * (9 : Int32)) - nI q) / nI L * nI L = nI ((9 * L - q) % L) := by decide +kernel
theorem w_aimOf (hM : TM sd d σ) (hD : DOK d) (hp : p < d.1.2.1) : Ok (f_X12_aimOf (nI p) σ) (fun _ s => s = σ) := by
  have hl := hM.lp hp
  have loop : ∀ (dd q N : Nat) (y : Int32), q + dd = 10 → dd < N → Ok (f_X12_aimOf_4 N (nI p) y (nI q) σ) (fun _ s => s = σ) := by
    intro dd
    induction dd with
    | zero =>
      intro q N y hq hN
      obtain ⟨N, rfl⟩ : ∃ q, N = q + 1 := ⟨N - 1, by omega⟩
      show Ok (b_X12_aimOf_4 (f_X12_aimOf_4 N) (nI p) y (nI q) σ) _
      unfold b_X12_aimOf_4
      rw [nIt (n := q) (by omega)]
      exact Ok.t (by omega) (Ok.ret rfl)
    | succ dd ih =>
      intro q N y hq hN
      obtain ⟨N, rfl⟩ : ∃ q, N = q + 1 := ⟨N - 1, by omega⟩
      have eL : d.1.2.2.1 p = LnP d p := rfl
      show Ok (b_X12_aimOf_4 (f_X12_aimOf_4 N) (nI p) y (nI q) σ) _
      unfold b_X12_aimOf_4 f_X12_aimOf_51
      rw [nIt (n := q) (by omega)]
      refine Ok.f (by omega) (Ok.cle (e_lengthOf hM hp) (Ok.cle (e_lengthOf hM hp) ?_))
      rw [eL, nIt (n := LnP d p) (by omega), aim_z _ (by omega) (by omega) q (by omega)]
      have hm := Nat.mod_lt (9 * LnP d p - q) (show 0 < LnP d p by omega)
      refine Ok.f (by omega) (Ok.bd (Ok.cle (e_hAt hM hD hp (by omega)) (Ok.bd (Ok.i (fun _ => Ok.bd ?_) (fun _ => Ok.bd (Ok.bd ?_))))))
      · rw [nI_1]; exact ih (q + 1) N _ (by omega) (by omega)
      · rw [nI_1]; exact ih (q + 1) N _ (by omega) (by omega)
  exact loop 9 1 5000 0 (by omega) (by omega)
/-- how far off each set is: 99 for not at all, else by one step more than some next one -/
def FAR (f : Nat → Int32) : Prop := ∀ q, q < 1024 → f q = 99 ∨ f q = 0 ∨ ∃ w, 1 ≤ w ∧ w ≤ 12 ∧ f q = nI w ∧ ∃ y, y ≤ 9 ∧ ∃ r, r < 1024 ∧ nexV (nI q) (nI y) = nI r ∧ f r = nI (w - 1)
theorem n99 {w : Nat} (h : w ≤ 12) : nI w ≠ 99 := fun e => by
  have := congrArg Int32.toInt e
  rw [nIt (by omega)] at this
  have : (w : Int) = 99 := this
  omega
theorem n00 {w : Nat} (h : w ≤ 12) (h2 : 1 ≤ w) : nI w ≠ 0 := fun e => by
  have := congrArg Int32.toInt e
  rw [nIt (by omega)] at this
  have : (w : Int) = 0 := this
  omega
theorem FAR.put {f g : Nat → Int32} {q v r y : Nat} (h : FAR f) (hq : q < 1024) (h99 : f q = 99) (h1 : 1 ≤ v) (h2 : v ≤ 12) (hy : y ≤ 9) (hr : r < 1024) (e : nexV (nI q) (nI y) = nI r) (er : f r = nI (v - 1)) (hg : ∀ i, g i = if i = q then nI v else f i) : FAR g := fun i hi => by
  have ne : ∀ r' w, w ≤ 12 → f r' = nI w → r' ≠ q := fun r' w hw e2 e3 => by rw [e3, h99] at e2; exact n99 hw e2.symm
  by_cases c : i = q
  · subst c
    refine Or.inr (Or.inr ⟨v, h1, h2, by rw [hg, if_pos rfl], y, hy, r, hr, e, ?_⟩)
    rw [hg, if_neg (ne r (v - 1) (by omega) er)]; exact er
  · rw [hg i, if_neg c]
    rcases h i hi with g0 | g0 | ⟨w, w1, w2, w3, y', y1, r', r1, r2, r3⟩
    · exact Or.inl g0
    · exact Or.inr (Or.inl g0)
    · exact Or.inr (Or.inr ⟨w, w1, w2, w3, y', y1, r', r1, r2, by rw [hg, if_neg (ne r' (w - 1) (by omega) r3)]; exact r3⟩)
def w270 (a _k : Nat) : Bool := a == 270
theorem w270_Q (i k : Nat) (h : w270 i k = true) : wQ i k = true := by
  have : i = 270 := by unfold w270 at h; simpa using h
  subst this; rfl
theorem w_fillsFar : Okv (f_X12_fillsFar x σ) (fun s => FAR (s.1 270) ∧ frm w270 wl0 σ s) := by
  -- one more far
  have go34 : ∀ (dv v N : Nat) (s : HS), v + dv = 13 → dv < N → 1 ≤ v → FAR (s.1 270) → frm w270 wl0 σ s → Okv (f_X12_fillsFar_34 N (nI v) s) (fun s => FAR (s.1 270) ∧ frm w270 wl0 σ s) := by
    intro dv
    induction dv with
    | zero =>
      intro v N s hv hN h1 hF hf
      obtain ⟨N, rfl⟩ : ∃ q, N = q + 1 := ⟨N - 1, by omega⟩
      show Okv (b_X12_fillsFar_34 (f_X12_fillsFar_34 N) (nI v) s) _
      unfold b_X12_fillsFar_34
      rw [nIt (n := v) (by omega)]
      exact Okv.t (by omega) (Okv.ret ⟨hF, hf⟩)
    | succ dv ih =>
      intro v N s hv hN h1 hF hf
      obtain ⟨N, rfl⟩ : ∃ q, N = q + 1 := ⟨N - 1, by omega⟩
      have go42 : ∀ (dq q M : Nat) (s : HS), q + dq = 1024 → dq < M → FAR (s.1 270) → frm w270 wl0 σ s → Okv (f_X12_fillsFar_42 (f_X12_fillsFar_34 N) M (nI v) (nI q) s) (fun s => FAR (s.1 270) ∧ frm w270 wl0 σ s) := by
        intro dq
        induction dq with
        | zero =>
          intro q M s hq hM hF hf
          obtain ⟨M, rfl⟩ : ∃ q, M = q + 1 := ⟨M - 1, by omega⟩
          show Okv (b_X12_fillsFar_42 (f_X12_fillsFar_34 N) (f_X12_fillsFar_42 (f_X12_fillsFar_34 N) M) (nI v) (nI q) s) _
          unfold b_X12_fillsFar_42
          rw [nIt (n := q) (by omega)]
          refine Okv.f (by omega) (Okv.bd ?_)
          rw [nI_1]
          exact ih (v + 1) N s (by omega) (by omega) (by omega) hF hf
        | succ dq ihq =>
          intro q M s hq hM hF hf
          obtain ⟨M, rfl⟩ : ∃ q, M = q + 1 := ⟨M - 1, by omega⟩
          have nxt : ∀ s, FAR (s.1 270) → frm w270 wl0 σ s → Okv (f_X12_fillsFar_109 (f_X12_fillsFar_34 N) (f_X12_fillsFar_42 (f_X12_fillsFar_34 N) M) (nI v) (nI q) s) (fun s => FAR (s.1 270) ∧ frm w270 wl0 σ s) := fun s hF hf => by
            unfold f_X12_fillsFar_109
            refine Okv.bd ?_
            rw [nI_1]
            exact ihq (q + 1) M s (by omega) (by omega) hF hf
          have go52 : ∀ (dy y K : Nat) (s : HS), y + dy = 10 → dy < K → FAR (s.1 270) → frm w270 wl0 σ s → Okv (f_X12_fillsFar_52 (f_X12_fillsFar_34 N) (f_X12_fillsFar_42 (f_X12_fillsFar_34 N) M) K (nI v) (nI q) (nI y) s) (fun s => FAR (s.1 270) ∧ frm w270 wl0 σ s) := by
            intro dy
            induction dy with
            | zero =>
              intro y K s hy hK hF hf
              obtain ⟨K, rfl⟩ : ∃ q, K = q + 1 := ⟨K - 1, by omega⟩
              show Okv (b_X12_fillsFar_52 (f_X12_fillsFar_34 N) (f_X12_fillsFar_42 (f_X12_fillsFar_34 N) M) (f_X12_fillsFar_52 (f_X12_fillsFar_34 N) (f_X12_fillsFar_42 (f_X12_fillsFar_34 N) M) K) (nI v) (nI q) (nI y) s) _
              unfold b_X12_fillsFar_52
              rw [nIt (n := y) (by omega)]
              exact Okv.t (by omega) (nxt s hF hf)
            | succ dy ihy =>
              intro y K s hy hK hF hf
              obtain ⟨K, rfl⟩ : ∃ q, K = q + 1 := ⟨K - 1, by omega⟩
              have nx2 : ∀ s, FAR (s.1 270) → frm w270 wl0 σ s → Okv (f_X12_fillsFar_103 (f_X12_fillsFar_34 N) (f_X12_fillsFar_42 (f_X12_fillsFar_34 N) M) (f_X12_fillsFar_52 (f_X12_fillsFar_34 N) (f_X12_fillsFar_42 (f_X12_fillsFar_34 N) M) K) (nI v) (nI q) (nI y) s) (fun s => FAR (s.1 270) ∧ frm w270 wl0 σ s) := fun s hF hf => by
                unfold f_X12_fillsFar_103
                refine Okv.bd ?_
                rw [nI_1]
                exact ihy (y + 1) K s (by omega) (by omega) hF hf
              show Okv (b_X12_fillsFar_52 (f_X12_fillsFar_34 N) (f_X12_fillsFar_42 (f_X12_fillsFar_34 N) M) (f_X12_fillsFar_52 (f_X12_fillsFar_34 N) (f_X12_fillsFar_42 (f_X12_fillsFar_34 N) M) K) (nI v) (nI q) (nI y) s) _
              unfold b_X12_fillsFar_52
              rw [nIt (n := y) (by omega), nIt (n := q) (by omega), Int.toNat_natCast]
              refine Okv.f (by omega) (Okv.t (by omega) (Okv.i (fun c99 => ?_) (fun _ => nxt s hF hf)))
              have e99 : s.1 270 q = 99 := Int32.toInt_inj.mp c99
              have rg := nex_rg q (by omega) y (by omega)
              have en : f_X12_nextOf (nI q) (nI y) s = some (nexV (nI q) (nI y), s) := e_nextOf
              refine Okv.cl (P := fun r s' => r = nexV (nI q) (nI y) ∧ s' = s) (Ok.of en ⟨rfl, rfl⟩) (fun r s' hr => ?_)
              obtain ⟨rfl, rfl⟩ := hr
              refine Okv.i (fun _ => nx2 s' hF hf) (fun cn => Okv.t (by omega) (Okv.i (fun ce => Okv.t (by omega) (Okv.bd ?_)) (fun _ => nx2 s' hF hf)))
              have hv0 : nI v - (1 : Int32) = nI (v - 1) := by
                obtain ⟨w, rfl⟩ : ∃ w, v = w + 1 := ⟨v - 1, by omega⟩
                rw [nI_mm (by omega)]; rfl
              rw [hv0] at ce
              refine nx2 _ (hF.put (q := q) (v := v) (y := y) (r := (nexV (nI q) (nI y)).toInt.toNat) (by omega) e99 h1 (by omega) (by omega) (by omega) (nI_tn (by omega) (by omega)) (Int32.toInt_inj.mp ce) (fun i => ?_)) (hf.I rfl)
              by_cases ci : i = q
              · rw [ci, rI_s, if_pos rfl]
              · rw [rI_k ci, if_neg ci]
          show Okv (b_X12_fillsFar_42 (f_X12_fillsFar_34 N) (f_X12_fillsFar_42 (f_X12_fillsFar_34 N) M) (nI v) (nI q) s) _
          unfold b_X12_fillsFar_42
          rw [nIt (n := q) (by omega)]
          exact Okv.t (by omega) (go52 10 0 5000 s (by omega) (by omega) hF hf)
      show Okv (b_X12_fillsFar_34 (f_X12_fillsFar_34 N) (nI v) s) _
      unfold b_X12_fillsFar_34
      rw [nIt (n := v) (by omega)]
      exact Okv.f (by omega) (go42 1024 0 5000 s (by omega) (by omega) hF hf)
  -- the first filling
  have go2 : ∀ (dq q N : Nat) (s : HS), q + dq = 1024 → dq < N → (∀ i, i < q → s.1 270 i = 99 ∨ s.1 270 i = 0) → frm w270 wl0 σ s → Okv (f_X12_fillsFar_2 N x (nI q) s) (fun s => FAR (s.1 270) ∧ frm w270 wl0 σ s) := by
    intro dq
    induction dq with
    | zero =>
      intro q N s hq hN hz hf
      obtain ⟨N, rfl⟩ : ∃ q, N = q + 1 := ⟨N - 1, by omega⟩
      show Okv (b_X12_fillsFar_2 (f_X12_fillsFar_2 N) x (nI q) s) _
      unfold b_X12_fillsFar_2
      rw [nIt (n := q) (by omega)]
      refine Okv.f (by omega) (go34 12 1 5000 s (by omega) (by omega) (by omega) (fun i hi => ?_) hf)
      rcases hz i (by omega) with g | g
      · exact Or.inl g
      · exact Or.inr (Or.inl g)
    | succ dq ih =>
      intro q N s hq hN hz hf
      obtain ⟨N, rfl⟩ : ∃ q, N = q + 1 := ⟨N - 1, by omega⟩
      have st : ∀ v : Int32, (v = 99 ∨ v = 0) → Okv (f_X12_fillsFar_25 (f_X12_fillsFar_2 N) x (nI q) v (nI q) s) (fun s => FAR (s.1 270) ∧ frm w270 wl0 σ s) := fun v hv => by
        unfold f_X12_fillsFar_25
        rw [nIt (n := q) (by omega), Int.toNat_natCast]
        refine Okv.t (by omega) (Okv.bd (Okv.bd ?_))
        rw [nI_1]
        refine ih (q + 1) N _ (by omega) (by omega) (fun i hi => ?_) (hf.I rfl)
        by_cases c : i = q
        · rw [c, rI_s]; exact hv
        · rw [rI_k c]; exact hz i (by omega)
      show Okv (b_X12_fillsFar_2 (f_X12_fillsFar_2 N) x (nI q) s) _
      unfold b_X12_fillsFar_2
      rw [nIt (n := q) (by omega)]
      exact Okv.t (by omega) (Okv.i (fun _ => st 0 (Or.inr rfl)) (fun _ => st 99 (Or.inl rfl)))
  unfold f_X12_fillsFar
  rw [nI0]
  exact go2 1024 0 5000 σ (by omega) (by omega) (fun i hi => absurd hi (by omega)) frm.rf
theorem w_firstOf {q w : Nat} (hF : FAR (s.1 270)) (hq : q < 1024) (h1 : 1 ≤ w) (h2 : w ≤ 12) (e : s.1 270 q = nI w) : Ok (f_X12_firstOf (nI q) s) (fun r s2 => s2 = s ∧ ∃ y, y ≤ 9 ∧ r = nI y ∧ ∃ r', r' < 1024 ∧ nexV (nI q) (nI y) = nI r' ∧ s.1 270 r' = nI (w - 1)) := by
  obtain ⟨w', w1, w2, w3, Y, y1, R, r1, r2, r3⟩ : ∃ w', 1 ≤ w' ∧ w' ≤ 12 ∧ s.1 270 q = nI w' ∧ ∃ y, y ≤ 9 ∧ ∃ r, r < 1024 ∧ nexV (nI q) (nI y) = nI r ∧ s.1 270 r = nI (w' - 1) := by
    rcases hF q hq with g | g | g
    · rw [e] at g; exact absurd g (n99 h2)
    · rw [e] at g; exact absurd g (n00 h2 h1)
    · exact g
  have ew : w' = w := by
    have := congrArg Int32.toInt (w3.symm.trans e)
    rw [nIt (by omega), nIt (by omega)] at this
    omega
  subst ew
  have hv0 : nI w' - (1 : Int32) = nI (w' - 1) := by
    obtain ⟨v, rfl⟩ : ∃ v, w' = v + 1 := ⟨w' - 1, by omega⟩
    rw [nI_mm (by omega)]; rfl
  have loop : ∀ (dd y N : Nat), y + dd = Y → dd < N → Ok (f_X12_firstOf_2 N (nI q) (nI y) s) (fun r s2 => s2 = s ∧ ∃ y, y ≤ 9 ∧ r = nI y ∧ ∃ r', r' < 1024 ∧ nexV (nI q) (nI y) = nI r' ∧ s.1 270 r' = nI (w' - 1)) := by
    intro dd
    induction dd with
    | zero =>
      intro y N hy hN
      obtain ⟨N, rfl⟩ : ∃ q, N = q + 1 := ⟨N - 1, by omega⟩
      obtain rfl : y = Y := by omega
      show Ok (b_X12_firstOf_2 (f_X12_firstOf_2 N) (nI q) (nI y) s) _
      unfold b_X12_firstOf_2
      refine Ok.cle e_nextOf ?_
      rw [r2, nIt (n := R) (by omega)]
      refine Ok.f (by omega) (Ok.cle e_nextOf ?_)
      rw [r2, nIt (n := R) (by omega), nIt (n := q) (by omega), Int.toNat_natCast, Int.toNat_natCast, r3, e, hv0]
      exact Ok.t (by omega) (Ok.t (by omega) (Ok.t rfl (Ok.ret ⟨rfl, y, y1, rfl, R, r1, r2, r3⟩)))
    | succ dd ih =>
      intro y N hy hN
      obtain ⟨N, rfl⟩ : ∃ q, N = q + 1 := ⟨N - 1, by omega⟩
      have nxt : Ok (f_X12_firstOf_31 (f_X12_firstOf_2 N) (nI q) (nI y) s) (fun r s2 => s2 = s ∧ ∃ y, y ≤ 9 ∧ r = nI y ∧ ∃ r', r' < 1024 ∧ nexV (nI q) (nI y) = nI r' ∧ s.1 270 r' = nI (w' - 1)) := by
        unfold f_X12_firstOf_31
        refine Ok.bd ?_
        rw [nI_1]
        exact ih (y + 1) N (by omega) (by omega)
      have rg := nex_rg q hq y (by omega)
      show Ok (b_X12_firstOf_2 (f_X12_firstOf_2 N) (nI q) (nI y) s) _
      unfold b_X12_firstOf_2
      refine Ok.cle e_nextOf (Ok.i (fun _ => nxt) (fun cn => Ok.cle e_nextOf ?_))
      rw [nIt (n := q) (by omega), Int.toNat_natCast, e, hv0]
      refine Ok.t (by omega) (Ok.t (by omega) (Ok.i (fun ce => Ok.ret ⟨rfl, y, by omega, rfl, _, ?_, nI_tn (by omega) (by omega), Int32.toInt_inj.mp ce⟩) (fun _ => nxt)))
      omega
  unfold f_X12_firstOf
  rw [nI0]
  exact loop Y 0 5000 (by omega) (by omega)
theorem q_into_m (h : RELx n d t u sd ρ k nx H m tb9 G σ) : Ok (f_X12_into x y σ) (fun _ s => frm wQ wl0 σ s) := by
  have hT := h.tc.T7
  have hP := h.tc.2.1.2.1
  unfold f_X12_into
  have h55 : ∀ s, frm wQ wl0 σ s → Ok (f_X12_into_55 y s) (fun _ s => frm wQ wl0 σ s) := fun s hs => by
    unfold f_X12_into_55
    exact Ok.i (fun _ => Ok.ret hs) (fun _ => Ok.ret hs)
  refine Ok.cle (e_isPattern h.tm.lv h.tm.2.2.2.1.1 hP) ?_
  by_cases c : 0 ≤ x.toInt ∧ x.toInt < d.1.2.1
  · obtain ⟨p, hp, rfl⟩ := in_T c (by omega)
    refine Ok.f (fun e => if10.mp e c) (Ok.cl (w_keepsOf h.tm h.ok hp) (fun r3 s3 h3 => ?_))
    have f3 : frm wQ wl0 σ s3 := h3.2.2.sub tp_wQ
    refine Ok.i (fun _ => Ok.ret f3) (fun _ => Ok.i (fun _ => Ok.ret f3) (fun cy => Ok.cl (w_landsM (h.fr f3)) (fun r5 s5 h5 => ?_)))
    obtain ⟨e5, R5, g5⟩ := h5
    have f5 : frm wQ wl0 σ s5 := f3.tr (g5.sub cp_wQ)
    have h5 := h.fr f5
    refine Ok.cl (w_aimOf h5.tm h5.ok hp) (fun r7 s7 h7 => ?_)
    subst h7
    refine Ok.cv w_fillsFar (fun s9 h9 => ?_)
    have f9 : frm wQ wl0 σ s9 := f5.tr (h9.2.sub w270_Q)
    have M9 := (h.fr f9).tm
    have soon : Ok (f_X12_areTwoSoon s9) (fun _ s => s = s9) := by
      have loop : ∀ (dd q N : Nat), q + dd = 10 → dd < N → Ok (f_X12_areTwoSoon_2 N (nI q) s9) (fun _ s => s = s9) := by
        intro dd
        induction dd with
        | zero =>
          intro q N hq hN
          obtain ⟨N, rfl⟩ : ∃ q, N = q + 1 := ⟨N - 1, by omega⟩
          show Ok (b_X12_areTwoSoon_2 (f_X12_areTwoSoon_2 N) (nI q) s9) _
          unfold b_X12_areTwoSoon_2
          rw [nIt (n := q) (by omega)]
          exact Ok.f (by omega) (Ok.ret rfl)
        | succ dd ih =>
          intro q N hq hN
          obtain ⟨N, rfl⟩ : ∃ q, N = q + 1 := ⟨N - 1, by omega⟩
          show Ok (b_X12_areTwoSoon_2 (f_X12_areTwoSoon_2 N) (nI q) s9) _
          unfold b_X12_areTwoSoon_2
          rw [nIt (n := q) (by omega)]
          refine Ok.t (by omega) (Ok.cle (e_landsAt M9.lv) (Ok.i (fun _ => Ok.ret rfl) (fun _ => Ok.bd ?_)))
          rw [nI_1]
          exact ih (q + 1) N (by omega) (by omega)
      unfold f_X12_areTwoSoon
      rw [nI0]
      exact loop 10 0 5000 (by omega) (by omega)
    have hb := bsN_lt (p := lanP ρ d.1.1.1) (n := 10)
    have e5' : r5 = nI (bsN (lanP ρ d.1.1.1) 10) := by rw [e5]; unfold lanS; exact bset_N (by omega)
    generalize hB : bsN (lanP ρ d.1.1.1) 10 = B at e5' hb
    subst e5'
    have hB1 : B < 1024 := by omega
    refine Ok.cl soon (fun r11 s11 h11 => ?_)
    subst h11
    rw [nIt (n := B) (by omega), Int.toNat_natCast]
    refine Ok.i (fun _ => Ok.t (by omega) (Ok.i (fun _ => h55 s11 f9) (fun c99 => Ok.i (fun _ => Ok.t (by omega) (Ok.ret f9)) (fun cn => Ok.t (by omega) (Ok.i (fun cl => ?_) (fun _ => Ok.ret f9)))))) (fun _ => h55 s11 f9)
    obtain ⟨w, w1, w2, w3⟩ : ∃ w, 1 ≤ w ∧ w ≤ 12 ∧ s11.1 270 B = nI w := by
      rcases h9.1 B hB1 with g | g | ⟨w, w1, w2, w3, -⟩
      · exact absurd (congrArg Int32.toInt g) c99
      · rw [g, i0_eq] at cl; omega
      · exact ⟨w, w1, w2, w3⟩
    rw [w3, nIt (n := w) (by omega)] at cl
    obtain ⟨X, hX, rfl⟩ : ∃ X : Nat, X < w ∧ y = nI X := ⟨y.toInt.toNat, by omega, nI_tn (by omega) (by omega)⟩
    have loop : ∀ (dd j N q w : Nat), j + dd = X → dd < N → q < 1024 → dd < w → w ≤ 12 → s11.1 270 q = nI w → Ok (f_X12_into_95 N (nI X) (nI q) (nI j) s11) (fun _ s => frm wQ wl0 σ s) := by
      intro dd
      induction dd with
      | zero =>
        intro j N q w hj hN hq hw hw2 e
        obtain ⟨N, rfl⟩ : ∃ q, N = q + 1 := ⟨N - 1, by omega⟩
        show Ok (b_X12_into_95 (f_X12_into_95 N) (nI X) (nI q) (nI j) s11) _
        unfold b_X12_into_95
        rw [nIt (n := j) (by omega), nIt (n := X) (by omega)]
        exact Ok.f (by omega) (Ok.cl (w_firstOf h9.1 hq (by omega) hw2 e) (fun r s hs => Ok.ret (by rw [hs.1]; exact f9)))
      | succ dd ih =>
        intro j N q w hj hN hq hw hw2 e
        obtain ⟨N, rfl⟩ : ∃ q, N = q + 1 := ⟨N - 1, by omega⟩
        show Ok (b_X12_into_95 (f_X12_into_95 N) (nI X) (nI q) (nI j) s11) _
        unfold b_X12_into_95
        rw [nIt (n := j) (by omega), nIt (n := X) (by omega)]
        refine Ok.t (by omega) (Ok.cl (w_firstOf h9.1 hq (by omega) hw2 e) (fun r s hs => ?_))
        obtain ⟨rfl, y, y1, rfl, r', r1, r2, r3⟩ := hs
        refine Ok.cle e_nextOf (Ok.bd ?_)
        rw [r2, nI_1]
        exact ih (j + 1) N r' (w - 1) (by omega) (by omega) r1 (by omega) (by omega) r3
    have := loop X 0 5000 B w (by omega) (by omega) hB1 hX w2 w3
    rw [nI_0] at this
    exact this
  · exact Ok.t (if10.mpr c) (Ok.ret frm.rf)
theorem simx_into : SIMx n (f_X11_into x y) (f_X12_into x y) := sim_x (fun d t u sd ρ k nx H m tb G σ h => ⟨q_into_c h, q_into_m h⟩)
end INTOM
/-! ways: that both answer -/
section WAYS9
variable {σ s s2 : HS} {n t u sd k nx m T p : Nat} {ρ : Nat → Int32} {d : DAT} {b : Int} {H G : Nat → Nat → Int32} {tb9 : Nat → Nat} {x y z x1 x2 x3 x4 : Int32}
def w24 (a k : Nat) : Bool := (a == 22 && k == 2) || a == 23 || a == 24
theorem w24_Q (i k : Nat) (h : w24 i k = true) : wQ i k = true := by
  unfold w24 at h
  simp only [Bool.or_eq_true, Bool.and_eq_true, beq_iff_eq] at h
  rcases h with (⟨h, h2⟩ | h) | h <;> subst h <;> rfl
theorem w_finish {P : Nat} (h3 : s.1 22 3 = nI P) (hP : 1 ≤ P ∧ P ≤ 5) : Okv (f_X8_finish s) (fun s2 => frm w24 wl0 s s2) := by
  have st : ∀ s1, frm w24 wl0 s s1 → Okv (f_X8_finish_24 s1) (fun s2 => frm w24 wl0 s s2) := fun s1 h1 => by
    unfold f_X8_finish_24
    exact Okv.bd (Okv.ret (h1.I rfl))
  unfold f_X8_finish
  rw [h3, nIt (n := P) (by omega)]
  exact Okv.i (fun _ => Okv.t (by omega) (Okv.bd (st _ (frm.rf.A (fun _ => rfl))))) (fun _ => st s frm.rf)
theorem w_fill8 {P M : Nat} (hP : 1 ≤ P ∧ P ≤ 5) (hM : M ≤ 7) : ∀ (dd a N : Nat) (x2 x3 : Int32) (s : HS), a + dd = P → dd < N → s.1 22 3 = nI P → s.1 22 4 = nI M → Okv (f_X8_fill N (nI a) x2 x3 s) (fun s2 => frm w24 wl0 s s2) := by
  intro dd
  induction dd with
  | zero =>
    intro a N x2 x3 s ha hN h3 h4
    obtain ⟨N, rfl⟩ : ∃ q, N = q + 1 := ⟨N - 1, by omega⟩
    show Okv (g_X8_fill (f_X8_fill N) (nI a) x2 x3 s) _
    unfold g_X8_fill
    rw [h3, nIt (n := a) (by omega), nIt (n := P) (by omega)]
    exact Okv.f (by omega) (Okv.i (fun _ => Okv.cv (w_finish h3 hP) (fun s1 h1 => Okv.ret h1)) (fun _ => Okv.ret frm.rf))
  | succ dd ih =>
    intro a N x2 x3 s ha hN h3 h4
    obtain ⟨N, rfl⟩ : ∃ q, N = q + 1 := ⟨N - 1, by omega⟩
    have loop : ∀ (dy y K : Nat) (s1 : HS), y + dy = M + 1 → dy < K → frm w24 wl0 s s1 → Okv (f_X8_fill_20 (f_X8_fill N) K (nI a) x2 x3 (nI y) s1) (fun s2 => frm w24 wl0 s s2) := by
      intro dy
      induction dy with
      | zero =>
        intro y K s1 hy hK hf
        obtain ⟨K, rfl⟩ : ∃ q, K = q + 1 := ⟨K - 1, by omega⟩
        show Okv (b_X8_fill_20 (f_X8_fill N) (f_X8_fill_20 (f_X8_fill N) K) (nI a) x2 x3 (nI y) s1) _
        unfold b_X8_fill_20
        rw [hf.1 22 4 rfl, h4, nIt (n := y) (by omega), nIt (n := M) (by omega)]
        exact Okv.t (by omega) (Okv.ret hf)
      | succ dy ihy =>
        intro y K s1 hy hK hf
        obtain ⟨K, rfl⟩ : ∃ q, K = q + 1 := ⟨K - 1, by omega⟩
        have nxt : ∀ s1, frm w24 wl0 s s1 → Okv (f_X8_fill_78 (f_X8_fill N) (f_X8_fill_20 (f_X8_fill N) K) (nI a) x2 x3 (nI y) s1) (fun s2 => frm w24 wl0 s s2) := fun s1 hf => by
          unfold f_X8_fill_78
          refine Okv.bd ?_
          rw [nI_1]
          exact ihy (y + 1) K s1 (by omega) (by omega) hf
        show Okv (b_X8_fill_20 (f_X8_fill N) (f_X8_fill_20 (f_X8_fill N) K) (nI a) x2 x3 (nI y) s1) _
        unfold b_X8_fill_20
        rw [hf.1 22 4 rfl, hf.1 22 3 rfl, h3, h4, nIt (n := y) (by omega), nIt (n := M) (by omega), nIt (n := P) (by omega), nIt (n := a) (by omega), Int.toNat_natCast]
        refine Okv.f (by omega) (Okv.i (fun _ => Okv.ret hf) (fun _ => Okv.f (by omega) (Okv.bd (Okv.i (fun _ => Okv.t (by omega) (Okv.bd ?_)) (fun _ => nxt s1 hf)))))
        have F2 : frm w24 wl0 s (hI s1 23 a (nI y)) := hf.I rfl
        have := ih (a + 1) N (x2 ||| ((1 : Int32) <<< (((nI a + nI y) - (nI a + nI y) / nI P * nI P) &&& 31))) (x3 - nI y) (hI s1 23 a (nI y)) (by omega) (by omega) (by rw [F2.1 22 3 rfl]; exact h3) (by rw [F2.1 22 4 rfl]; exact h4)
        rw [nI_1 a]
        exact Okv.cv this (fun s3 h3' => nxt s3 (F2.tr h3'))
    show Okv (g_X8_fill (f_X8_fill N) (nI a) x2 x3 s) _
    unfold g_X8_fill
    rw [h3, nIt (n := a) (by omega), nIt (n := P) (by omega)]
    exact Okv.t (by omega) (loop (M + 1) 0 5000 s (by omega) (by omega) frm.rf)
theorem cap5 : ∀ P, P < 6 → 1 ≤ P → (if (1 : Int32) < (if (5 : Int32) < nI P then 5 else nI P) then (if (5 : Int32) < nI P then 5 else nI P) else 1) = nI P := by decide +kernel
theorem q_ways_c9 : Ok (f_X11_ways x1 x2 x3 x4 σ) (fun _ s => frm wQ wl0 σ s) := by
  unfold f_X11_ways
  refine Ok.i (fun _ => Ok.ret frm.rf) (fun a1 => Ok.i (fun _ => Ok.ret frm.rf) (fun a2 => Ok.i (fun _ => Ok.ret frm.rf) (fun a3 => Ok.i (fun _ => Ok.ret frm.rf) (fun a4 => Ok.i (fun _ => Ok.ret frm.rf) (fun a5 => Ok.i (fun _ => Ok.ret frm.rf) (fun a6 => Ok.i (fun _ => Ok.ret frm.rf) (fun a7 => Ok.i (fun a8 => ?_) (fun _ => Ok.ret frm.rf))))))))
  obtain ⟨P, hP, rfl⟩ : ∃ P : Nat, (1 ≤ P ∧ P ≤ 5) ∧ x1 = nI P := ⟨x1.toInt.toNat, by omega, nI_tn (by omega) (by omega)⟩
  obtain ⟨M, hM, rfl⟩ : ∃ P : Nat, (1 ≤ P ∧ P ≤ 7) ∧ x2 = nI P := ⟨x2.toInt.toNat, by omega, nI_tn (by omega) (by omega)⟩
  rw [nIt (n := P) (by omega)] at a8
  have fnd : Okv (f_X8_find (nI P) (nI M) x3 σ) (fun s => frm wQ wl0 σ s) := by
    unfold f_X8_find
    refine Okv.bd (Okv.bd (Okv.bd ?_))
    rw [cap5 P (by omega) (by omega), nI0]
    have F : frm wQ wl0 σ (hI (hI (hI σ 22 3 (nI P)) 22 4 (nI M)) 22 2 (nI 0)) := ((frm.rf.I rfl).I rfl).I rfl
    refine Okv.cv (w_fill8 hP hM.2 P 0 7 _ _ _ (by omega) (by omega) ?_ ?_) (fun s1 h1 => Okv.ret (F.tr (h1.sub w24_Q)))
    · rw [rI_k (by decide), rI_k (by decide), rI_s]
    · rw [rI_k (by decide), rI_s]
  refine Ok.cv fnd (fun s1 h1 => Ok.i (fun _ => Ok.ret h1) (fun a9 => Ok.i (fun _ => Ok.ret h1) (fun _ => Ok.t (by omega) (Ok.ret h1))))
theorem nI_mulB {a c : Nat} (ha : a ≤ 4096) (hc : c ≤ 8) : nI a * nI c = nI (a * c) := Int32.toInt_inj.mp (by
  have hb : a * c ≤ 4096 * 8 := Nat.mul_le_mul ha hc
  rw [Int32.toInt_mul, nIt (n := a) (by omega), nIt (n := c) (by omega), nIt (n := a * c) (by omega), ← Int.natCast_mul, Int.bmod_def]
  omega)
theorem q_ways_m9 : Ok (f_X12_ways x1 x2 x3 x4 σ) (fun _ s => frm wQ wl0 σ s) := by
  unfold f_X12_ways
  refine Ok.cle e_in ?_
  by_cases a1 : (1 : Int32).toInt ≤ x1.toInt ∧ x1.toInt ≤ (5 : Int32).toInt
  · refine Ok.f (fun e => if10.mp e a1) (Ok.cle e_in ?_)
    by_cases a2 : (1 : Int32).toInt ≤ x2.toInt ∧ x2.toInt ≤ (7 : Int32).toInt
    · refine Ok.f (fun e => if10.mp e a2) (Ok.cle e_in ?_)
      by_cases a3 : (0 : Int32).toInt ≤ x3.toInt ∧ x3.toInt ≤ (7 : Int32).toInt
      · refine Ok.f (fun e => if10.mp e a3) (Ok.cle e_in ?_)
        by_cases a4 : (-1 : Int32).toInt ≤ x4.toInt ∧ x4.toInt ≤ (x1 - (1 : Int32)).toInt
        · refine Ok.f (fun e => if10.mp e a4) ?_
          have c1 : (1 : Int32).toInt = 1 := rfl
          have c5 : (5 : Int32).toInt = 5 := rfl
          have c7 : (7 : Int32).toInt = 7 := rfl
          have cm : (-1 : Int32).toInt = -1 := rfl
          rw [c1, c5] at a1
          rw [c1, c7] at a2
          rw [cm] at a4
          obtain ⟨P, hP, rfl⟩ : ∃ P : Nat, (1 ≤ P ∧ P ≤ 5) ∧ x1 = nI P := ⟨x1.toInt.toNat, by omega, nI_tn (by omega) (by omega)⟩
          obtain ⟨M, hM, rfl⟩ : ∃ P : Nat, (1 ≤ P ∧ P ≤ 7) ∧ x2 = nI P := ⟨x2.toInt.toNat, by omega, nI_tn (by omega) (by omega)⟩
          have eP : nI P - (1 : Int32) = nI (P - 1) := by
            obtain ⟨q, rfl⟩ : ∃ q, P = q + 1 := ⟨P - 1, by omega⟩
            rw [nI_mm (by omega)]; rfl
          rw [eP, nIt (n := P - 1) (by omega)] at a4
          have eM : nI M + (1 : Int32) = nI (M + 1) := nI_1 M
          have go80 : ∀ (dc c N : Nat) (tt : Nat) (y6 : Int32) (s : HS), tt ≤ 32768 → c + dc = tt → dc < N → s.1 236 57 = nI P → frm wQ wl0 σ s → Ok (f_X12_ways_80 N (nI P) (nI M) x3 x4 (nI tt) y6 (nI c) s) (fun _ s => frm wQ wl0 σ s) := by
            intro dc
            induction dc with
            | zero =>
              intro c N tt y6 s ht hc hN h57 hf
              obtain ⟨N, rfl⟩ : ∃ q, N = q + 1 := ⟨N - 1, by omega⟩
              show Ok (b_X12_ways_80 (f_X12_ways_80 N) (nI P) (nI M) x3 x4 (nI tt) y6 (nI c) s) _
              unfold b_X12_ways_80
              rw [nIt (n := c) (by omega), nIt (n := tt) (by omega)]
              exact Ok.f (by omega) (Ok.i (fun _ => Ok.ret hf) (fun _ => Ok.ret hf))
            | succ dc ih =>
              intro c N tt y6 s ht hc hN h57 hf
              obtain ⟨N, rfl⟩ : ∃ q, N = q + 1 := ⟨N - 1, by omega⟩
              have nxt : ∀ y6 s, s.1 236 57 = nI P → frm wQ wl0 σ s → Ok (f_X12_ways_155 (f_X12_ways_80 N) (nI P) (nI M) x3 x4 (nI tt) y6 (nI c) s) (fun _ s => frm wQ wl0 σ s) := fun y6 s h57 hf => by
                unfold f_X12_ways_155
                refine Ok.bd ?_
                rw [nI_1]
                exact ih (c + 1) N tt y6 s ht (by omega) (by omega) h57 hf
              have go96 : ∀ (dq K v : Nat) (y9 : Int32) (s : HS), y9.toInt = (dq : Int) - 1 → dq ≤ P → dq < K → v ≤ 32768 → s.1 236 57 = nI P → (∀ i, dq ≤ i → i < P → ∃ q, q ≤ 9 ∧ s.1 269 i = nI q) → frm wQ wl0 σ s → Ok (f_X12_ways_96 (f_X12_ways_80 N) K (nI P) (nI M) x3 x4 (nI tt) y6 (nI c) (nI v) y9 s) (fun _ s => frm wQ wl0 σ s) := by
                intro dq
                induction dq with
                | zero =>
                  intro K v y9 s hy hd hK hv h57 hz hf
                  obtain ⟨K, rfl⟩ : ∃ q, K = q + 1 := ⟨K - 1, by omega⟩
                  have hm : HM P (fun i => (s.1 269 i).toInt.toNat) s := ⟨fun i hi => by
                    obtain ⟨q, q1, q2⟩ := hz i (by omega) hi
                    show s.1 269 i = nI ((s.1 269 i).toInt.toNat) ∧ (s.1 269 i).toInt.toNat ≤ 9
                    rw [q2, nIt (by omega), Int.toNat_natCast]
                    exact ⟨rfl, q1⟩, hP.1, by omega, h57⟩
                  show Ok (b_X12_ways_96 (f_X12_ways_80 N) (f_X12_ways_96 (f_X12_ways_80 N) K) (nI P) (nI M) x3 x4 (nI tt) y6 (nI c) (nI v) y9 s) _
                  unfold b_X12_ways_96
                  refine Ok.t (by omega) (Ok.cle (e_keeps hm) (Ok.i (fun _ => Ok.i (fun _ => Ok.bd (nxt _ s h57 hf)) (fun c4 => Ok.t (by omega) (Ok.ret hf))) (fun _ => nxt y6 s h57 hf)))
                | succ dq ihq =>
                  intro K v y9 s hy hd hK hv h57 hz hf
                  obtain ⟨K, rfl⟩ : ∃ q, K = q + 1 := ⟨K - 1, by omega⟩
                  obtain rfl : y9 = nI dq := Int32.toInt_inj.mp (by rw [nIt (by omega)]; omega)
                  show Ok (b_X12_ways_96 (f_X12_ways_80 N) (f_X12_ways_96 (f_X12_ways_80 N) K) (nI P) (nI M) x3 x4 (nI tt) y6 (nI c) (nI v) (nI dq) s) _
                  unfold b_X12_ways_96
                  have hlt := Nat.mod_lt v (show 0 < M + 1 by omega)
                  have hdv : v / (M + 1) ≤ v := Nat.div_le_self _ _
                  rw [eM, nIt (n := dq) (by omega), nIt (n := M + 1) (by omega), Int.toNat_natCast, pk_rem (a := v) (d := M + 1) (by omega) (by omega) (by omega), pk_div (a := v) (d := M + 1) (by omega) (by omega) (by omega)]
                  refine Ok.f (by omega) (Ok.f (by omega) (Ok.t (by omega) (Ok.bd (Ok.f (by omega) (Ok.bd (Ok.bd ?_))))))
                  refine ihq K (v / (M + 1)) _ _ ?_ (by omega) (by omega) (by omega) (by rw [rI_i (by decide)]; exact h57) (fun i h1 h2 => ?_) (hf.I rfl)
                  · cases dq with
                    | zero => rfl
                    | succ q => rw [show nI (q + 1) + (-1 : Int32) = nI q by rw [← nI_1 q, Int32.add_assoc]; exact Int32.add_zero _, nIt (by omega)]; omega
                  · by_cases ci : i = dq
                    · rw [ci, rI_s]; exact ⟨v % (M + 1), by omega, rfl⟩
                    · rw [rI_k ci]; exact hz i (by omega) h2
              show Ok (b_X12_ways_80 (f_X12_ways_80 N) (nI P) (nI M) x3 x4 (nI tt) y6 (nI c) s) _
              unfold b_X12_ways_80
              rw [nIt (n := c) (by omega), nIt (n := tt) (by omega), eP]
              refine Ok.t (by omega) (Ok.bd ?_)
              exact go96 P 5000 c (nI (P - 1)) s (by rw [nIt (by omega)]; omega) (Nat.le_refl _) (by omega) (by omega) h57 (fun i h1 h2 => absurd h2 (by omega)) hf
          have go49 : ∀ (dj j N tt : Nat), j + dj = P → dj < N → tt ≤ 8 ^ j → Ok (f_X12_ways_49 N (nI P) (nI M) x3 x4 (nI tt) (nI j) σ) (fun _ s => frm wQ wl0 σ s) := by
            intro dj
            induction dj with
            | zero =>
              intro j N tt hj hN ht
              obtain ⟨N, rfl⟩ : ∃ q, N = q + 1 := ⟨N - 1, by omega⟩
              have h8 : 8 ^ j ≤ 32768 := Nat.le_trans (Nat.pow_le_pow_right (by omega) (show j ≤ 5 by omega)) (by decide)
              show Ok (b_X12_ways_49 (f_X12_ways_49 N) (nI P) (nI M) x3 x4 (nI tt) (nI j) σ) _
              unfold b_X12_ways_49
              rw [nIt (n := j) (by omega), nIt (n := P) (by omega)]
              refine Ok.f (by omega) (Ok.bd ?_)
              rw [nI0]
              exact go80 tt 0 40000 tt _ _ (by omega) (by omega) (by omega) rI_s (frm.rf.I rfl)
            | succ dj ih =>
              intro j N tt hj hN ht
              obtain ⟨N, rfl⟩ : ∃ q, N = q + 1 := ⟨N - 1, by omega⟩
              have h8 : 8 ^ j ≤ 4096 := Nat.le_trans (Nat.pow_le_pow_right (by omega) (show j ≤ 4 by omega)) (by decide)
              have hb : tt * (M + 1) ≤ 8 ^ j * 8 := Nat.mul_le_mul ht (by omega)
              show Ok (b_X12_ways_49 (f_X12_ways_49 N) (nI P) (nI M) x3 x4 (nI tt) (nI j) σ) _
              unfold b_X12_ways_49
              rw [nIt (n := j) (by omega), nIt (n := P) (by omega), eM, nI_mulB (by omega) (by omega)]
              refine Ok.t (by omega) (Ok.bd (Ok.bd ?_))
              rw [nI_1]
              exact ih (j + 1) N _ (by omega) (by omega) (by rw [Nat.pow_succ]; exact hb)
          rw [show (1 : Int32) = nI 1 from rfl, nI0]
          exact go49 P 0 5000 1 (by omega) (by omega) (by decide)
        · exact Ok.t (if10.mpr a4) (Ok.ret frm.rf)
      · exact Ok.t (if10.mpr a3) (Ok.ret frm.rf)
    · exact Ok.t (if10.mpr a2) (Ok.ret frm.rf)
  · exact Ok.t (if10.mpr a1) (Ok.ret frm.rf)
theorem simx_ways : SIMx n (f_X11_ways x1 x2 x3 x4) (f_X12_ways x1 x2 x3 x4) := sim_x (fun d t u sd ρ k nx H m tb G σ h => ⟨q_ways_c9, q_ways_m9⟩)
end WAYS9
