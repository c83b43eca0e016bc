/-! read, the relation kept -/
section BRD2
variable {σ s s2 : HS} {n t u sd k nx m T : Nat} {ρ : Nat → Int32} {d : DAT} {b : Int} {H G : Nat → Nat → Int32} {tb9 : Nat → Nat}
/-- the class's read, then the reference's: answers, places and tapes alike; accepted texts alike -/
theorem BYT.read2 {t u sd : Nat} (ht : txk t) (hu : txk u) (htu : t ≠ u) (hsd : sd ≤ 1) (h : BYT σ) (hT : TXr t u σ) (hC : CC σ) (hlv : σ.1 236 18 = nI (1 - sd)) (hK : KEY σ) : ∃ r s s2, f_X11_read σ = some (r, s) ∧ f_X12_read s = some (r, s2) ∧ BYT s2 ∧ s2.1 1 1 = s2.1 236 17 ∧ (∀ a k, 236 ≤ a → s.1 a k = σ.1 a k) ∧ (∀ a k, a < 236 → s2.1 a k = s.1 a k) ∧ s2.2.2 = s.2.2 ∧ (∀ a, wlRc a = false → s.2.1 a = σ.2.1 a) ∧ (∀ a, wlRM a = false → s2.2.1 a = s.2.1 a) ∧ (r ≠ 0 → frm (wRc u) wlRc σ s ∧ frm (wRMr sd) wlRM s s2) ∧ (r = 0 → TXr u t s2 ∧ ACc u s ∧ ACm sd s2 ∧ ∃ d : DAT, TC u d s2 ∧ TM sd d s2 ∧ DOK d) ∧ (∀ a k, (wRc u a k || wBA a k) = false → s.1 a k = σ.1 a k) := by
  obtain ⟨m, hm, h1, h2, hb⟩ := h
  have en : nC σ = m := by unfold nC; rw [h1, nIt (by omega), Int.toNat_natCast]
  have w1 := w_read ht hu hT hC
  rw [en] at w1
  obtain ⟨r, s, er, c1, c2, c3, c4, c5, c6, c7⟩ := w1
  have up : ∀ a k, 236 ≤ a → s.1 a k = σ.1 a k := fun a k ha => c5 a k (wRc_hi hu ha)
  have enT : nT2 s = m := by unfold nT2; rw [up 236 2 (by omega), h2, nIt (by omega), Int.toNat_natCast]
  have w2 := mr_read (σ := s) (sd := sd) hsd (by rw [up 236 18 (by omega)]; exact hlv) (by rw [up 236 2 (by omega), h2, nIt (by omega)]; omega) (fun k hk => by rw [c4 243 rfl]; exact hK k hk)
  rw [enT, ← readS_cg (b := bC σ) (b' := bT s) (n := m) (fun i hi => by
    unfold bC bT
    rw [up 237 i (by omega)]; exact hb i hi)] at w2
  obtain ⟨r', s2, er2, d1, d2, d3, σb, d4, d5, d6, d7⟩ := w2
  have eq : r' = r := Int32.toInt_inj.mp (d4.trans c2.symm)
  subst eq
  have dn : ∀ a k, a < 236 → s2.1 a k = s.1 a k := fun a k ha => d2.1 a k (wRM_lo ha)
  refine ⟨r', s, s2, er, er2, ⟨0, by omega, ?_, ?_, fun i hi => absurd hi (by omega)⟩, ?_, up, dn, d2.2.2, c4, d2.2.1, fun hr => ?_, fun hr => ?_, c5⟩
  · rw [dn 2 1 (by omega)]; exact c1
  · exact d1
  · rw [dn 1 1 (by omega)]
    exact Int32.toInt_inj.mp (c3.trans d5.symm)
  · have : r'.toInt ≠ 0 := fun e => hr (Int32.toInt_inj.mp e)
    exact ⟨c6 this, d3 this⟩
  · have hr : r'.toInt = 0 := by rw [hr]; rfl
    obtain ⟨x1, x2, S, x3, x4, x5, x6, x7, p, x8, x9⟩ := c7 hr
    obtain ⟨y1, y2, S', y3, y4, y5, y6, y7, y8⟩ := d7 hr
    have hi : u + 12 < 56 := by rcases hu with rfl | rfl <;> decide
    have es : S' = S := by rw [x3] at y3; exact (Except.ok.inj y3).symm
    subst es
    refine ⟨by unfold TXr; rw [d2.2.2]; exact x1, x2, y2, S'.2.2.2, ⟨⟨?_, x5.2.1, fun e he => ?_⟩, ⟨?_, x6.2.1, fun p hp => ⟨?_, (x6.2.2 p hp).2.1, fun i hi => ?_⟩⟩, ⟨?_, ?_⟩, ⟨p, x8, fun k hk => ?_⟩⟩, ⟨y2.1, hsd, y5, y6, y7, y8⟩, read_ok (fun t h => vl_rg h) x3 x4⟩
    · rw [dn _ _ (by omega)]; exact x5.1
    · rw [dn _ _ (by omega), dn _ _ (by omega), dn _ _ (by omega)]; exact x5.2.2 e he
    · rw [dn _ _ (by omega)]; exact x6.1
    · rw [dn _ _ (by omega)]; exact (x6.2.2 p hp).1
    · rw [dn _ _ (by have := x6.2.1; omega)]; exact (x6.2.2 p hp).2.2 i hi
    · rw [dn _ _ (by omega)]; exact x7.1
    · rw [dn _ _ (by omega)]; exact x7.2
    · obtain ⟨q, q1, q2, q3⟩ := x9 k hk
      exact ⟨q, by rw [dn _ _ (by omega)]; exact q1, q2, q3.same (fun z _ _ => dn _ _ (by omega))⟩
theorem hf_no {sd a k : Nat} (hsd : sd ≤ 1) (h : ((a = 245 ∨ a = 249 ∨ a = 252 ∨ a = 253) ∧ k = sd) ∨ ((a = 246 ∨ a = 247 ∨ a = 248) ∧ 7 * sd ≤ k ∧ k < 7 * sd + 7) ∨ (a = 250 ∧ 5 * sd ≤ k ∧ k < 5 * sd + 5) ∨ (a = 251 ∧ 40 * sd ≤ k ∧ k < 40 * sd + 40) ∨ ((a = 254 ∨ a = 255) ∧ 4 * sd ≤ k ∧ k < 4 * sd + 4) ∨ ((256 ≤ a ∧ a ≤ 260) ∧ 130 * sd ≤ k ∧ k < 130 * sd + 130) ∨ ((a = 261 ∨ a = 262) ∧ 420 * sd ≤ k ∧ k < 420 * sd + 420)) : wRMr (1 - sd) a k = false := by
  have ha : 245 ≤ a ∧ a ≤ 262 := by omega
  have e1 : wr LC a k = false := by
    unfold wr LC
    rw [if_neg (by omega), if_neg (by omega)]
    simp
    omega
  have e2 : wPm (1 - sd) a k = false := by
    unfold wPm
    simp only [Bool.or_eq_false_iff, Bool.and_eq_false_iff, Bool.or_eq_false_iff, beq_eq_false_iff_ne, decide_eq_false_iff_not, ne_eq]
    rcases (show sd = 0 ∨ sd = 1 by omega) with rfl | rfl
    · refine ⟨⟨⟨⟨⟨⟨⟨⟨?_, ?_⟩, ?_⟩, ?_⟩, ?_⟩, ?_⟩, ?_⟩, ?_⟩, ?_⟩ <;> omega
    · refine ⟨⟨⟨⟨⟨⟨⟨⟨?_, ?_⟩, ?_⟩, ?_⟩, ?_⟩, ?_⟩, ?_⟩, ?_⟩, ?_⟩ <;> omega
  unfold wRMr wRd0
  rw [e1, e2, (beq_eq_false_iff_ne.mpr (show a ≠ 236 by omega)), (beq_eq_false_iff_ne.mpr (show a ≠ 238 by omega))]
  rfl
theorem TM.half {wl : Nat → Bool} (h : TM sd d σ) (hf : frm (wRMr (1 - sd)) wl σ s) : TM sd d s := by
  obtain ⟨h0, h1, h2, h3, h4, p, q, h5, h6, h7⟩ := h
  have e18 : wRMr (1 - sd) 236 18 = false := by unfold wRMr wRd0 wPm wr LC; simp
  refine ⟨by rw [hf.1 _ _ e18]; exact h0, h1, ⟨?_, h2.2.1, fun e he => ?_⟩, ⟨?_, h3.2.1, fun p hp => ⟨?_, (h3.2.2 p hp).2.1, fun i hi => ?_⟩⟩, ⟨?_, ?_⟩, p, q, h5, h6, fun k hk => ?_⟩
  · rw [hf.1 _ _ (hf_no h1 (by omega))]; exact h2.1
  · have := h2.2.1
    rw [hf.1 _ _ (hf_no (a := 246) h1 (by omega)), hf.1 _ _ (hf_no (a := 247) h1 (by omega)), hf.1 _ _ (hf_no (a := 248) h1 (by omega))]; exact h2.2.2 e he
  · rw [hf.1 _ _ (hf_no h1 (by omega))]; exact h3.1
  · have := h3.2.1
    rw [hf.1 _ _ (hf_no h1 (by omega))]; exact (h3.2.2 p hp).1
  · have := h3.2.1
    have := (h3.2.2 p hp).2.1
    rw [hf.1 _ _ (hf_no h1 (by omega))]; exact (h3.2.2 p hp).2.2 i hi
  · rw [hf.1 _ _ (hf_no h1 (by omega))]; exact h4.1
  · rw [hf.1 _ _ (hf_no h1 (by omega))]; exact h4.2
  · exact (h7 k hk).mono (Nat.le_refl _) (Nat.le_refl _) (fun a x y => hf.1 _ _ (hf_no h1 (by omega))) (fun a k x y z => hf.1 _ _ (hf_no h1 (by omega))) (fun a k x y z w => hf.1 _ _ (hf_no h1 (by omega)))
theorem rc_no {u a k : Nat} (hu : txk u) (h : a = 3 ∨ 8 ≤ a ∧ a < 30 ∨ 56 ≤ a) : wRc u a k = false := by
  have hi : u + 12 < 56 ∧ 30 ≤ u := by rcases hu with rfl | rfl <;> decide
  unfold wRc wP wCut
  simp
  omega
theorem rc_tx {t u a k : Nat} (ht : txk t) (hu : txk u) (htu : t ≠ u) (h1 : t ≤ a) (h2 : a ≤ t + 12) : wRc u a k = false := by
  rcases ht with rfl | rfl <;> rcases hu with rfl | rfl
  · exact absurd rfl htu
  · unfold wRc wP wCut; simp; omega
  · unfold wRc wP wCut; simp; omega
  · exact absurd rfl htu
theorem rm_lo {sd a k : Nat} (h : a < 236) : wRMr sd a k = false := by
  unfold wRMr wRd0 wPm wr LC
  rw [if_neg (by omega), if_neg (by omega)]
  simp
  omega
theorem rm_hi {sd a k : Nat} (h : 264 ≤ a) (h2 : a < 1000 ∧ a ≠ 267) : wRMr sd a k = false := by
  unfold wRMr wRd0 wPm wr LC
  rw [if_neg (by omega), if_neg (by omega)]
  simp
  omega
theorem sim_read : SIM n f_X11_read f_X12_read := sim_gen (fun d t u sd ρ k nx H m tb G σ h => by
  obtain ⟨⟨c1, c2, c3, c4⟩, ⟨b1, b2, b3, b4, b5, b6, b7⟩, c5, c6, c7, c8⟩ := h.next
  have hsd : sd ≤ 1 := b6.2.1
  have e1s : 1 - (1 - sd) = sd := by omega
  obtain ⟨r, s, s2, e1, e2, q1, q2, q3, q4, q5, q6, q7, q8, q9, q10⟩ := c1.read2 (sd := 1 - sd) b1 b2 b3 (by omega) b4 c2 (by rw [e1s]; exact b6.1) c3
  refine ⟨r, s, s2, e1, e2, ?_⟩
  have P3 : ∀ k, s2.1 3 k = σ.1 3 k := fun k => by rw [q4 3 k (by omega)]; exact q10 3 k (by rw [rc_no b2 (by omega)]; rfl)
  have tap : TAP s2 := ⟨q1, q1.cc (fun k => by rw [P3 k]; exact c2.2 k), fun i hi => by rw [q7 243 rfl, q6 243 rfl]; exact c3 i hi, q2⟩
  by_cases cr : r = 0
  · obtain ⟨y1, y2, y3, d', y4, y5, y6⟩ := q9 cr
    have hT := y4.T7
    have hP := y4.2.1.2.1
    obtain ⟨z1, z2, z3, z4⟩ := y2
    obtain ⟨a1, a2, a3, a4, a5, a6⟩ := z1
    obtain ⟨g1, g2, g3, g4, g5, g6, g7⟩ := y3
    have hi : u + 12 < 56 ∧ 30 ≤ u := by rcases b2 with rfl | rfl <;> decide
    have su : ∀ i k, i < 236 → s.1 i k = s2.1 i k := fun i k x => (q4 i k x).symm
    have eT : (s2.1 245 (1 - sd)).toInt.toNat = d'.1.1.1 := by rw [y5.2.2.1.1, nItn (by omega)]
    have eP : (s2.1 249 (1 - sd)).toInt.toNat = d'.1.2.1 := by rw [y5.2.2.2.1.1, nItn (by omega)]
    let ρ0 : Nat → Int32 := rowB s2 (1 - sd) d'.1.1.1 d'.1.2.1
    have r28 : ρ0 28 = -1 := rfl
    have r26 : ρ0 26 = if 0 < d'.1.2.1 then 0 else -2 := rfl
    have r7 : ∀ e, e < d'.1.1.1 → ρ0 (7 + e) = s2.1 248 (7 * (1 - sd) + e) := fun e he => by
      show (if 7 + e = 28 then (-1 : Int32) else if 7 + e = 26 then (if 0 < d'.1.2.1 then 0 else -2) else if 7 ≤ 7 + e ∧ 7 + e < 7 + d'.1.1.1 then s2.1 248 (7 * (1 - sd) + (7 + e - 7)) else 0) = _
      rw [if_neg (by omega), if_neg (by omega), if_pos (by omega), show 7 + e - 7 = e by omega]
    have r0 : ∀ i, (i < 7 ∨ 14 ≤ i) → i ≠ 26 → i ≠ 28 → ρ0 i = 0 := fun i h h2 h3 => by
      show (if i = 28 then (-1 : Int32) else if i = 26 then (if 0 < d'.1.2.1 then 0 else -2) else if 7 ≤ i ∧ i < 7 + d'.1.1.1 then s2.1 248 (7 * (1 - sd) + (i - 7)) else 0) = _
      rw [if_neg h3, if_neg h2, if_neg (by omega)]
    have hA : AR 56 d'.1.1.1 ρ0 s2 := by
      refine ⟨?_, fun e he => ⟨?_, ?_, ?_⟩, fun k x y => ?_, ?_, ?_, ?_⟩
      · rw [q4 56 0 (by omega), a1, su u 0 (by omega)]; exact y4.1.1
      · rw [q4 57 e (by omega), (a2 e (by omega)).1, r0 e (by omega) (by omega) (by omega)]
      · rw [q4 58 e (by omega), (a2 e (by omega)).2.1, su (u + 3) e (by omega), r7 e he]
        exact Int32.toInt_inj.mp ((y4.1.2.2 e he).2.2.trans (y5.2.2.1.2.2 e he).2.2.symm)
      · rw [q4 59 e (by omega), (a2 e (by omega)).2.2, r0 (14 + e) (by omega) (by omega) (by omega)]
      · rw [q4 56 k (by omega), a3 k x y, r0 (17 + k) (by omega) (by omega) (by omega)]
      · rw [q4 56 9 (by omega), a4, su u 4 (by omega), y4.2.1.1, nIt (by omega), r26]
        by_cases cP : 0 < d'.1.2.1
        · rw [if_pos (by omega), if_pos cP, if_neg (by decide)]
        · rw [if_neg (by omega), if_neg cP, if_pos rfl]
      · rw [q4 56 10 (by omega), a5, r0 27 (by omega) (by omega) (by omega)]
      · rw [q4 56 11 (by omega), a6, r28]
    have hN : NWm ρ0 s2 := fun i hi => by
      have := (g7 i hi).2
      rw [eT, eP] at this
      exact this
    have hW : RW d' (60 * ((n + 1 : Nat) : Int)) ρ0 := by
      refine ⟨fun e he => ⟨?_, fun _ => ?_⟩, ?_, ?_, ?_, ?_, ?_⟩
      · rw [r0 e (by omega) (by omega) (by omega)]; decide
      · rw [r7 e he, (y5.2.2.1.2.2 e he).2.2]; exact (y6.1 e he).2.2
      · rw [r0 21 (by omega) (by omega) (by omega), i0_eq]; omega
      · rw [r0 21 (by omega) (by omega) (by omega), r0 27 (by omega) (by omega) (by omega), i0_eq]; omega
      · rw [r26]
        by_cases cP : 0 < d'.1.2.1
        · rw [if_pos cP, i0_eq]; exact Or.inr ⟨by omega, by omega⟩
        · rw [if_neg cP]; exact Or.inl rfl
      · rw [r28]; decide
      · rw [r0 22 (by omega) (by omega) (by omega)]; decide
    have o12 : s2.1 12 1 = nI nx := by
      rw [q4 12 1 (by omega), q10 12 1 (by rw [rc_no b2 (by omega)]; rfl)]; exact c6.1
    refine ⟨d', u, t, 1 - sd, ρ0, 0, nx, H, 0, tb, G, tap, ⟨b2, b1, fun e => b3 e.symm, y1, y4, y5, y6⟩, ⟨hA, hN, hW⟩, ⟨o12, c6.2.1, by rw [q4 12 2 (by omega)]; exact z2, by decide, g4, fun j hj => absurd hj (by omega)⟩, ⟨by rw [q4 14 2 (by omega)]; exact z3, by decide, g5, fun i hi => absurd hi (by omega)⟩, fun j hj => ⟨⟨?_, ?_⟩, fun e => ?_⟩⟩
    · rw [q4 26 j (by omega), z4 j hj, g6 j hj]
    · exact Or.inl (g6 j hj)
    · rw [g6 j hj] at e; exact absurd e (by decide)
  · obtain ⟨f1, f2⟩ := q8 cr
    have lo : ∀ i k, i < 236 → wRMr (1 - sd) i k = false := fun i k h => rm_lo h
    have u12 : ∀ i k, 56 ≤ i → wRc u i k = false := fun i k h => rc_no b2 (by omega)
    refine ⟨d, t, u, sd, ρ, k, nx, H, m, tb, G, tap, ⟨b1, b2, b3, ?_, ?_, ?_, b7⟩, ⟨?_, ?_, c5.2.2⟩, ?_, ?_, ?_⟩
    · unfold TXr
      rw [f2.2.2, f1.2.2]; exact b4
    · exact (b5.fr f1 (fun i k x y => rc_tx b1 b2 b3 x y)).fr f2 (fun i k x y => lo i k (by rcases b1 with rfl | rfl <;> omega))
    · exact (b6.fr f1 (u12 _ _ (by omega)) (fun i k x y => u12 i k (by omega))).half f2
    · exact (c5.1.fr f1 (fun i k x y => u12 i k (by omega))).fr f2 (fun i k x y => lo i k (by omega))
    · exact (c5.2.1.fr f1 (fun k => u12 _ _ (by omega))).fr f2 (fun k => rm_hi (by omega) (by omega))
    · exact (c6.fr f1 (fun i k x y => u12 i k (by omega)) (fun k => u12 _ _ (by omega)) (fun k => rc_no b2 (by omega)) (u12 _ _ (by omega))).fr f2 (fun i k x y => lo i k (by omega)) (fun k => rm_hi (by omega) (by omega)) (fun k => lo _ _ (by omega)) (by unfold wRMr wRd0 wPm wr LC; simp)
    · exact (c7.fr f1 (fun i k x y => rc_no b2 (by omega)) (fun i k x y => u12 i k (by omega)) (u12 _ _ (by omega))).fr f2 (fun i k x y => lo i k (by omega)) (fun i k x y => rm_hi (by omega) (by omega)) (by unfold wRMr wRd0 wPm wr LC; simp)
    · exact (c8.fr f1 (fun i k x y => u12 i k (by omega)) (fun i k x y => u12 i k (by omega)) (fun k => rc_no b2 (by omega))).fr f2 (fun i k x y => lo i k (by omega)) (fun i k x y => rm_hi (by omega) (by omega)) (fun k => lo _ _ (by omega)))
end BRD2
