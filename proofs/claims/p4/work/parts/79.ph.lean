/-! the class's statements -/
section STC
variable {b : Nat → Int32} {n tx : Nat} {σc σ : HS}
theorem RC.wr {t a k : Nat} {v : Int32} (h : RC b n tx σc t σ) (lo : 30 ≤ tx) (ha : tx ≤ a) (hb : a ≤ tx + 12) (h8 : a ≠ tx ∨ k ≠ 8) : RC b n tx σc t (hI σ a k v) := by
  refine ⟨h.1.I (wP_tx ha hb), h.2.1, h.2.2.1, ?_, ?_, ?_⟩
  · rw [rI_i (by omega)]; exact h.2.2.2.1
  · rw [rI_i (by omega)]; exact h.2.2.2.2.1
  · by_cases e : tx = a
    · subst e; rw [rI_k (by omega)]; exact h.2.2.2.2.2
    · rw [rI_i e]; exact h.2.2.2.2.2
theorem LTR.wr {a k : Nat} {v : Int32} {lt : FA} (h : LTR σ lt) (ha : a ≠ 1) : LTR (hI σ a k v) lt := by
  unfold LTR
  rw [rI_i (Ne.symm ha), rI_i (Ne.symm ha)]; exact h
theorem NMS.wr {a k nc : Nat} {ns : Nat → Int64} {v : Int32} (h : NMS σ nc ns) (ha : a ≠ 1) : NMS (hI σ a k v) nc ns := by
  unfold NMS
  rw [rI_i (Ne.symm ha)]; exact h
/-- what an answer is told of the state by, where only the reader's own places were written -/
def wRd (a k : Nat) : Bool := a == 1 && (k == 3 || k == 4 || k == 5 || k == 6 || k == 7 || k == 9)
theorem wNm_Rd {a k : Nat} (h : wRd a k = false) : wNm a k = false := by
  unfold wRd at h
  unfold wNm
  cases e : (a == 1) with
  | false => rfl
  | true => rw [e] at h; simp at h ⊢; omega
theorem wTk_Rd {a k : Nat} (h : wRd a k = false) : wTk a k = false := wTk_Nm (wNm_Rd h)
theorem wRd_x {a k : Nat} (h : 30 ≤ a) : wRd a k = false := by unfold wRd; rw [show (a == 1) = false by simp; omega]; rfl
def wTh (tx i a k : Nat) : Bool := wRd a k || (a == tx && k == 0) || ((a == tx + 1 || a == tx + 2 || a == tx + 3) && k == i)
theorem wRd_Th {i a k : Nat} (h : wTh tx i a k = false) : wRd a k = false := by unfold wTh at h; simp only [Bool.or_eq_false_iff] at h; exact h.1.1
theorem wTh_w {i a : Nat} (h : a = tx + 1 ∨ a = tx + 2 ∨ a = tx + 3) : wTh tx i a i = true := by
  unfold wTh
  rcases h with rfl | rfl | rfl <;> simp
theorem w_thing {t nT nc : Nat} {ns : Nat → Int64} {lt : FA} (htx : txk tx) (hT : TKC b n σc) (h : RC b n tx σc t σ) (hl : LTR σ lt) (hn : NMS σ nc ns) (h12 : nT < 7 → nc < 12) (h0 : σ.1 tx 0 = nI nT) (h7 : nT ≤ 7) : Ok (f_X6_tellingThing tx σ) (PostC (FLT tx σc) (thingS (kdT b n) (vlT b n) (plI b n) (nmT b n) nT t nc ns lt) (fun a s => t < a.1 ∧ RC b n tx σc a.1 s ∧ LTR s a.2.2 ∧ NMS s (nc + 1) (upN ns nc (nmT b n (t + 1))) ∧ nT < 7 ∧ s.1 tx 0 = nI (nT + 1) ∧ (s.1 (tx + 1) nT).toInt = a.2.1.1 ∧ (s.1 (tx + 2) nT).toInt = a.2.1.2.1 ∧ (s.1 (tx + 3) nT).toInt = a.2.1.2.2 ∧ frm (wTh tx nT) wlP σ s)) := by
  have lo := htx.lo
  unfold f_X6_tellingThing thingS
  refine Ok.bd ?_
  rw [h0, nIt (by omega)]
  by_cases c7 : nT < 7
  · rw [if_pos c7]
    refine Ok.t (by omega) ?_
    refine PB (w_take (K0 := 20) (d := 0) lo hT (by decide) rfl rfl (by decide) (by decide) h) (fun t1 s1 _ h1 => ?_)
    obtain ⟨rfl, -, -, r1, -, f1⟩ := h1
    refine PB (w_name lo hT r1 (hl.fr f1 rfl rfl) (hn.fr f1 rfl rfl) (h12 c7)) (fun a2 s2 _ h2 => ?_)
    obtain ⟨e2, -, r2, l2, n2, f2⟩ := h2
    refine PB (w_number (x1 := 1) (x2 := 9) lo hT (by rw [e2]; exact r2) l2) (fun a3 s3 _ h3 => ?_)
    obtain ⟨e3, -, -, -, r3, l3, v3, f3⟩ := h3
    rw [Int.toNat_natCast]
    refine Ok.t (by omega) (Ok.bd ?_)
    generalize hs4 : hI s3 (tx + 1) nT (s3.1 1 7) = s4
    have r4 : RC b n tx σc a3.1 s4 := by rw [← hs4, e3]; exact r3.wr lo (by omega) (by omega) (Or.inl (by omega))
    have l4 : LTR s4 a3.2.2 := by rw [← hs4]; exact l3.wr (by omega)
    refine PB (w_number (x1 := 0) (x2 := 9) lo hT r4 l4) (fun a5 s5 _ h5 => ?_)
    obtain ⟨e5, -, -, -, r5, l5, v5, f5⟩ := h5
    refine Ok.t (by omega) (Ok.bd ?_)
    generalize hs6 : hI s5 (tx + 2) nT (s5.1 1 7) = s6
    have r6 : RC b n tx σc a5.1 s6 := by rw [← hs6, e5]; exact r5.wr lo (by omega) (by omega) (Or.inl (by omega))
    have l6 : LTR s6 a5.2.2 := by rw [← hs6]; exact l5.wr (by omega)
    refine PB (w_number (x1 := 0) (x2 := 9) lo hT r6 l6) (fun a7 s7 _ h7 => ?_)
    obtain ⟨e7, -, -, -, r7, l7, v7, f7⟩ := h7
    refine Ok.t (by omega) (Ok.bd ?_)
    generalize hs8 : hI s7 (tx + 3) nT (s7.1 1 7) = s8
    have r8 : RC b n tx σc a7.1 s8 := by rw [← hs8, e7]; exact r7.wr lo (by omega) (by omega) (Or.inl (by omega))
    have l8 : LTR s8 a7.2.2 := by rw [← hs8]; exact l7.wr (by omega)
    -- all that has been written since
    have F2 : frm wRd wlP σ s2 := (f1.mono (fun _ _ => wTk_Rd) (fun _ _ => rfl)).tr f2
    have F4 : frm (wTh tx nT) wlP σ s4 := by rw [← hs4]; exact ((F2.tr (f3.mono (fun _ _ => wNm_Rd) (fun _ _ => rfl))).mono (fun _ _ => wRd_Th) (fun _ e => e)).I (wTh_w (Or.inl rfl))
    have F6 : frm (wTh tx nT) wlP σ s6 := by rw [← hs6]; exact (F4.tr (f5.mono (fun _ _ e => wNm_Rd (wRd_Th e)) (fun _ _ => rfl))).I (wTh_w (Or.inr (Or.inl rfl)))
    have F8 : frm (wTh tx nT) wlP σ s8 := by rw [← hs8]; exact (F6.tr (f7.mono (fun _ _ e => wNm_Rd (wRd_Th e)) (fun _ _ => rfl))).I (wTh_w (Or.inr (Or.inr rfl)))
    have g7 : frm wRd wl0 s6 s7 := f7.mono (fun _ _ => wNm_Rd) (fun _ e => e)
    have g5 : frm wRd wl0 s4 s5 := f5.mono (fun _ _ => wNm_Rd) (fun _ e => e)
    have N4 : NMS s4 (nc + 1) (upN ns nc (nmT b n (t + 1))) := by rw [← hs4]; exact (n2.fr f3 rfl rfl).wr (by omega)
    have N6 : NMS s6 (nc + 1) (upN ns nc (nmT b n (t + 1))) := by rw [← hs6]; exact (N4.fr f5 rfl rfl).wr (by omega)
    have N8 : NMS s8 (nc + 1) (upN ns nc (nmT b n (t + 1))) := by rw [← hs8]; exact (N6.fr f7 rfl rfl).wr (by omega)
    have Z8 : s8.1 tx 0 = nI nT := by
      rw [← hs8, rI_i (by omega), g7.1 _ _ (wRd_x lo), ← hs6, rI_i (by omega), g5.1 _ _ (wRd_x lo), ← hs4, rI_i (by omega), (f3.mono (fun _ _ => wNm_Rd) (fun _ e => e) : frm wRd wl0 s2 s3).1 _ _ (wRd_x lo), F2.1 _ _ (wRd_x lo), h0]
    rw [Z8, nI_1]
    refine Ok.bd ?_
    generalize hs9 : hI s8 tx 0 (nI (nT + 1)) = s9
    have r9 : RC b n tx σc a7.1 s9 := by rw [← hs9]; exact r8.wr lo (by omega) (by omega) (Or.inr (by decide))
    have l9 : LTR s9 a7.2.2 := by rw [← hs9]; exact l8.wr (by omega)
    have N9 : NMS s9 (nc + 1) (upN ns nc (nmT b n (t + 1))) := by rw [← hs9]; exact N8.wr (by omega)
    have F9 : frm (wTh tx nT) wlP σ s9 := by rw [← hs9]; exact F8.I (by unfold wTh; simp)
    refine PT ?_
    refine PostC.map (w_take (K0 := 4) (d := 59) lo hT (by decide) rfl rfl (by decide) (by decide) r9) (fun t2 s _ h9 => ?_)
    obtain ⟨rfl, -, -, r, -, f9⟩ := h9
    have g9 : frm wRd wl0 s9 s := f9.mono (fun _ _ => wTk_Rd) (fun _ e => e)
    refine ⟨_, rfl, by simp only; omega, r, l9.fr f9 rfl rfl, N9.fr f9 rfl rfl, c7, ?_, ?_, ?_, ?_, F9.tr (g9.mono (fun _ _ => wRd_Th) (fun _ _ => rfl))⟩
    · rw [g9.1 _ _ (wRd_x lo), ← hs9, rI_s]
    · rw [g9.1 _ _ (wRd_x (by omega)), ← hs9, rI_i (by omega), ← hs8, rI_i (by omega), g7.1 _ _ (wRd_x (by omega)), ← hs6, rI_i (by omega), g5.1 _ _ (wRd_x (by omega)), ← hs4, rI_s]; exact v3
    · rw [g9.1 _ _ (wRd_x (by omega)), ← hs9, rI_i (by omega), ← hs8, rI_i (by omega), g7.1 _ _ (wRd_x (by omega)), ← hs6, rI_s]; exact v5
    · rw [g9.1 _ _ (wRd_x (by omega)), ← hs9, rI_i (by omega), ← hs8, rI_s]; exact v7
  · rw [if_neg c7]
    refine Ok.f (by omega) ?_
    refine PT ?_
    refine (w_refuse lo hT h (x := 2)).mono (fun r s hq => ?_)
    obtain ⟨rfl, hF⟩ := hq
    exact PostC.err rfl hF
end STC
