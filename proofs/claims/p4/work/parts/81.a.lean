/-! the tapes' bytes -/
theorem t255 {i : Nat} (h : ¬ i < 8) : (255#32).getLsbD i = false := by
  rw [BitVec.getLsbD_ofNat]
  have : Nat.testBit 255 i = false := Nat.testBit_lt_two_pow (Nat.lt_of_lt_of_le (by decide : 255 < 2 ^ 8) (Nat.pow_le_pow_right (by decide) (by omega)))
  rw [this]
  simp
theorem nb_255 (x : Int32) : (x.toInt8.toInt32) &&& 255 = x &&& 255 := Int32.toBitVec_inj.mp (by
  show (x.toInt8.toInt32).toBitVec &&& 255#32 = x.toBitVec &&& 255#32
  rw [Int8.toBitVec_toInt32, Int32.toBitVec_toInt8]
  apply BitVec.eq_of_getLsbD_eq
  intro i hi
  rw [BitVec.getLsbD_and, BitVec.getLsbD_and]
  by_cases h : i < 8
  · rw [BitVec.getLsbD_signExtend, BitVec.getLsbD_signExtend, if_pos h, if_pos hi, decide_eq_true hi, decide_eq_true h]
    rfl
  · rw [t255 h]; simp)
theorem nar_255 (x : Int32) : (vp_nar .byte x) &&& 255 = x &&& 255 := nb_255 x
def gC1 (x y : Int32) : Int32 := ((x.toUInt32 >>> (y.toUInt32 &&& Int32.toUInt32 31)).toInt32) &&& 255
def gR1 (x y : Int32) : Int32 := vp_nar .byte ((x >>> (y &&& 31)).toInt8.toInt32)
theorem sh_b2 (x : BitVec 32) (s : Nat) (hs : s ≤ 24) : (x >>> s) &&& 255#32 = (x.sshiftRight s) &&& 255#32 := by
  apply BitVec.eq_of_getLsbD_eq
  intro i hi
  rw [BitVec.getLsbD_and, BitVec.getLsbD_and]
  by_cases h : i < 8
  · rw [BitVec.getLsbD_ushiftRight, BitVec.getLsbD_sshiftRight]
    simp [show s + i < 32 by omega, show ¬ 32 ≤ i by omega]
  · rw [t255 h]; simp
theorem g_alike (x y : Int32) (h : y = 24 ∨ y = 16 ∨ y = 8 ∨ y = 0) : gC1 x y = (vp_nar .byte (gR1 x y)) &&& 255 := by
  unfold gC1 gR1
  rw [nar_255, nar_255, nb_255]
  rcases h with rfl | rfl | rfl | rfl
  · exact Int32.toBitVec_inj.mp (sh_b2 x.toBitVec 24 (by decide))
  · exact Int32.toBitVec_inj.mp (sh_b2 x.toBitVec 16 (by decide))
  · exact Int32.toBitVec_inj.mp (sh_b2 x.toBitVec 8 (by decide))
  · exact Int32.toBitVec_inj.mp (sh_b2 x.toBitVec 0 (by decide))
section BYS
variable {σ s : HS}
def yq (q : Nat) : Int32 := if q = 0 then 24 else if q = 1 then 16 else if q = 2 then 8 else 0
theorem ap_c {N m : Nat} {x y : Int32} (h : σ.1 2 1 = nI m) (hm : m < 2000) (hy : ¬ y.toInt < 0) : f_X9_append_3 (N + 1) x y σ = f_X9_append_3 N x (y + -8) (hI (hI σ 3 m (gC1 x y)) 2 1 (nI (m + 1))) := by
  show b_X9_append_3 (f_X9_append_3 N) x y σ = _
  unfold b_X9_append_3 f_X9_append_43
  rw [if_neg hy, h, nIt (by omega), if_pos (by omega), if_pos (by omega), Int.toNat_natCast]
  simp only [Bd]
  rw [rI_i (show (2 : Nat) ≠ 3 by decide), h, nI_1]; rfl
theorem ap_m {N m : Nat} {x y : Int32} (h : σ.1 236 2 = nI m) (hm : m < 2000) (hy : ¬ y.toInt < 0) : f_X12_put_3 (N + 1) x y σ = f_X12_put_3 N x (y + -8) (hI (hI σ 237 m (gR1 x y)) 236 2 (nI (m + 1))) := by
  show b_X12_put_3 (f_X12_put_3 N) x y σ = _
  unfold b_X12_put_3
  rw [if_neg hy, h, nIt (by omega), if_pos (by omega), Int.toNat_natCast]
  simp only [Bd]
  rw [rI_i (show (236 : Nat) ≠ 237 by decide), h, nI_1]; rfl
/-- the array i with the word's four bytes from m on, the size at z k -/
def put4 (g : Int32 → Int32 → Int32) (i z k m : Nat) (x : Int32) (σ : HS) : HS := hI (hI (hI (hI (hI (hI (hI (hI σ i m (g x 24)) z k (nI (m + 1))) i (m + 1) (g x 16)) z k (nI (m + 1 + 1))) i (m + 1 + 1) (g x 8)) z k (nI (m + 1 + 1 + 1))) i (m + 1 + 1 + 1) (g x 0)) z k (nI (m + 1 + 1 + 1 + 1))
theorem e_append {m : Nat} {x : Int32} (h : σ.1 2 1 = nI m) (hm : m + 4 ≤ 2000) : f_X9_append x σ = some (put4 gC1 3 2 1 m x σ) := by
  show f_X9_append_3 (4999 + 1) x 24 σ = _
  rw [ap_c h (by omega) (by decide), show (24 : Int32) + -8 = 16 from rfl]
  show f_X9_append_3 (4998 + 1) x 16 _ = _
  rw [ap_c (m := m + 1) rI_s (by omega) (by decide), show (16 : Int32) + -8 = 8 from rfl]
  show f_X9_append_3 (4997 + 1) x 8 _ = _
  rw [ap_c (m := m + 1 + 1) rI_s (by omega) (by decide), show (8 : Int32) + -8 = 0 from rfl]
  show f_X9_append_3 (4996 + 1) x 0 _ = _
  rw [ap_c (m := m + 1 + 1 + 1) rI_s (by omega) (by decide)]
  show b_X9_append_3 (f_X9_append_3 4995) x (0 + -8) _ = _
  unfold b_X9_append_3
  rw [if_pos (by decide)]; rfl
theorem e_put {m : Nat} {x : Int32} (h : σ.1 236 2 = nI m) (hm : m + 4 ≤ 2000) : f_X12_put x σ = some (put4 gR1 237 236 2 m x σ) := by
  show f_X12_put_3 (4999 + 1) x 24 σ = _
  rw [ap_m h (by omega) (by decide), show (24 : Int32) + -8 = 16 from rfl]
  show f_X12_put_3 (4998 + 1) x 16 _ = _
  rw [ap_m (m := m + 1) rI_s (by omega) (by decide), show (16 : Int32) + -8 = 8 from rfl]
  show f_X12_put_3 (4997 + 1) x 8 _ = _
  rw [ap_m (m := m + 1 + 1) rI_s (by omega) (by decide), show (8 : Int32) + -8 = 0 from rfl]
  show f_X12_put_3 (4996 + 1) x 0 _ = _
  rw [ap_m (m := m + 1 + 1 + 1) rI_s (by omega) (by decide)]
  show b_X12_put_3 (f_X12_put_3 4995) x (0 + -8) _ = _
  unfold b_X12_put_3
  rw [if_pos (by decide)]; rfl
/-- the tapes alike -/
def BYT (σ : HS) : Prop := ∃ m : Nat, m ≤ 2000 ∧ σ.1 2 1 = nI m ∧ σ.1 236 2 = nI m ∧ ∀ i, i < m → σ.1 3 i = (vp_nar .byte (σ.1 237 i)) &&& 255
def wFdC (a k : Nat) : Bool := a == 3 || (a == 2 && k == 1)
def wFdM (a k : Nat) : Bool := a == 237 || (a == 236 && k == 2)
theorem put4_at {g : Int32 → Int32 → Int32} {i z k m q : Nat} {x : Int32} (hi : i ≠ z) (hq : q < 4) : (put4 g i z k m x σ).1 i (m + q) = g x (yq q) := by
  unfold put4
  rw [rI_i hi]
  rcases (show q = 0 ∨ q = 1 ∨ q = 2 ∨ q = 3 by omega) with rfl | rfl | rfl | rfl
  · rw [rI_k (by omega), rI_i hi, rI_k (by omega), rI_i hi, rI_k (by omega), rI_i hi, Nat.add_zero, rI_s]; rfl
  · rw [rI_k (by omega), rI_i hi, rI_k (by omega), rI_i hi, rI_s]; rfl
  · rw [rI_k (by omega), rI_i hi, show m + 2 = m + 1 + 1 from rfl, rI_s]; rfl
  · rw [show m + 3 = m + 1 + 1 + 1 from rfl, rI_s]; rfl
theorem put4_lo {g : Int32 → Int32 → Int32} {i z k m q : Nat} {x : Int32} (hi : i ≠ z) (hq : q < m) : (put4 g i z k m x σ).1 i q = σ.1 i q := by
  unfold put4
  rw [rI_i hi, rI_k (by omega), rI_i hi, rI_k (by omega), rI_i hi, rI_k (by omega), rI_i hi, rI_k (by omega)]
theorem put4_z {g : Int32 → Int32 → Int32} {i z k m : Nat} {x : Int32} : (put4 g i z k m x σ).1 z k = nI (m + 4) := rI_s
theorem put4_fr {g : Int32 → Int32 → Int32} {i z k m : Nat} {x : Int32} {w : Nat → Nat → Bool} (h1 : ∀ j, w i j = true) (h2 : w z k = true) : frm w wl0 σ (put4 g i z k m x σ) := (((((((frm.rf.I (h1 _)).I h2).I (h1 _)).I h2).I (h1 _)).I h2).I (h1 _)).I h2
/-- five words behind one another -/
def put20 (g : Int32 → Int32 → Int32) (i z k m : Nat) (x1 x2 x3 x4 x5 : Int32) (σ : HS) : HS := put4 g i z k (m + 4 + 4 + 4 + 4) x5 (put4 g i z k (m + 4 + 4 + 4) x4 (put4 g i z k (m + 4 + 4) x3 (put4 g i z k (m + 4) x2 (put4 g i z k m x1 σ))))
theorem put20_fr {g : Int32 → Int32 → Int32} {i z k m : Nat} {x1 x2 x3 x4 x5 : Int32} {w : Nat → Nat → Bool} (h1 : ∀ j, w i j = true) (h2 : w z k = true) : frm w wl0 σ (put20 g i z k m x1 x2 x3 x4 x5 σ) := ((((put4_fr h1 h2).tr (put4_fr h1 h2)).tr (put4_fr h1 h2)).tr (put4_fr h1 h2)).tr (put4_fr h1 h2)
theorem put20_z {g : Int32 → Int32 → Int32} {i z k m : Nat} {x1 x2 x3 x4 x5 : Int32} : (put20 g i z k m x1 x2 x3 x4 x5 σ).1 z k = nI (m + 20) := rI_s
def xw (x1 x2 x3 x4 x5 : Int32) (q : Nat) : Int32 := if q < 4 then x1 else if q < 8 then x2 else if q < 12 then x3 else if q < 16 then x4 else x5
theorem put20_at {g : Int32 → Int32 → Int32} {i z k m q : Nat} {x1 x2 x3 x4 x5 : Int32} (hi : i ≠ z) (hq : q < 20) : (put20 g i z k m x1 x2 x3 x4 x5 σ).1 i (m + q) = g (xw x1 x2 x3 x4 x5 q) (yq (q % 4)) := by
  unfold put20 xw
  by_cases c1 : q < 4
  · rw [if_pos c1, put4_lo hi (by omega), put4_lo hi (by omega), put4_lo hi (by omega), put4_lo hi (by omega), put4_at hi c1, Nat.mod_eq_of_lt c1]
  rw [if_neg c1]
  by_cases c2 : q < 8
  · rw [if_pos c2, put4_lo hi (by omega), put4_lo hi (by omega), put4_lo hi (by omega), show m + q = m + 4 + (q - 4) by omega, put4_at hi (by omega), show q % 4 = q - 4 by omega]
  rw [if_neg c2]
  by_cases c3 : q < 12
  · rw [if_pos c3, put4_lo hi (by omega), put4_lo hi (by omega), show m + q = m + 4 + 4 + (q - 8) by omega, put4_at hi (by omega), show q % 4 = q - 8 by omega]
  rw [if_neg c3]
  by_cases c4 : q < 16
  · rw [if_pos c4, put4_lo hi (by omega), show m + q = m + 4 + 4 + 4 + (q - 12) by omega, put4_at hi (by omega), show q % 4 = q - 12 by omega]
  · rw [if_neg c4, show m + q = m + 4 + 4 + 4 + 4 + (q - 16) by omega, put4_at hi (by omega), show q % 4 = q - 16 by omega]
theorem put20_lo {g : Int32 → Int32 → Int32} {i z k m q : Nat} {x1 x2 x3 x4 x5 : Int32} (hi : i ≠ z) (hq : q < m) : (put20 g i z k m x1 x2 x3 x4 x5 σ).1 i q = σ.1 i q := by
  unfold put20
  rw [put4_lo hi (by omega), put4_lo hi (by omega), put4_lo hi (by omega), put4_lo hi (by omega), put4_lo hi (by omega)]
theorem e_feed_c {m : Nat} {x1 x2 x3 x4 x5 : Int32} (h : σ.1 2 1 = nI m) (hm : m ≤ 2000) : f_X11_feed x1 x2 x3 x4 x5 σ = if 2000 < m + 20 then some (-1, σ) else some (nI (m + 20), put20 gC1 3 2 1 m x1 x2 x3 x4 x5 σ) := by
  unfold f_X11_feed
  rw [h, show (20 : Int32) = nI 20 from rfl, nI_add, nIt (by omega)]
  by_cases c : 2000 < m + 20
  · rw [if_pos (by omega), if_pos c]
  · rw [if_neg (by omega), if_neg c, e_append h (by omega)]
    simp only [Cv]
    rw [e_append (m := m + 4) put4_z (by omega)]
    simp only
    rw [e_append (m := m + 4 + 4) put4_z (by omega)]
    simp only
    rw [e_append (m := m + 4 + 4 + 4) put4_z (by omega)]
    simp only
    rw [e_append (m := m + 4 + 4 + 4 + 4) put4_z (by omega)]
    simp only
    rw [put4_z]; rfl
theorem e_feed_m {m : Nat} {x1 x2 x3 x4 x5 : Int32} (h : σ.1 236 2 = nI m) (hm : m ≤ 2000) : f_X12_feed x1 x2 x3 x4 x5 σ = if 2000 < m + 20 then some (-1, σ) else some (nI (m + 20), put20 gR1 237 236 2 m x1 x2 x3 x4 x5 σ) := by
  unfold f_X12_feed
  rw [h, show (20 : Int32) = nI 20 from rfl, nI_add, nIt (by omega)]
  by_cases c : 2000 < m + 20
  · rw [if_pos (by omega), if_pos c]
  · rw [if_neg (by omega), if_neg c, e_put h (by omega)]
    simp only [Cv]
    rw [e_put (m := m + 4) put4_z (by omega)]
    simp only
    rw [e_put (m := m + 4 + 4) put4_z (by omega)]
    simp only
    rw [e_put (m := m + 4 + 4 + 4) put4_z (by omega)]
    simp only
    rw [e_put (m := m + 4 + 4 + 4 + 4) put4_z (by omega)]
    simp only
    rw [put4_z]; rfl
/-- the class's feed, then the reference's: the answers are alike, and the tapes -/
theorem BYT.feed {x1 x2 x3 x4 x5 : Int32} (h : BYT σ) : ∃ r s s2, f_X11_feed x1 x2 x3 x4 x5 σ = some (r, s) ∧ f_X12_feed x1 x2 x3 x4 x5 s = some (r, s2) ∧ BYT s2 ∧ frm wFdC wl0 σ s ∧ frm wFdM wl0 s s2 := by
  obtain ⟨m, hm, h1, h2, hb⟩ := h
  by_cases c : 2000 < m + 20
  · refine ⟨-1, σ, σ, ?_, ?_, ⟨m, hm, h1, h2, hb⟩, frm.rf, frm.rf⟩
    · rw [e_feed_c h1 hm, if_pos c]
    · rw [e_feed_m h2 hm, if_pos c]
  · have f1 : frm wFdC wl0 σ (put20 gC1 3 2 1 m x1 x2 x3 x4 x5 σ) := put20_fr (fun _ => rfl) rfl
    have e2 : (put20 gC1 3 2 1 m x1 x2 x3 x4 x5 σ).1 236 2 = nI m := by rw [f1.1 236 2 rfl]; exact h2
    have f2 : frm wFdM wl0 (put20 gC1 3 2 1 m x1 x2 x3 x4 x5 σ) (put20 gR1 237 236 2 m x1 x2 x3 x4 x5 (put20 gC1 3 2 1 m x1 x2 x3 x4 x5 σ)) := put20_fr (fun _ => rfl) rfl
    refine ⟨nI (m + 20), _, _, by rw [e_feed_c h1 hm, if_neg c], by rw [e_feed_m e2 hm, if_neg c], ⟨m + 20, by omega, ?_, put20_z, fun i hi => ?_⟩, f1, f2⟩
    · rw [f2.1 2 1 rfl]; exact put20_z
    · rw [f2.1 3 i rfl]
      by_cases c2 : i < m
      · rw [put20_lo (by decide) c2, put20_lo (by decide) c2, f1.1 237 i rfl]; exact hb i c2
      · obtain ⟨q, rfl⟩ : ∃ q, i = m + q := ⟨i - m, by omega⟩
        rw [put20_at (by decide) (by omega), put20_at (by decide) (by omega)]
        refine g_alike _ _ ?_
        rcases (show q % 4 = 0 ∨ q % 4 = 1 ∨ q % 4 = 2 ∨ q % 4 = 3 by omega) with e | e | e | e <;> rw [e] <;> decide
theorem BYT.fr {w : Nat → Nat → Bool} {wl : Nat → Bool} (h : BYT σ) (hf : frm w wl σ s) (h1 : w 2 1 = false) (h2 : w 236 2 = false) (h3 : ∀ i, w 3 i = false) (h4 : ∀ i, w 237 i = false) : BYT s := by
  obtain ⟨m, hm, a1, a2, hb⟩ := h
  exact ⟨m, hm, by rw [hf.1 _ _ h1]; exact a1, by rw [hf.1 _ _ h2]; exact a2, fun i hi => by rw [hf.1 _ _ (h3 i), hf.1 _ _ (h4 i)]; exact hb i hi⟩
theorem BYT.back {x : Int32} (h : BYT σ) : ∃ r s s2, f_X11_back x σ = some (r, s) ∧ f_X12_back x s = some (r, s2) ∧ BYT s2 ∧ frm wFdC wl0 σ s ∧ frm wFdM wl0 s s2 := by
  have h0 := h
  obtain ⟨m, hm, h1, h2, hb⟩ := h
  unfold f_X11_back f_X12_back
  rw [h1, nIt (by omega)]
  by_cases c1 : x.toInt < 0
  · exact ⟨-1, σ, σ, by rw [if_pos c1], by rw [if_pos c1], h0, frm.rf, frm.rf⟩
  · by_cases c2 : (m : Int) < x.toInt
    · exact ⟨-1, σ, σ, by rw [if_neg c1, if_pos c2], by rw [if_neg c1, h2, nIt (by omega), if_pos c2], h0, frm.rf, frm.rf⟩
    · obtain ⟨k, rfl, hk⟩ : ∃ k : Nat, x = nI k ∧ k ≤ m := ⟨x.toInt.toNat, Int32.toInt_inj.mp (by rw [nIt (by omega)]; omega), by omega⟩
      refine ⟨nI (m - k), hI σ 2 1 (nI (m - k)), hI (hI σ 2 1 (nI (m - k))) 236 2 (nI (m - k)), ?_, ?_, ⟨m - k, by omega, ?_, rI_s, fun i hi => ?_⟩, frm.rf.I rfl, frm.rf.I rfl⟩
      · rw [if_neg c1, if_neg c2]
        simp only [Bd]
        rw [rI_s, nI_sub hk (by omega)]
      · rw [if_neg c1, rI_i (show (236 : Nat) ≠ 2 by decide), h2, nIt (by omega), if_neg c2]
        simp only [Bd]
        rw [rI_s, nI_sub hk (by omega)]
      · rw [rI_i (by decide), rI_s]
      · rw [rI_i (by decide), rI_i (by decide), rI_i (by decide), rI_i (by decide)]; exact hb i (by omega)
end BYS
