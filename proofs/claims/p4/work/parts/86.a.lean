/-! class and reference alike -/
/-- cells that hold nothing between two calls -/
def wQ (a k : Nat) : Bool := decide (9 ≤ a ∧ a ≤ 11) || decide (17 ≤ a ∧ a ≤ 24) || decide (27 ≤ a ∧ a ≤ 29) || decide (60 ≤ a ∧ a ≤ 63) || a == 264 || a == 265 || a == 267 || a == 269 || a == 270 || a == 271 || a == 274 || (a == 236 && (k == 46 || k == 49 || k == 50 || k == 51 || k == 52 || k == 53 || k == 57))
theorem wQ_no {a k : Nat} (h : ¬ (9 ≤ a ∧ a ≤ 11) ∧ ¬ (17 ≤ a ∧ a ≤ 24) ∧ ¬ (27 ≤ a ∧ a ≤ 29) ∧ ¬ (60 ≤ a ∧ a ≤ 63) ∧ ¬ (264 ≤ a ∧ a ≤ 265) ∧ a ≠ 267 ∧ ¬ (269 ≤ a ∧ a ≤ 271) ∧ a ≠ 274 ∧ (a = 236 → k < 46 ∨ k = 47 ∨ k = 48 ∨ 54 ≤ k ∧ k ≤ 56 ∨ 58 ≤ k)) : wQ a k = false := by
  unfold wQ
  simp only [Bool.or_eq_false_iff, Bool.and_eq_false_iff, beq_eq_false_iff_ne, decide_eq_false_iff_not, ne_eq]
  omega
def TAP (σ : HS) : Prop := BYT σ ∧ CC σ ∧ KEY σ ∧ σ.1 1 1 = σ.1 236 17
def TXP (d : DAT) (t u sd : Nat) (σ : HS) : Prop := txk t ∧ txk u ∧ t ≠ u ∧ TXr t u σ ∧ TC t d σ ∧ TM sd d σ ∧ DOK d
/-- the last things done: j-th from the oldest on -/
def PAS (d : DAT) (b : Int) (k nx : Nat) (H : Nat → Nat → Int32) (σ : HS) : Prop := σ.1 12 1 = nI nx ∧ nx < 40 ∧ σ.1 12 2 = nI k ∧ k ≤ 40 ∧ σ.1 236 54 = nI k ∧ ∀ j, j < k → AR (76 + 4 * ((nx + 40 + j - k) % 40)) d.1.1.1 (H j) σ ∧ (∀ i, i < 29 → σ.1 268 (29 * j + i) = H j i) ∧ RW d b (H j)
def HEA (m : Nat) (tb : Nat → Nat) (σ : HS) : Prop := σ.1 14 2 = nI m ∧ m ≤ 20 ∧ σ.1 236 60 = nI m ∧ ∀ i, i < m → σ.1 15 i = nI (tb i) ∧ tb i ≤ 40 ∧ σ.1 272 i = nI (tb i) ∧ σ.1 16 i = σ.1 273 i ∧ (σ.1 273 i = 0 ∨ σ.1 273 i = 1)
def SLO (d : DAT) (b : Int) (G : Nat → Nat → Int32) (σ : HS) : Prop := ∀ s, s < 3 → (σ.1 26 s = σ.1 275 s ∧ (σ.1 275 s = 0 ∨ σ.1 275 s = 1)) ∧ (σ.1 275 s = 1 → AR (64 + 4 * s) d.1.1.1 (G s) σ ∧ (∀ i, i < 29 → σ.1 276 (29 * s + i) = G s i) ∧ RW d b (G s))
def NOWR (d : DAT) (b : Int) (ρ : Nat → Int32) (σ : HS) : Prop := AR 56 d.1.1.1 ρ σ ∧ NWm ρ σ ∧ RW d b ρ
def RELx (n : Nat) (d : DAT) (t u sd : Nat) (ρ : Nat → Int32) (k nx : Nat) (H : Nat → Nat → Int32) (m : Nat) (tb : Nat → Nat) (G : Nat → Nat → Int32) (σ : HS) : Prop := TAP σ ∧ TXP d t u sd σ ∧ NOWR d (60 * (n : Int)) ρ σ ∧ PAS d (60 * (n : Int)) k nx H σ ∧ HEA m tb σ ∧ SLO d (60 * (n : Int)) G σ
def REL (n : Nat) (σ : HS) : Prop := ∃ d t u sd ρ k nx H m tb G, RELx n d t u sd ρ k nx H m tb G σ
section RELS
variable {σ s : HS} {n t u sd k nx m : Nat} {ρ : Nat → Int32} {d : DAT} {b : Int} {H G : Nat → Nat → Int32} {tb : Nat → Nat} {w : Nat → Nat → Bool} {wl : Nat → Bool}
theorem TAP.fr (h : TAP σ) (hf : frm w wl0 σ s) (h1 : w 2 1 = false) (h2 : w 236 2 = false) (h3 : ∀ i, w 3 i = false) (h4 : ∀ i, w 237 i = false) (h5 : w 1 1 = false) (h6 : w 236 17 = false) : TAP s := by
  obtain ⟨b1, b2, b3, b4⟩ := h
  refine ⟨b1.fr hf h1 h2 h3 h4, ⟨by rw [hf.1 _ _ h1]; exact b2.1, fun k => by rw [hf.1 _ _ (h3 k)]; exact b2.2 k⟩, fun k hk => by rw [hf.2.1 243 rfl]; exact b3 k hk, by rw [hf.1 _ _ h5, hf.1 _ _ h6]; exact b4⟩
theorem TXP.fr (h : TXP d t u sd σ) (hf : frm w wl σ s) (h1 : ∀ i k, 30 ≤ i → i ≤ 55 → w i k = false) (h18 : w 236 18 = false) (hw : ∀ i k, 245 ≤ i → i ≤ 262 → w i k = false) : TXP d t u sd s := by
  obtain ⟨a1, a2, a3, a4, a5, a6, a7⟩ := h
  refine ⟨a1, a2, a3, ?_, a5.fr hf (fun i k x y => h1 i k (by rcases a1 with rfl | rfl <;> omega) (by rcases a1 with rfl | rfl <;> omega)), a6.fr hf h18 hw, a7⟩
  unfold TXr
  rw [hf.2.2]; exact a4
theorem NWm.fr (h : NWm ρ σ) (hf : frm w wl σ s) (hw : ∀ k, w 266 k = false) : NWm ρ s := fun i hi => by rw [hf.1 _ _ (hw i)]; exact h i hi
theorem NOWR.fr (h : NOWR d b ρ σ) (hf : frm w wl σ s) (h1 : ∀ i k, 56 ≤ i → i ≤ 59 → w i k = false) (h2 : ∀ k, w 266 k = false) : NOWR d b ρ s := ⟨h.1.fr hf h1, h.2.1.fr hf h2, h.2.2⟩
theorem PAS.fr (h : PAS d b k nx H σ) (hf : frm w wl σ s) (h1 : ∀ i k, 76 ≤ i → i ≤ 235 → w i k = false) (h2 : ∀ k, w 268 k = false) (h3 : ∀ k, w 12 k = false) (h4 : w 236 54 = false) : PAS d b k nx H s := by
  obtain ⟨a1, a2, a3, a4, a5, a6⟩ := h
  refine ⟨by rw [hf.1 _ _ (h3 1)]; exact a1, a2, by rw [hf.1 _ _ (h3 2)]; exact a3, a4, by rw [hf.1 _ _ h4]; exact a5, fun j hj => ?_⟩
  have := a6 j hj
  have hm : (nx + 40 + j - k) % 40 < 40 := Nat.mod_lt _ (by decide)
  exact ⟨this.1.fr hf (fun i k x y => h1 i k (by omega) (by omega)), fun i hi => by rw [hf.1 _ _ (h2 _)]; exact this.2.1 i hi, this.2.2⟩
theorem HEA.fr (h : HEA m tb σ) (hf : frm w wl σ s) (h1 : ∀ i k, 14 ≤ i → i ≤ 16 → w i k = false) (h2 : ∀ i k, 272 ≤ i → i ≤ 273 → w i k = false) (h3 : w 236 60 = false) : HEA m tb s := by
  obtain ⟨a1, a2, a3, a4⟩ := h
  refine ⟨by rw [hf.1 _ _ (h1 14 2 (by omega) (by omega))]; exact a1, a2, by rw [hf.1 _ _ h3]; exact a3, fun i hi => ?_⟩
  rw [hf.1 _ _ (h1 15 i (by omega) (by omega)), hf.1 _ _ (h1 16 i (by omega) (by omega)), hf.1 _ _ (h2 272 i (by omega) (by omega)), hf.1 _ _ (h2 273 i (by omega) (by omega))]
  exact a4 i hi
theorem SLO.fr (h : SLO d b G σ) (hf : frm w wl σ s) (h1 : ∀ i k, 64 ≤ i → i ≤ 75 → w i k = false) (h2 : ∀ i k, 275 ≤ i → i ≤ 276 → w i k = false) (h3 : ∀ k, w 26 k = false) : SLO d b G s := fun q hq => by
  have := h q hq
  rw [hf.1 _ _ (h3 q), hf.1 _ _ (h2 275 q (by omega) (by omega))]
  exact ⟨this.1, fun e => ⟨(this.2 e).1.fr hf (fun i k x y => h1 i k (by omega) (by omega)), fun i hi => by rw [hf.1 _ _ (h2 276 _ (by omega) (by omega))]; exact (this.2 e).2.1 i hi, (this.2 e).2.2⟩⟩
theorem PAS.mono {c : Int} (h : PAS d b k nx H σ) (hc : b ≤ c) : PAS d c k nx H σ := ⟨h.1, h.2.1, h.2.2.1, h.2.2.2.1, h.2.2.2.2.1, fun j hj => ⟨(h.2.2.2.2.2 j hj).1, (h.2.2.2.2.2 j hj).2.1, (h.2.2.2.2.2 j hj).2.2.mono hc⟩⟩
theorem SLO.mono {c : Int} (h : SLO d b G σ) (hc : b ≤ c) : SLO d c G σ := fun q hq => ⟨(h q hq).1, fun e => ⟨((h q hq).2 e).1, ((h q hq).2 e).2.1, ((h q hq).2 e).2.2.mono hc⟩⟩
theorem NOWR.mono {c : Int} (h : NOWR d b ρ σ) (hc : b ≤ c) : NOWR d c ρ σ := ⟨h.1, h.2.1, h.2.2.mono hc⟩
theorem RELx.fr (h : RELx n d t u sd ρ k nx H m tb G σ) (hf : frm wQ wl0 σ s) : RELx n d t u sd ρ k nx H m tb G s := by
  obtain ⟨h1, h2, h3, h4, h5, h6⟩ := h
  refine ⟨h1.fr hf rfl rfl (fun _ => rfl) (fun _ => rfl) rfl rfl, h2.fr hf (fun i k x y => wQ_no (by omega)) rfl (fun i k x y => wQ_no (by omega)), h3.fr hf (fun i k x y => wQ_no (by omega)) (fun _ => rfl), h4.fr hf (fun i k x y => ?_) (fun _ => rfl) (fun _ => rfl) rfl, h5.fr hf (fun i k x y => wQ_no (by omega)) (fun i k x y => wQ_no (by omega)) rfl, h6.fr hf (fun i k x y => wQ_no (by omega)) (fun i k x y => wQ_no (by omega)) (fun _ => rfl)⟩
  exact wQ_no (by omega)
theorem RELx.next (h : RELx n d t u sd ρ k nx H m tb G σ) : RELx (n + 1) d t u sd ρ k nx H m tb G σ := ⟨h.1, h.2.1, h.2.2.1.mono (by omega), h.2.2.2.1.mono (by omega), h.2.2.2.2.1, h.2.2.2.2.2.mono (by omega)⟩
/-- one call on both sides -/
def SIM (n : Nat) (fc fm : HS → Option (Int32 × HS)) : Prop := ∀ σ, REL n σ → ∃ r s s2, fc σ = some (r, s) ∧ fm s = some (r, s2) ∧ REL (n + 1) s2
def SIMx (n : Nat) (fc fm : HS → Option (Int32 × HS)) : Prop := ∀ σ, REL n σ → ∃ r r2 s s2, fc σ = some (r, s) ∧ fm s = some (r2, s2) ∧ REL (n + 1) s2
theorem sim_q {fc fm : HS → Option (Int32 × HS)} (h : ∀ d t u sd ρ k nx H m tb G σ, RELx n d t u sd ρ k nx H m tb G σ → ∃ v, Ok (fc σ) (fun r s => r = v ∧ frm wQ wl0 σ s) ∧ ∀ s, RELx n d t u sd ρ k nx H m tb G s → frm wQ wl0 σ s → Ok (fm s) (fun r s2 => r = v ∧ frm wQ wl0 s s2)) : SIM n fc fm := by
  intro σ hR
  obtain ⟨d, t, u, sd, ρ, k, nx, H, m, tb, G, hR⟩ := hR
  obtain ⟨v, ⟨r, s, e1, rfl, f1⟩, hm⟩ := h d t u sd ρ k nx H m tb G σ hR
  obtain ⟨r2, s2, e2, rfl, f2⟩ := hm s (hR.fr f1) f1
  exact ⟨r2, s, s2, e1, e2, d, t, u, sd, ρ, k, nx, H, m, tb, G, ((hR.fr f1).fr f2).next⟩
theorem sim_x {fc fm : HS → Option (Int32 × HS)} (h : ∀ d t u sd ρ k nx H m tb G σ, RELx n d t u sd ρ k nx H m tb G σ → Ok (fc σ) (fun _ s => frm wQ wl0 σ s) ∧ Ok (fm σ) (fun _ s => frm wQ wl0 σ s)) : SIMx n fc fm := by
  intro σ hR
  obtain ⟨d, t, u, sd, ρ, k, nx, H, m, tb, G, hR⟩ := hR
  obtain ⟨r, s, e1, f1⟩ := (h d t u sd ρ k nx H m tb G σ hR).1
  obtain ⟨r2, s2, e2, f2⟩ := (h d t u sd ρ k nx H m tb G s (hR.fr f1)).2
  exact ⟨r, r2, s, s2, e1, e2, d, t, u, sd, ρ, k, nx, H, m, tb, G, ((hR.fr f1).fr f2).next⟩
/-! what the parts give -/
theorem RELx.t0 (h : RELx n d t u sd ρ k nx H m tb G σ) : σ.2.2 0 = t := h.2.1.2.2.2.1.1
theorem RELx.tk (h : RELx n d t u sd ρ k nx H m tb G σ) : txk t := h.2.1.1
theorem RELx.tc (h : RELx n d t u sd ρ k nx H m tb G σ) : TC t d σ := h.2.1.2.2.2.2.1
theorem RELx.tm (h : RELx n d t u sd ρ k nx H m tb G σ) : TM sd d σ := h.2.1.2.2.2.2.2.1
theorem RELx.ok (h : RELx n d t u sd ρ k nx H m tb G σ) : DOK d := h.2.1.2.2.2.2.2.2
theorem RELx.ar (h : RELx n d t u sd ρ k nx H m tb G σ) : AR 56 d.1.1.1 ρ σ := h.2.2.1.1
theorem RELx.nw (h : RELx n d t u sd ρ k nx H m tb G σ) : NWm ρ σ := h.2.2.1.2.1
theorem RELx.rw (h : RELx n d t u sd ρ k nx H m tb G σ) : RW d (60 * (n : Int)) ρ := h.2.2.1.2.2
theorem if10 {P : Prop} {dP : Decidable P} : (if P then (1 : Int32) else 0).toInt = 0 ↔ ¬ P := by
  by_cases c : P
  · rw [if_pos c]; exact ⟨fun h => absurd h (by decide), fun h => absurd c h⟩
  · rw [if_neg c]; exact ⟨fun _ => c, fun _ => rfl⟩
theorem sim_place : SIM n f_X11_place f_X12_place := sim_q (fun d t u sd ρ k nx H m tb G σ h => ⟨σ.1 236 17, by
  unfold f_X11_place
  exact Ok.ret ⟨h.1.2.2.2, frm.rf⟩, fun s hs hf => by
  unfold f_X12_place
  exact Ok.ret ⟨hf.1 236 17 rfl, frm.rf⟩⟩)
theorem in_T {y : Int32} {T : Nat} (h : 0 ≤ y.toInt ∧ y.toInt < T) (hT : T ≤ 1000) : ∃ e, e < T ∧ y = nI e := ⟨y.toInt.toNat, by omega, nI_tn h.1 (by omega)⟩
end RELS
