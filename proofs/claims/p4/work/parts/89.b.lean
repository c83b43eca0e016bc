/-! count -/
section COUNT
variable {σ s : HS} {n t u sd k nx m T : Nat} {ρ : Nat → Int32} {d : DAT} {b : Int} {H G : Nat → Nat → Int32} {tb9 : Nat → Nat} {x y z : Int32}
def wgtS (x : Int32) (w : Nat → Int32) : Nat → Int32
  | 0 => 0
  | n + 1 => if tb x n = true then wgtS x w n + w n else wgtS x w n
def wgtF (d : DAT) (e : Nat) : Int32 := Int32.ofInt (d.1.1.2.1 e)
theorem e_weightsOf_c (h : RELx n d t u sd ρ k nx H m tb9 G σ) : f_X11_weightsOf x σ = some (wgtS x (wgtF d) d.1.1.1, σ) := by
  have hT := h.tc.T7
  have loop : ∀ (dd q N : Nat), q + dd = d.1.1.1 → dd < N → f_X11_weightsOf_4 N x (wgtS x (wgtF d) q) (nI q) σ = some (wgtS x (wgtF d) d.1.1.1, σ) := by
    intro dd
    induction dd with
    | zero =>
      intro q N hq hN
      obtain ⟨N, rfl⟩ : ∃ q, N = q + 1 := ⟨N - 1, by omega⟩
      obtain rfl : q = d.1.1.1 := by omega
      show b_X11_weightsOf_4 (f_X11_weightsOf_4 N) x _ _ σ = _
      unfold b_X11_weightsOf_4
      rw [h.t0, if_pos (show t = 30 ∨ t = 43 from h.tk), h.tc.1.1, if_neg (Int.lt_irrefl _)]
    | succ dd ih =>
      intro q N hq hN
      obtain ⟨N, rfl⟩ : ∃ q, N = q + 1 := ⟨N - 1, by omega⟩
      have ih1 := ih (q + 1) N (by omega) (by omega)
      have es : wgtS x (wgtF d) (q + 1) = if tb x q = true then wgtS x (wgtF d) q + wgtF d q else wgtS x (wgtF d) q := rfl
      show b_X11_weightsOf_4 (f_X11_weightsOf_4 N) x _ _ σ = _
      unfold b_X11_weightsOf_4 f_X11_weightsOf_36
      rw [h.t0, if_pos (show t = 30 ∨ t = 43 from h.tk), h.tc.1.1, nIt (n := q) (by omega), nIt (n := d.1.1.1) (by omega), if_pos (show (q : Int) < d.1.1.1 by omega), nI_1, Int.toNat_natCast, ofI (h.tc.1.2.2 q (by omega)).1]
      simp only [Bd]
      by_cases c : tb x q = true
      · rw [if_pos ((tb_sh1 (by omega)).mpr c), if_pos (show t = 30 ∨ t = 43 from h.tk), if_pos (show 0 ≤ (q : Int) ∧ (q : Int) < 7 by omega)]
        rw [es, if_pos c] at ih1
        exact ih1
      · rw [if_neg (fun e => c ((tb_sh1 (by omega)).mp e))]
        rw [es, if_neg c] at ih1
        exact ih1
  exact loop d.1.1.1 0 5000 (by omega) (by omega)
theorem e_weightsOf_m (h : TM sd d s) : f_X12_weightsOf x s = some (wgtS x (wgtF d) d.1.1.1, s) := by
  have hT := h.T7
  have L := h.lv
  have loop : ∀ (dd q N : Nat), q + dd = d.1.1.1 → dd < N → f_X12_weightsOf_4 N x (wgtS x (wgtF d) q) (nI q) s = some (wgtS x (wgtF d) d.1.1.1, s) := by
    intro dd
    induction dd with
    | zero =>
      intro q N hq hN
      obtain ⟨N, rfl⟩ : ∃ q, N = q + 1 := ⟨N - 1, by omega⟩
      obtain rfl : q = d.1.1.1 := by omega
      show b_X12_weightsOf_4 (f_X12_weightsOf_4 N) x _ _ s = _
      unfold b_X12_weightsOf_4
      rw [if_pos L.sd0, L.tt, nIt (n := d.1.1.1) (by omega), if_neg (Int.lt_irrefl _)]
    | succ dd ih =>
      intro q N hq hN
      obtain ⟨N, rfl⟩ : ∃ q, N = q + 1 := ⟨N - 1, by omega⟩
      have ih1 := ih (q + 1) N (by omega) (by omega)
      have es : wgtS x (wgtF d) (q + 1) = if tb x q = true then wgtS x (wgtF d) q + wgtF d q else wgtS x (wgtF d) q := rfl
      have hs := h.2.1
      show b_X12_weightsOf_4 (f_X12_weightsOf_4 N) x _ _ s = _
      unfold b_X12_weightsOf_4 f_X12_weightsOf_43
      rw [if_pos L.sd0, L.tt, nIt (n := q) (by omega), if_pos (show (q : Int) < d.1.1.1 by omega), L.1, e7s h.2.1, nIt (n := 7 * sd + q) (by omega), Int.toNat_natCast]
      simp only [Bd]
      rw [nI_1, ofI (h.2.2.1.2.2 q (by omega)).1]
      by_cases c : tb x q = true
      · rw [if_pos ((tb_sh1 (by omega)).mpr c), if_pos (show 0 ≤ ((7 * sd + q : Nat) : Int) ∧ ((7 * sd + q : Nat) : Int) < 14 by omega)]
        rw [es, if_pos c] at ih1
        exact ih1
      · rw [if_neg (fun e => c ((tb_sh1 (by omega)).mp e))]
        rw [es, if_neg c] at ih1
        exact ih1
  exact loop d.1.1.1 0 5000 (by omega) (by omega)
def shF (s : HS) : Int32 := s.1 275 0 + s.1 275 1 + s.1 275 2
theorem e_slotsHeld (h : SLO d b G σ) : f_X11_slotsHeld σ = some (shF σ, σ) := by
  have st : ∀ (q N : Nat) (y : Int32), q < 3 → f_X11_slotsHeld_4 (N + 1) y (nI q) σ = f_X11_slotsHeld_4 N (y + σ.1 275 q) (nI (q + 1)) σ := by
    intro q N y hq
    obtain ⟨⟨h1, h2⟩, h3⟩ := h q hq
    show b_X11_slotsHeld_4 (f_X11_slotsHeld_4 N) y (nI q) σ = _
    unfold b_X11_slotsHeld_4 f_X11_slotsHeld_21
    rw [nIt (n := q) (by omega), if_pos (show (q : Int) < 3 by omega), if_pos (show 0 ≤ (q : Int) ∧ (q : Int) < 3 by omega), Int.toNat_natCast, h1]
    simp only [Bd]
    rw [nI_1]
    rcases h2 with h2 | h2
    · rw [h2, if_pos i0_eq, Int32.add_zero]
    · rw [h2, if_neg (show ¬ (1 : Int32).toInt = 0 by decide)]
  have en : ∀ (N : Nat) (y : Int32), f_X11_slotsHeld_4 (N + 1) y (nI 3) σ = some (y, σ) := by
    intro N y
    show b_X11_slotsHeld_4 (f_X11_slotsHeld_4 N) y (nI 3) σ = _
    unfold b_X11_slotsHeld_4
    rw [if_neg (by decide)]
  show f_X11_slotsHeld_4 (4996 + 1 + 1 + 1 + 1) 0 (nI 0) σ = _
  rw [st 0 _ _ (by omega), st 1 _ _ (by omega), st 2 _ _ (by omega), en, Int32.zero_add]
  rfl
theorem Ok.ite {α : Type} {P : Prop} {dP : Decidable P} {A B : Option (α × HS)} {v w : α} {F : HS → Prop} (k1 : P → Ok A (fun r s => r = v ∧ F s)) (k2 : ¬ P → Ok B (fun r s => r = w ∧ F s)) : Ok (if P then A else B) (fun r s => r = (if P then v else w) ∧ F s) := by
  by_cases c : P
  · rw [if_pos c, if_pos c]; exact k1 c
  · rw [if_neg c, if_neg c]; exact k2 c
def cnS (d : DAT) (ρ : Nat → Int32) (k m : Nat) (sz sh : Int32) (x : Int32) : Int32 :=
  if x.toInt = 0 then nI d.1.1.1 else if x.toInt = 1 then nI d.1.2.1 else if x.toInt = 2 then ρ 21 else if x.toInt = 3 then ρ 22 else if x.toInt = 4 then bset (fun e => decide ((ρ e).toInt = (0 : Int32).toInt)) d.1.1.1 else if x.toInt = 5 then bset (fun e => decide ((ρ e).toInt = (2 : Int32).toInt)) d.1.1.1 else if x.toInt = 6 then ρ 23 else if x.toInt = 7 then ρ 24 else if x.toInt = 8 then ρ 25 else if x.toInt = 9 then ρ 26 else if x.toInt = 10 then hgtS d ρ else if x.toInt = 11 then sz else if x.toInt = 12 then nI k else if x.toInt = 13 then nI m else if x.toInt = 14 then sh else if x.toInt = 15 then wgtS (bset (fun e => decide ((ρ e).toInt = (0 : Int32).toInt)) d.1.1.1) (wgtF d) d.1.1.1 else if x.toInt = 16 then wgtS (bset (fun e => decide ((ρ e).toInt = (2 : Int32).toInt)) d.1.1.1) (wgtF d) d.1.1.1 else if x.toInt = 17 then bset (fun e => decide ((ρ e).toInt = (1 : Int32).toInt)) d.1.1.1 else -1
theorem e_bits_c (h : RELx n d t u sd ρ k nx H m tb9 G σ) : f_X0_bitsOf 56 x σ = some (bset (fun e => decide ((ρ e).toInt = x.toInt)) d.1.1.1, σ) := by
  rw [e_bitsOf h.ar.1 h.tc.T7]
  exact congrArg (fun v => some (v, σ)) (bset_cg (fun e he => by rw [(h.ar.2.1 e he).1]))
theorem e_bits_m (h : TM sd d s) (hR : RRm ρ s) : f_X12_thingsSo x s = some (bset (fun e => decide ((ρ e).toInt = x.toInt)) d.1.1.1, s) := by
  have hT := h.T7
  rw [e_thingsSo h.lv]
  exact congrArg (fun v => some (v, s)) (bset_cg (fun e he => by rw [hR e (by omega)]))
theorem q_count_c (h : RELx n d t u sd ρ k nx H m tb9 G σ) (hn : n ≤ 512) : Ok (f_X11_count x σ) (fun r s => r = cnS d ρ k m (σ.1 2 1) (shF σ) x ∧ s = σ) := by
  unfold f_X11_count cnS
  have hA := h.ar
  have hW := h.rw
  refine Ok.ite (fun _ => Ok.t (by rw [h.t0]; exact h.tk) (Ok.ret ⟨by rw [h.t0]; exact h.tc.1.1, rfl⟩)) (fun _ => ?_)
  refine Ok.ite (fun _ => Ok.t (by rw [h.t0]; exact h.tk) (Ok.ret ⟨by rw [h.t0]; exact h.tc.2.1.1, rfl⟩)) (fun _ => ?_)
  refine Ok.ite (fun _ => Ok.ret ⟨hA.2.2.1 4 (by decide) (by decide), rfl⟩) (fun _ => ?_)
  refine Ok.ite (fun _ => Ok.ret ⟨hA.2.2.1 5 (by decide) (by decide), rfl⟩) (fun _ => ?_)
  refine Ok.ite (fun _ => Ok.cle (e_bits_c h) (Ok.ret ⟨rfl, rfl⟩)) (fun _ => ?_)
  refine Ok.ite (fun _ => Ok.cle (e_bits_c h) (Ok.ret ⟨rfl, rfl⟩)) (fun _ => ?_)
  refine Ok.ite (fun _ => Ok.ret ⟨hA.2.2.1 6 (by decide) (by decide), rfl⟩) (fun _ => ?_)
  refine Ok.ite (fun _ => Ok.ret ⟨hA.2.2.1 7 (by decide) (by decide), rfl⟩) (fun _ => ?_)
  refine Ok.ite (fun _ => Ok.ret ⟨hA.2.2.1 8 (by decide) (by decide), rfl⟩) (fun _ => ?_)
  refine Ok.ite (fun _ => ?_) (fun _ => ?_)
  · rw [hA.2.2.2.1]
    rcases hW.2.2.2.1 with e | e
    · rw [e, if_pos rfl]
      exact Ok.t (by decide) (Ok.ret ⟨rfl, rfl⟩)
    · rw [if_neg (show ¬ ρ 26 = -2 from fun e2 => by rw [e2] at e; exact absurd e.1 (by decide))]
      exact Ok.f (by omega) (Ok.ret ⟨rfl, rfl⟩)
  refine Ok.ite (fun _ => Ok.t (by rw [h.t0]; exact h.tk) (Ok.cle (by rw [h.t0]; exact e_heightBy hA h.tc hW (by omega) h.tk) (Ok.ret ⟨rfl, rfl⟩))) (fun _ => ?_)
  refine Ok.ite (fun _ => Ok.ret ⟨rfl, rfl⟩) (fun _ => ?_)
  refine Ok.ite (fun _ => Ok.ret ⟨h.2.2.2.1.2.2.1, rfl⟩) (fun _ => ?_)
  refine Ok.ite (fun _ => Ok.ret ⟨h.2.2.2.2.1.1, rfl⟩) (fun _ => ?_)
  refine Ok.ite (fun _ => Ok.cle (e_slotsHeld h.2.2.2.2.2) (Ok.ret ⟨rfl, rfl⟩)) (fun _ => ?_)
  refine Ok.ite (fun _ => Ok.cle (e_bits_c h) (Ok.cle (e_weightsOf_c h) (Ok.ret ⟨rfl, rfl⟩))) (fun _ => ?_)
  refine Ok.ite (fun _ => Ok.cle (e_bits_c h) (Ok.cle (e_weightsOf_c h) (Ok.ret ⟨rfl, rfl⟩))) (fun _ => ?_)
  exact Ok.ite (fun _ => Ok.cle (e_bits_c h) (Ok.ret ⟨rfl, rfl⟩)) (fun _ => Ok.ret ⟨rfl, rfl⟩)
theorem in_c {v : Int} (h : x.toInt = v) : x = Int32.ofInt v := ofI h
theorem q_count_m (h : RELx n d t u sd ρ k nx H m tb9 G σ) (hn : n ≤ 512) : Ok (f_X12_count x σ) (fun r s => r = cnS d ρ k m (σ.1 2 1) (shF σ) x ∧ frm wQ wl0 σ s) := by
  unfold f_X12_count cnS
  refine Ok.cv (w_copies h.tm h.nw) (fun s1 hs1 => ?_)
  obtain ⟨hR, -, -, hf0⟩ := hs1
  have hf : frm wQ wl0 σ s1 := hf0.sub cp_wQ
  have h1 := h.fr hf
  have M := h1.tm
  have L := M.lv
  have hW := h.rw
  refine Ok.ite (fun _ => Ok.t L.sd0 (Ok.ret ⟨by rw [L.at]; exact L.2.2.1, hf⟩)) (fun _ => ?_)
  refine Ok.ite (fun _ => Ok.t L.sd0 (Ok.ret ⟨by rw [L.at]; exact M.2.2.2.1.1, hf⟩)) (fun _ => ?_)
  refine Ok.ite (fun _ => Ok.ret ⟨hR 21 (by decide), hf⟩) (fun _ => ?_)
  refine Ok.ite (fun _ => Ok.ret ⟨hR 22 (by decide), hf⟩) (fun _ => ?_)
  refine Ok.ite (fun _ => Ok.cle (e_bits_m M hR) (Ok.ret ⟨rfl, hf⟩)) (fun _ => ?_)
  refine Ok.ite (fun _ => Ok.cle (e_bits_m M hR) (Ok.ret ⟨rfl, hf⟩)) (fun _ => ?_)
  refine Ok.ite (fun c => ?_) (fun _ => ?_)
  · rw [in_c c]
    exact Ok.t (by decide) (Ok.ret ⟨hR 23 (by decide), hf⟩)
  refine Ok.ite (fun c => ?_) (fun _ => ?_)
  · rw [in_c c]
    exact Ok.t (by decide) (Ok.ret ⟨hR 24 (by decide), hf⟩)
  refine Ok.ite (fun c => ?_) (fun _ => ?_)
  · rw [in_c c]
    exact Ok.t (by decide) (Ok.ret ⟨hR 25 (by decide), hf⟩)
  refine Ok.ite (fun _ => Ok.ret ⟨hR 26 (by decide), hf⟩) (fun _ => ?_)
  refine Ok.ite (fun _ => Ok.cle (e_heightNow M hR hW (by omega)) (Ok.ret ⟨rfl, hf⟩)) (fun _ => ?_)
  refine Ok.ite (fun _ => Ok.ret ⟨?_, hf⟩) (fun _ => ?_)
  · obtain ⟨q, q1, q2, q3, q4⟩ := h.1.1
    rw [hf.1 236 2 rfl, q2, q3]
  refine Ok.ite (fun _ => Ok.ret ⟨h1.2.2.2.1.2.2.2.2.1, hf⟩) (fun _ => ?_)
  refine Ok.ite (fun _ => Ok.ret ⟨h1.2.2.2.2.1.2.2.1, hf⟩) (fun _ => ?_)
  refine Ok.ite (fun _ => ?_) (fun _ => ?_)
  · unfold shF
    rw [hf.1 275 0 rfl]
    have S := h.2.2.2.2.2
    rcases (S 0 (by decide)).1.2 with a0 | a0 <;> rcases (S 1 (by decide)).1.2 with a1 | a1 <;> rcases (S 2 (by decide)).1.2 with a2 | a2 <;>
    · unfold f_X12_count_192 f_X12_count_206 f_X12_count_221
      rw [hf.1 275 1 rfl, hf.1 275 2 rfl, a0, a1, a2]
      exact ⟨_, _, rfl, rfl, hf⟩
  refine Ok.ite (fun _ => Ok.cle (e_bits_m M hR) (Ok.cle (e_weightsOf_m M) (Ok.ret ⟨rfl, hf⟩))) (fun _ => ?_)
  refine Ok.ite (fun _ => Ok.cle (e_bits_m M hR) (Ok.cle (e_weightsOf_m M) (Ok.ret ⟨rfl, hf⟩))) (fun _ => ?_)
  exact Ok.ite (fun _ => Ok.cle (e_bits_m M hR) (Ok.ret ⟨rfl, hf⟩)) (fun _ => Ok.ret ⟨rfl, hf⟩)
theorem sim_count (hn : n ≤ 512) : SIM n (f_X11_count x) (f_X12_count x) := sim_q (fun d t u sd ρ k nx H m tb G σ h => ⟨_, (q_count_c h hn).mono (fun r s hs => ⟨hs.1, by rw [hs.2]; exact frm.rf⟩), fun s hs hf => by
  have := q_count_m (x := x) hs hn
  have e1 : s.1 2 1 = σ.1 2 1 := hf.1 2 1 rfl
  have e2 : shF s = shF σ := by unfold shF; rw [hf.1 275 0 rfl, hf.1 275 1 rfl, hf.1 275 2 rfl]
  rw [e1, e2] at this
  exact this⟩)
end COUNT
