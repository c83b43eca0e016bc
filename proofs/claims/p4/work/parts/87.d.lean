/-! turned, orbits, swaps -/
section TOS
variable {σ s : HS} {n t u sd k nx m p L : Nat} {ρ : Nat → Int32} {d : DAT} {b : Int} {H G : Nat → Nat → Int32} {tb9 : Nat → Nat} {x y z : Int32} {g g2 : Nat → Nat}
def alT (g g2 : Nat → Nat) (L tn : Nat) : Nat → Bool
  | 0 => true
  | n + 1 => alT g g2 L tn n && decide (g ((n + tn) % L) = g2 n)
theorem alT_mono {tn : Nat} : ∀ {n k : Nat}, alT g g2 L tn n = true → k ≤ n → alT g g2 L tn k = true := by
  intro n
  induction n with
  | zero => intro k h hk; rw [show k = 0 by omega]; exact h
  | succ n ih =>
    intro k h hk
    by_cases c : k = n + 1
    · rw [c]; exact h
    · have h1 : (alT g g2 L tn n && decide (g ((n + tn) % L) = g2 n)) = true := h
      rw [Bool.and_eq_true] at h1
      exact ih h1.1 (by omega)
def turS (g g2 : Nat → Nat) (L : Nat) : Int32 := firI (fun tn => alT g g2 L tn L) L (-2)
theorem nI_ieq {a c : Nat} (ha : a ≤ 100000) (hc : c ≤ 100000) : (nI a).toInt = (nI c).toInt ↔ a = c := by
  rw [nIt ha, nIt hc]; omega
theorem e_turns {p1 p2 : Nat} (h : HC p1 L g σ) (h2 : HC p2 L g2 σ) : f_X3_turns p1 p2 (nI L) σ = some (turS g g2 L, σ) := by
  obtain ⟨a1, a2, a3, a4⟩ := h
  obtain ⟨b1, b2, b3, b4⟩ := h2
  have inner : ∀ (k2 : Int32 → Int32 → HS → Option (Int32 × HS)) (tn : Nat), tn < L → ∀ (dd k N : Nat), k + dd = L → dd < N → f_X3_turns_13 p1 p2 k2 N (nI L) (nI tn) (if alT g g2 L tn k = true then 1 else 0) (nI k) σ = if alT g g2 L tn L = true then some (nI tn, σ) else k2 (nI L) (nI (tn + 1)) σ := by
    intro k2 tn htn dd
    induction dd with
    | zero =>
      intro k N hk hN
      obtain ⟨N, rfl⟩ : ∃ q, N = q + 1 := ⟨N - 1, by omega⟩
      obtain rfl : k = L := by omega
      show b_X3_turns_13 p1 p2 k2 (f_X3_turns_13 p1 p2 k2 N) (nI k) (nI tn) _ (nI k) σ = _
      unfold b_X3_turns_13
      rw [if_neg (Int.lt_irrefl _)]
      cases alT g g2 k tn k with
      | true => rfl
      | false =>
        show (if (0 : Int32).toInt = 0 then Bd (nI tn + 1) fun z1 => k2 (nI k) z1 σ else some (nI tn, σ)) = _
        rw [if_pos i0_eq]
        simp only [Bd]
        rw [nI_1]; rfl
    | succ dd ih =>
      intro k N hk hN
      obtain ⟨N, rfl⟩ : ∃ q, N = q + 1 := ⟨N - 1, by omega⟩
      have hr : (k + tn) % L < L := Nat.mod_lt _ (by omega)
      have ih1 := ih (k + 1) N (by omega) (by omega)
      have ea : alT g g2 L tn (k + 1) = (alT g g2 L tn k && decide (g ((k + tn) % L) = g2 k)) := rfl
      rw [ea] at ih1
      show b_X3_turns_13 p1 p2 k2 (f_X3_turns_13 p1 p2 k2 N) (nI L) (nI tn) _ (nI k) σ = _
      unfold b_X3_turns_13 f_X3_turns_43 f_X3_turns_44
      rw [nIt (n := k) (by omega), nIt (n := L) (by omega), if_pos (show (k : Int) < L by omega), nI_add, pk_rem (by omega) (by omega) (by omega), nIt (n := (k + tn) % L) (by omega), Int.toNat_natCast, Int.toNat_natCast, if_neg (show ¬ (L : Int) = 0 by omega)]
      simp only [Bd]
      rw [nI_1]
      cases hc : alT g g2 L tn k with
      | false =>
        rw [hc, Bool.false_and] at ih1
        exact ih1
      | true =>
        rw [hc, Bool.true_and] at ih1
        rw [if_pos rfl, if_neg i1_ne, if_pos (show 0 ≤ (((k + tn) % L : Nat) : Int) ∧ (((k + tn) % L : Nat) : Int) < al p1 by omega), if_pos (show 0 ≤ (k : Int) ∧ (k : Int) < al p2 by omega), (a1 _ hr).1, (b1 k (by omega)).1]
        have g9 := (a1 _ hr).2
        have g9' := (b1 k (by omega)).2
        by_cases c : g ((k + tn) % L) = g2 k
        · rw [decide_eq_true c] at ih1
          rw [if_pos ((nI_ieq (by omega) (by omega)).mpr c)]
          exact ih1
        · rw [decide_eq_false c] at ih1
          rw [if_neg (fun e => c ((nI_ieq (by omega) (by omega)).mp e))]
          exact ih1
  have loop : ∀ (dd k N : Nat), k + dd = L → dd < N → f_X3_turns_2 p1 p2 N (nI L) (nI k) σ = some (if ffB (fun tn => alT g g2 L tn L) dd k < L then nI (ffB (fun tn => alT g g2 L tn L) dd k) else -2, σ) := by
    intro dd
    induction dd with
    | zero =>
      intro k N hk hN
      obtain ⟨N, rfl⟩ : ∃ q, N = q + 1 := ⟨N - 1, by omega⟩
      show b_X3_turns_2 p1 p2 (f_X3_turns_2 p1 p2 N) (nI L) (nI k) σ = _
      unfold b_X3_turns_2
      rw [nIt (n := k) (by omega), nIt (n := L) (by omega), if_neg (show ¬ (k : Int) < L by omega), if_neg (show ¬ ffB (fun tn => alT g g2 L tn L) 0 k < L from (by show ¬ k < L; omega))]
    | succ dd ih =>
      intro k N hk hN
      obtain ⟨N, rfl⟩ : ∃ q, N = q + 1 := ⟨N - 1, by omega⟩
      have i := inner (f_X3_turns_2 p1 p2 N) k (by omega) L 0 5000 (by omega) (by omega)
      show b_X3_turns_2 p1 p2 (f_X3_turns_2 p1 p2 N) (nI L) (nI k) σ = _
      unfold b_X3_turns_2
      rw [nIt (n := k) (by omega), nIt (n := L) (by omega), if_pos (show (k : Int) < L by omega)]
      rw [nI_0] at i
      refine Eq.trans i ?_
      show _ = some (if (if alT g g2 L k L = true then k else ffB (fun tn => alT g g2 L tn L) dd (k + 1)) < L then nI (if alT g g2 L k L = true then k else ffB (fun tn => alT g g2 L tn L) dd (k + 1)) else -2, σ)
      by_cases c : alT g g2 L k L = true
      · rw [if_pos c, if_pos c, if_pos (show k < L by omega)]
      · rw [if_neg c, if_neg c, ih (k + 1) N (by omega) (by omega)]
  unfold f_X3_turns turS firI
  have := loop L 0 5000 (by omega) (by omega)
  rw [nI_0] at this
  exact this
def tudS (d : DAT) (x y : Int32) : Int32 := if (0 ≤ x.toInt ∧ x.toInt < d.1.2.1) ∧ (0 ≤ y.toInt ∧ y.toInt < d.1.2.1) then (if LnP d x.toInt.toNat = LnP d y.toInt.toNat then turS (gP d x.toInt.toNat) (gP d y.toInt.toNat) (LnP d x.toInt.toNat) else -2) else -1
theorem tudS_in {q : Nat} (hp : p < d.1.2.1) (hq : q < d.1.2.1) (hP : d.1.2.1 ≤ 5) : tudS d (nI p) (nI q) = if LnP d p = LnP d q then turS (gP d p) (gP d q) (LnP d p) else -2 := by
  have e1 : (nI p).toInt = (p : Int) := nIt (by omega)
  have e2 : (nI q).toInt = (q : Int) := nIt (by omega)
  unfold tudS
  rw [e1, e2, if_pos ⟨⟨by omega, by omega⟩, ⟨by omega, by omega⟩⟩, Int.toNat_natCast, Int.toNat_natCast]
theorem q_turned_c (h : RELx n d t u sd ρ k nx H m tb9 G σ) : Ok (f_X11_turned x y σ) (fun r s => r = tudS d x y ∧ frm wQ wl0 σ s) := by
  have hP := h.tc.2.1.2.1
  unfold f_X11_turned
  rw [h.t0]
  refine Ok.t h.tk (Ok.cle (e_hasPattern h.tc.2.1.1 hP) ?_)
  rw [h.t0]
  by_cases c : 0 ≤ x.toInt ∧ x.toInt < d.1.2.1
  · refine Ok.f (fun e => if10.mp e c) (Ok.t h.tk (Ok.cle (e_hasPattern h.tc.2.1.1 hP) ?_))
    rw [h.t0]
    by_cases cq : 0 ≤ y.toInt ∧ y.toInt < d.1.2.1
    · refine Ok.f (fun e => if10.mp e cq) ?_
      obtain ⟨p, hp, rfl⟩ := in_T c (by omega)
      obtain ⟨q, hq, rfl⟩ := in_T cq (by omega)
      obtain ⟨a1, a2, a3⟩ := h.tc.2.1.2.2 p hp
      obtain ⟨b1, b2, b3⟩ := h.tc.2.1.2.2 q hq
      have eL : d.1.2.2.1 p = LnP d p := rfl
      have eM : d.1.2.2.1 q = LnP d q := rfl
      rw [eL] at a1 a2
      rw [eM] at b1 b2
      rw [tudS_in hp hq hP, nIt (n := p) (by omega), nIt (n := q) (by omega), Int.toNat_natCast, Int.toNat_natCast, a1, b1]
      have c5 : 0 ≤ (p : Int) ∧ (p : Int) < 5 := by omega
      have d5 : 0 ≤ (q : Int) ∧ (q : Int) < 5 := by omega
      refine Ok.t h.tk (Ok.t c5 (Ok.bd (Ok.t h.tk (Ok.t d5 ?_))))
      by_cases cl : LnP d p = LnP d q
      · refine Ok.t ((nI_ieq (by omega) (by omega)).mpr cl) (Ok.t h.tk (Ok.t c5 (Ok.t h.tk (Ok.t d5 ?_))))
        rw [if_pos cl]
        have hc2 := h.tc.hc h.tk h.ok hq
        rw [← cl] at hc2
        exact Ok.cle (e_turns (h.tc.hc h.tk h.ok hp) hc2) (Ok.ret ⟨rfl, frm.rf⟩)
      · refine Ok.f (fun e => cl ((nI_ieq (by omega) (by omega)).mp e)) (Ok.ret ⟨?_, frm.rf⟩)
        rw [if_neg cl]
    · exact Ok.t (if10.mpr cq) (Ok.ret ⟨(clo_no (fun e => cq e.2)).symm, frm.rf⟩)
  · exact Ok.t (if10.mpr c) (Ok.ret ⟨(clo_no (fun e => c e.1)).symm, frm.rf⟩)
theorem e_hAt (hM : TM sd d σ) (hD : DOK d) (hp : p < d.1.2.1) {i : Nat} (hi : i ≤ 100000) : f_X12_heightAt (nI p) (nI i) σ = some (nI (gP d p (i % LnP d p)), σ) := by
  have hl := hM.lp hp
  have eL : d.1.2.2.1 p = LnP d p := rfl
  rw [e_heightAt hM hp hi, eL, (gP_of hD hp (Nat.mod_lt _ (by omega))).1]
theorem e_isTurned {q tn : Nat} (hM : TM sd d σ) (hD : DOK d) (hp : p < d.1.2.1) (hq : q < d.1.2.1) (hl : LnP d p = LnP d q) (ht : tn < 8) : f_X12_isTurned (nI p) (nI q) (nI tn) σ = some (if alT (gP d p) (gP d q) (LnP d p) tn (LnP d p) = true then 1 else 0, σ) := by
  have h8 := hM.lp hp
  have eL : d.1.2.2.1 p = LnP d p := rfl
  have loop : ∀ (dd k N : Nat), k + dd = LnP d p → dd < N → alT (gP d p) (gP d q) (LnP d p) tn k = true → f_X12_isTurned_3 N (nI p) (nI q) (nI tn) (nI k) σ = some (if alT (gP d p) (gP d q) (LnP d p) tn (LnP d p) = true then 1 else 0, σ) := by
    intro dd
    induction dd with
    | zero =>
      intro k N hk hN ha
      obtain ⟨N, rfl⟩ : ∃ q, N = q + 1 := ⟨N - 1, by omega⟩
      show b_X12_isTurned_3 (f_X12_isTurned_3 N) (nI p) (nI q) (nI tn) (nI k) σ = _
      unfold b_X12_isTurned_3
      rw [e_lengthOf hM hp, eL]
      simp only [Cl]
      rw [nIt (n := k) (by omega), nIt (n := LnP d p) (by omega), if_neg (show ¬ (k : Int) < LnP d p by omega)]
      rw [show k = LnP d p by omega] at ha
      rw [if_pos ha]
    | succ dd ih =>
      intro k N hk hN ha
      obtain ⟨N, rfl⟩ : ∃ q, N = q + 1 := ⟨N - 1, by omega⟩
      have hr : (k + tn) % LnP d p < LnP d p := Nat.mod_lt _ (by omega)
      have g1 := (gP_of hD hp hr).2
      have g2 := (gP_of hD hq (show k < LnP d q by omega)).2
      have ea : alT (gP d p) (gP d q) (LnP d p) tn (k + 1) = (alT (gP d p) (gP d q) (LnP d p) tn k && decide (gP d p ((k + tn) % LnP d p) = gP d q k)) := rfl
      show b_X12_isTurned_3 (f_X12_isTurned_3 N) (nI p) (nI q) (nI tn) (nI k) σ = _
      unfold b_X12_isTurned_3
      rw [e_lengthOf hM hp, eL]
      simp only [Cl]
      rw [nIt (n := k) (by omega), nIt (n := LnP d p) (by omega), if_pos (show (k : Int) < LnP d p by omega), nI_add, e_hAt hM hD hp (by omega)]
      simp only
      rw [e_hAt hM hD hq (by omega), ← hl, Nat.mod_eq_of_lt (show k < LnP d p by omega)]
      simp only [Bd]
      rw [nI_1]
      by_cases c : gP d p ((k + tn) % LnP d p) = gP d q k
      · rw [if_pos ((nI_ieq (by omega) (by omega)).mpr c)]
        exact ih (k + 1) N (by omega) (by omega) (by rw [ea, ha, decide_eq_true c]; rfl)
      · rw [if_neg (fun e => c ((nI_ieq (by omega) (by omega)).mp e))]
        have : ¬ alT (gP d p) (gP d q) (LnP d p) tn (LnP d p) = true := fun e => by
          have := alT_mono e (show k + 1 ≤ LnP d p by omega)
          rw [ea, decide_eq_false c, Bool.and_false] at this
          exact nomatch this
        rw [if_neg this]
  unfold f_X12_isTurned
  rw [nI0]
  exact loop (LnP d p) 0 5000 (by omega) (by omega) rfl
theorem q_turned_m (h : RELx n d t u sd ρ k nx H m tb9 G σ) : Ok (f_X12_turned x y σ) (fun r s => r = tudS d x y ∧ frm wQ wl0 σ s) := by
  have hM := h.tm
  have hP := hM.2.2.2.1.2.1
  unfold f_X12_turned
  refine Ok.cle (e_isPattern hM.lv hM.2.2.2.1.1 hP) ?_
  by_cases c : 0 ≤ x.toInt ∧ x.toInt < d.1.2.1
  · refine Ok.f (fun e => if10.mp e c) (Ok.cle (e_isPattern hM.lv hM.2.2.2.1.1 hP) ?_)
    by_cases cq : 0 ≤ y.toInt ∧ y.toInt < d.1.2.1
    · refine Ok.f (fun e => if10.mp e cq) ?_
      obtain ⟨p, hp, rfl⟩ := in_T c (by omega)
      obtain ⟨q, hq, rfl⟩ := in_T cq (by omega)
      have hl1 := hM.lp hp
      have hl2 := hM.lp hq
      have eL : d.1.2.2.1 p = LnP d p := rfl
      have eM : d.1.2.2.1 q = LnP d q := rfl
      refine Ok.cle (e_lengthOf hM hp) (Ok.cle (e_lengthOf hM hq) ?_)
      rw [tudS_in hp hq hP, eL, eM]
      by_cases cl : LnP d p = LnP d q
      · refine Ok.t ((nI_ieq (by omega) (by omega)).mpr cl) ?_
        rw [if_pos cl]
        have loop : ∀ (dd k N : Nat), k + dd = LnP d p → dd < N → f_X12_turned_36 N (nI p) (nI q) (nI k) σ = some (if ffB (fun tn => alT (gP d p) (gP d q) (LnP d p) tn (LnP d p)) dd k < LnP d p then nI (ffB (fun tn => alT (gP d p) (gP d q) (LnP d p) tn (LnP d p)) dd k) else -2, σ) := by
          intro dd
          induction dd with
          | zero =>
            intro k N hk hN
            obtain ⟨N, rfl⟩ : ∃ q, N = q + 1 := ⟨N - 1, by omega⟩
            show b_X12_turned_36 (f_X12_turned_36 N) (nI p) (nI q) (nI k) σ = _
            unfold b_X12_turned_36
            rw [e_lengthOf hM hp, eL]
            simp only [Cl]
            rw [nIt (n := k) (by omega), nIt (n := LnP d p) (by omega), if_neg (show ¬ (k : Int) < LnP d p by omega), if_neg (show ¬ ffB (fun tn => alT (gP d p) (gP d q) (LnP d p) tn (LnP d p)) 0 k < LnP d p from (by show ¬ k < LnP d p; omega))]
          | succ dd ih =>
            intro k N hk hN
            obtain ⟨N, rfl⟩ : ∃ q, N = q + 1 := ⟨N - 1, by omega⟩
            show b_X12_turned_36 (f_X12_turned_36 N) (nI p) (nI q) (nI k) σ = _
            unfold b_X12_turned_36
            rw [e_lengthOf hM hp, eL]
            simp only [Cl]
            rw [nIt (n := k) (by omega), nIt (n := LnP d p) (by omega), if_pos (show (k : Int) < LnP d p by omega), e_isTurned hM h.ok hp hq cl (by omega)]
            simp only [Bd]
            rw [nI_1]
            show _ = some (if (if alT (gP d p) (gP d q) (LnP d p) k (LnP d p) = true then k else ffB (fun tn => alT (gP d p) (gP d q) (LnP d p) tn (LnP d p)) dd (k + 1)) < LnP d p then nI (if alT (gP d p) (gP d q) (LnP d p) k (LnP d p) = true then k else ffB (fun tn => alT (gP d p) (gP d q) (LnP d p) tn (LnP d p)) dd (k + 1)) else -2, σ)
            cases c : alT (gP d p) (gP d q) (LnP d p) k (LnP d p) with
            | true =>
              rw [if_pos rfl, if_pos rfl, if_neg i1_ne, if_pos (show k < LnP d p by omega)]
            | false =>
              show (if (0 : Int32).toInt = 0 then f_X12_turned_36 N (nI p) (nI q) (nI (k + 1)) σ else some (nI k, σ)) = some (if ffB (fun tn => alT (gP d p) (gP d q) (LnP d p) tn (LnP d p)) dd (k + 1) < LnP d p then nI (ffB (fun tn => alT (gP d p) (gP d q) (LnP d p) tn (LnP d p)) dd (k + 1)) else -2, σ)
              rw [if_pos i0_eq]
              exact ih (k + 1) N (by omega) (by omega)
        have := loop (LnP d p) 0 5000 (by omega) (by omega)
        rw [nI_0] at this
        refine Ok.of this ?_
        exact ⟨rfl, frm.rf⟩
      · refine Ok.f (fun e => cl ((nI_ieq (by omega) (by omega)).mp e)) (Ok.ret ⟨?_, frm.rf⟩)
        rw [if_neg cl]
    · exact Ok.t (if10.mpr cq) (Ok.ret ⟨(clo_no (fun e => cq e.2)).symm, frm.rf⟩)
  · exact Ok.t (if10.mpr c) (Ok.ret ⟨(clo_no (fun e => c e.1)).symm, frm.rf⟩)
theorem sim_turned : SIM n (f_X11_turned x y) (f_X12_turned x y) := sim_q (fun d t u sd ρ k nx H m tb G σ h => ⟨_, q_turned_c h, fun s hs _ => q_turned_m hs⟩)
end TOS
