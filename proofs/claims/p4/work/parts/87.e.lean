/-! orbits, swaps -/
section ORS
variable {σ s : HS} {n t u sd k nx m p L : Nat} {ρ : Nat → Int32} {d : DAT} {b : Int} {H G : Nat → Nat → Int32} {tb9 : Nat → Nat} {x y z : Int32} {g g2 : Nat → Nat}
def mkC (g : Nat → Nat) (L : Nat) : Nat → Nat → Int32 → Int32
  | 0, _, x => x
  | dd + 1, a, x => mkC g L dd (atS g L a) (x ||| bitI a)
/-- how many rows, from i on, some beats seen -/
def rnC (g : Nat → Nat) (L : Nat) : Nat → Nat → Int32 → Nat → Nat
  | 0, _, _, c => c
  | dd + 1, i, x, c => if tb x i = true then rnC g L dd (i + 1) x c else rnC g L dd (i + 1) (mkC g L L i x) (c + 1)
theorem e_rounds {p1 : Nat} (h : HC p1 L g σ) : f_X3_rounds p1 (nI L) σ = some (nI (rnC g L L 0 0 0), σ) := by
  obtain ⟨a1, a2, a3, a4⟩ := h
  have inner : ∀ (k7 : Int32 → Int32 → Int32 → Int32 → HS → Option (Int32 × HS)) (c i : Nat), ∀ (dd k N a : Nat) (x : Int32), k + dd = L → dd < N → a < L → f_X3_rounds_32 p1 k7 N (nI L) x (nI c) (nI i) (nI a) (nI k) σ = k7 (nI L) (mkC g L dd a x) (nI c) (nI (i + 1)) σ := by
    intro k7 c i dd
    induction dd with
    | zero =>
      intro k N a x hk hN ha
      obtain ⟨N, rfl⟩ : ∃ q, N = q + 1 := ⟨N - 1, by omega⟩
      obtain rfl : k = L := by omega
      show b_X3_rounds_32 p1 k7 (f_X3_rounds_32 p1 k7 N) (nI k) x (nI c) (nI i) (nI a) (nI k) σ = _
      unfold b_X3_rounds_32 f_X3_rounds_62
      rw [if_neg (Int.lt_irrefl _)]
      simp only [Bd]
      rw [nI_1]; rfl
    | succ dd ih =>
      intro k N a x hk hN ha
      obtain ⟨N, rfl⟩ : ∃ q, N = q + 1 := ⟨N - 1, by omega⟩
      have hg := a1 a ha
      show b_X3_rounds_32 p1 k7 (f_X3_rounds_32 p1 k7 N) (nI L) x (nI c) (nI i) (nI a) (nI k) σ = _
      unfold b_X3_rounds_32
      rw [nIt (n := k) (by omega), nIt (n := L) (by omega), nIt (n := a) (by omega), if_pos (show (k : Int) < L by omega)]
      simp only [Bd]
      rw [if_pos (show 0 ≤ (a : Int) ∧ (a : Int) < al p1 by omega), if_neg (show ¬ (L : Int) = 0 by omega), Int.toNat_natCast, hg.1, at_rem (by omega) hg.2 ⟨a2, a3⟩, nI_1]
      exact ih (k + 1) N (atS g L a) _ (by omega) (by omega) (at_lt ⟨a2, a3⟩).2
  have loop : ∀ (dd k N c : Nat) (x : Int32), k + dd = L → dd < N → f_X3_rounds_7 p1 N (nI L) x (nI c) (nI k) σ = some (nI (rnC g L dd k x c), σ) := by
    intro dd
    induction dd with
    | zero =>
      intro k N c x hk hN
      obtain ⟨N, rfl⟩ : ∃ q, N = q + 1 := ⟨N - 1, by omega⟩
      obtain rfl : k = L := by omega
      show b_X3_rounds_7 p1 (f_X3_rounds_7 p1 N) (nI k) x (nI c) (nI k) σ = _
      unfold b_X3_rounds_7
      rw [if_neg (Int.lt_irrefl _)]; rfl
    | succ dd ih =>
      intro k N c x hk hN
      obtain ⟨N, rfl⟩ : ∃ q, N = q + 1 := ⟨N - 1, by omega⟩
      show b_X3_rounds_7 p1 (f_X3_rounds_7 p1 N) (nI L) x (nI c) (nI k) σ = _
      unfold b_X3_rounds_7 f_X3_rounds_62
      rw [nIt (n := k) (by omega), nIt (n := L) (by omega), if_pos (show (k : Int) < L by omega)]
      simp only [Bd]
      rw [nI_1, nI_1]
      have er : rnC g L (dd + 1) k x c = if tb x k = true then rnC g L dd (k + 1) x c else rnC g L dd (k + 1) (mkC g L L k x) (c + 1) := rfl
      by_cases ct : tb x k = true
      · rw [if_neg (fun e => by rw [(tb_sh0 (by omega)).mp e] at ct; exact nomatch ct), er, if_pos ct]
        exact ih (k + 1) N c x (by omega) (by omega)
      · rw [if_pos ((tb_sh0 (by omega)).mpr (Bool.eq_false_iff.mpr ct)), er, if_neg ct, ← ih (k + 1) N (c + 1) _ (by omega) (by omega)]
        have := inner (f_X3_rounds_7 p1 N) (c + 1) k L 0 5000 k x (by omega) (by omega) (by omega)
        rw [nI_0] at this
        exact this
  unfold f_X3_rounds
  have := loop L 0 5000 0 0 (by omega) (by omega)
  rw [nI_0] at this
  exact this
/-! the reference marks until it comes to what was seen -/
def unSn (L : Nat) (x : Int32) : Nat := cntB (fun a => !tb x a) L
def CEs (g : Nat → Nat) (L : Nat) (x : Int32) (a : Nat) : Prop := ∀ y, y < L → tb x y = true → tb x (atS g L y) = true ∨ atS g L y = a
def CLs (g : Nat → Nat) (L : Nat) (x : Int32) : Prop := ∀ y, y < L → tb x y = true → tb x (atS g L y) = true
theorem un_mark {a : Nat} (hL : L ≤ 16) (ha : a < L) (h : tb x a = false) : unSn L (x ||| bitI a) + 1 = unSn L x := by
  unfold unSn
  refine cnt_del (a := a) ha (fun e he hn => ?_) (by rw [h]; rfl) ?_
  · rw [tb_or (by omega) (by omega), decide_eq_false hn, Bool.or_false]
  · rw [tb_or (by omega) (by omega), decide_eq_true rfl, Bool.or_true]; rfl
theorem un_pos {a : Nat} (hL : L ≤ 16) (ha : a < L) (h : tb x a = false) : 1 ≤ unSn L x := by
  have := un_mark hL ha h
  omega
theorem mkC_closed (hL : 1 ≤ L ∧ L ≤ 16) (hc : CLs g L x) : ∀ {dd a : Nat}, a < L → tb x a = true → mkC g L dd a x = x := by
  intro dd
  induction dd with
  | zero => intro a _ _; rfl
  | succ dd ih =>
    intro a ha ht
    show mkC g L dd (atS g L a) (x ||| bitI a) = x
    rw [tb_set (by omega) ht]
    exact ih (at_lt hL).2 (hc a ha ht)
theorem orb_57 {k28 : Int32 → Int32 → Int32 → HS → Option (Int32 × HS)} (h : HM L g σ) {c i : Nat} : ∀ (un N a : Nat) (x : Int32), unSn L x = un → un < N → a < L → CEs g L x a → ∃ x', f_X12_orbits_57 k28 N x (nI c) (nI i) (nI a) σ = f_X12_orbits_93 k28 x' (nI c) (nI i) σ ∧ CLs g L x' ∧ ∀ dd, un ≤ dd → mkC g L dd a x = x' := by
  obtain ⟨a1, a2, a3, a4⟩ := h
  intro un
  induction un with
  | zero =>
    intro N a x hu hN ha hce
    obtain ⟨N, rfl⟩ : ∃ q, N = q + 1 := ⟨N - 1, by omega⟩
    have ht : tb x a = true := by
      cases e : tb x a with
      | true => rfl
      | false => have := un_pos a3 ha e; omega
    have hcl : CLs g L x := fun y hy hty => (hce y hy hty).elim id (fun e => by rw [e]; exact ht)
    refine ⟨x, ?_, hcl, fun dd _ => mkC_closed ⟨a2, a3⟩ hcl ha ht⟩
    show b_X12_orbits_57 k28 (f_X12_orbits_57 k28 N) x (nI c) (nI i) (nI a) σ = _
    unfold b_X12_orbits_57
    rw [if_neg (fun e => by rw [(tb_sh0 (by omega)).mp e] at ht; exact nomatch ht)]
  | succ un ih =>
    intro N a x hu hN ha hce
    obtain ⟨N, rfl⟩ : ∃ q, N = q + 1 := ⟨N - 1, by omega⟩
    have eb : f_X12_orbits_57 k28 (N + 1) x (nI c) (nI i) (nI a) σ = b_X12_orbits_57 k28 (f_X12_orbits_57 k28 N) x (nI c) (nI i) (nI a) σ := rfl
    cases ht : tb x a with
    | true =>
      have hcl : CLs g L x := fun y hy hty => (hce y hy hty).elim id (fun e => by rw [e]; exact ht)
      refine ⟨x, ?_, hcl, fun dd _ => mkC_closed ⟨a2, a3⟩ hcl ha ht⟩
      rw [eb]
      unfold b_X12_orbits_57
      rw [if_neg (fun e => by rw [(tb_sh0 (by omega)).mp e] at ht; exact nomatch ht)]
    | false =>
      have um := un_mark a3 ha ht
      have hg := a1 a ha
      have hat := at_lt (g := g) (i := a) (L := L) ⟨a2, a3⟩
      obtain ⟨x', e1, e2, e3⟩ := ih N (atS g L a) (x ||| bitI a) (by omega) (by omega) hat.2 (fun y hy hty => by
        rw [tb_or (by omega) (by omega)] at hty
        rw [tb_or (by omega) (at_lt ⟨a2, a3⟩).1]
        by_cases ey : y = a
        · subst ey; exact Or.inr rfl
        · rw [decide_eq_false ey, Bool.or_false] at hty
          rcases hce y hy hty with e | e
          · exact Or.inl (by rw [e]; rfl)
          · exact Or.inl (by rw [e, decide_eq_true rfl, Bool.or_true]))
      refine ⟨x', ?_, e2, fun dd hdd => ?_⟩
      · rw [eb, ← e1]
        unfold b_X12_orbits_57
        rw [if_pos ((tb_sh0 (by omega)).mpr ht)]
        simp only [Bd]
        rw [a4, nIt (n := a) (by omega), nIt (n := L) (by omega), if_pos (show 0 ≤ (a : Int) ∧ (a : Int) < 16 by omega), if_neg (show ¬ (L : Int) = 0 by omega), Int.toNat_natCast, hg.1, at_rem (by omega) hg.2 ⟨a2, a3⟩]; rfl
      · obtain ⟨dd, rfl⟩ : ∃ q, dd = q + 1 := ⟨dd - 1, by omega⟩
        exact e3 dd (by omega)
theorem un_le : unSn L x ≤ L := cntB_le
theorem e_orbits28 (h : HM L g σ) : ∀ (dd i N c : Nat) (x : Int32), i + dd = L → dd < N → CLs g L x → f_X12_orbits_28 N x (nI c) (nI i) σ = some (nI (rnC g L dd i x c), σ) := by
  have h' := h
  obtain ⟨a1, a2, a3, a4⟩ := h
  intro dd
  induction dd with
  | zero =>
    intro i N c x hi hN _
    obtain ⟨N, rfl⟩ : ∃ q, N = q + 1 := ⟨N - 1, by omega⟩
    show b_X12_orbits_28 (f_X12_orbits_28 N) x (nI c) (nI i) σ = _
    unfold b_X12_orbits_28
    rw [a4, nIt (n := i) (by omega), nIt (n := L) (by omega), if_neg (show ¬ (i : Int) < L by omega)]; rfl
  | succ dd ih =>
    intro i N c x hi hN hcl
    obtain ⟨N, rfl⟩ : ∃ q, N = q + 1 := ⟨N - 1, by omega⟩
    have er : rnC g L (dd + 1) i x c = if tb x i = true then rnC g L dd (i + 1) x c else rnC g L dd (i + 1) (mkC g L L i x) (c + 1) := rfl
    show b_X12_orbits_28 (f_X12_orbits_28 N) x (nI c) (nI i) σ = _
    unfold b_X12_orbits_28
    rw [a4, nIt (n := i) (by omega), nIt (n := L) (by omega), if_pos (show (i : Int) < L by omega), er]
    by_cases ct : tb x i = true
    · rw [if_pos ((tb_sh1 (by omega)).mpr ct), if_pos ct]
      unfold f_X12_orbits_93
      simp only [Bd]
      rw [nI_1]
      exact ih (i + 1) N c x (by omega) (by omega) hcl
    · rw [if_neg (fun e => ct ((tb_sh1 (by omega)).mp e)), if_neg ct]
      simp only [Bd]
      rw [nI_1]
      have ul := un_le (L := L) (x := x)
      obtain ⟨x', e1, e2, e3⟩ := orb_57 (k28 := f_X12_orbits_28 N) h' (c := c + 1) (i := i) (unSn L x) 5000 i x rfl (by omega) (by omega) (fun y hy hty => Or.inl (hcl y hy hty))
      rw [e1, e3 L ul]
      unfold f_X12_orbits_93
      simp only [Bd]
      rw [nI_1]
      exact ih (i + 1) N (c + 1) x' (by omega) (by omega) e2
def orbS (d : DAT) (x : Int32) : Int32 := if 0 ≤ x.toInt ∧ x.toInt < d.1.2.1 then (if clS (gP d x.toInt.toNat) (LnP d x.toInt.toNat) = true then nI (rnC (gP d x.toInt.toNat) (LnP d x.toInt.toNat) (LnP d x.toInt.toNat) 0 0 0) else -2) else -1
theorem orbS_in (hp : p < d.1.2.1) (hP : d.1.2.1 ≤ 5) : orbS d (nI p) = if clS (gP d p) (LnP d p) = true then nI (rnC (gP d p) (LnP d p) (LnP d p) 0 0 0) else -2 := by
  have e1 : (nI p).toInt = (p : Int) := nIt (by omega)
  unfold orbS
  rw [e1, if_pos ⟨by omega, by omega⟩, Int.toNat_natCast]
theorem q_orbits_c (h : RELx n d t u sd ρ k nx H m tb9 G σ) : Ok (f_X11_orbits x σ) (fun r s => r = orbS d x ∧ frm wQ wl0 σ s) := by
  have hP := h.tc.2.1.2.1
  unfold f_X11_orbits
  rw [h.t0]
  refine Ok.t h.tk (Ok.cle (e_hasPattern h.tc.2.1.1 hP) ?_)
  rw [h.t0]
  by_cases c : 0 ≤ x.toInt ∧ x.toInt < d.1.2.1
  · refine Ok.f (fun e => if10.mp e c) ?_
    obtain ⟨p, hp, rfl⟩ := in_T c (by omega)
    obtain ⟨q1, q2, q3⟩ := h.tc.2.1.2.2 p hp
    have eL : d.1.2.2.1 p = LnP d p := rfl
    have hc := h.tc.hc h.tk h.ok hp
    rw [orbS_in hp hP, nIt (n := p) (by omega), Int.toNat_natCast, q1, eL]
    have c5 : 0 ≤ (p : Int) ∧ (p : Int) < 5 := by omega
    refine Ok.t h.tk (Ok.t c5 (Ok.t h.tk (Ok.t c5 (Ok.bd (Ok.cle (e_close hc) ?_)))))
    cases cc : clS (gP d p) (LnP d p) with
    | true => exact Ok.f i1_ne (Ok.cle (e_rounds hc) (Ok.ret ⟨rfl, frm.rf⟩))
    | false => exact Ok.t i0_eq (Ok.ret ⟨rfl, frm.rf⟩)
  · exact Ok.t (if10.mpr c) (Ok.ret ⟨(clo_no c).symm, frm.rf⟩)
theorem q_orbits_m (h : RELx n d t u sd ρ k nx H m tb9 G σ) : Ok (f_X12_orbits x σ) (fun r s => r = orbS d x ∧ frm wQ wl0 σ s) := by
  have hM := h.tm
  have hP := hM.2.2.2.1.2.1
  unfold f_X12_orbits
  refine Ok.cle (e_isPattern hM.lv hM.2.2.2.1.1 hP) ?_
  by_cases c : 0 ≤ x.toInt ∧ x.toInt < d.1.2.1
  · refine Ok.f (fun e => if10.mp e c) ?_
    obtain ⟨p, hp, rfl⟩ := in_T c (by omega)
    have hl := hM.lp hp
    rw [orbS_in hp hP]
    refine Ok.cl (w_keepsOf hM h.ok hp) (fun r s3 h3 => ?_)
    obtain ⟨rfl, hm, f3⟩ := h3
    rcases kep_rg (g := gP d p) (L := LnP d p) (fun i hi => (gP_of h.ok hp hi).2) (by omega) with ⟨e1, e2⟩ | ⟨e1, e2, e3⟩
    · rw [e1]
      refine Ok.t (by decide) (Ok.ret ⟨?_, f3.sub tp_wQ⟩)
      rw [e2]; rfl
    · rw [e2]
      refine Ok.f (by rw [nIt (by omega)]; exact Int.not_lt.mpr (Int.natCast_nonneg _)) ?_
      have := e_orbits28 hm (LnP d p) 0 5000 0 0 (by omega) (by omega) (fun y hy hty => by rw [tb_0] at hty; exact nomatch hty)
      rw [nI_0] at this
      refine Ok.of this ⟨?_, f3.sub tp_wQ⟩
      rw [e1]; rfl
  · exact Ok.t (if10.mpr c) (Ok.ret ⟨(clo_no c).symm, frm.rf⟩)
theorem sim_orbits : SIM n (f_X11_orbits x) (f_X12_orbits x) := sim_q (fun d t u sd ρ k nx H m tb G σ h => ⟨_, q_orbits_c h, fun s hs _ => q_orbits_m hs⟩)
/-! pairs -/
def swC (g : Nat → Nat) (i j : Nat) : Bool := decide (g j + j - i ≤ 9) && decide (j - i ≤ g i)
def sw1 (c : Nat → Nat → Bool) : Nat → Nat
  | 0 => 0
  | L + 1 => sw1 c L + cntB (fun i => c i L) L
def cntR (p : Nat → Bool) : Nat → Nat → Nat
  | 0, _ => 0
  | dd + 1, e => (if p e = true then 1 else 0) + cntR p dd (e + 1)
def sw2 (c : Nat → Nat → Bool) (L : Nat) : Nat → Nat
  | 0 => 0
  | n + 1 => sw2 c L n + cntR (c n) (L - (n + 1)) (n + 1)
theorem cntR_succ {p : Nat → Bool} : ∀ {dd e : Nat}, cntR p (dd + 1) e = cntR p dd e + if p (e + dd) = true then 1 else 0 := by
  intro dd
  induction dd with
  | zero => intro e; show (if p e = true then 1 else 0) + 0 = 0 + _; rw [Nat.add_zero, Nat.zero_add]; rfl
  | succ dd ih =>
    intro e
    show (if p e = true then 1 else 0) + cntR p (dd + 1) (e + 1) = (if p e = true then 1 else 0) + cntR p dd (e + 1) + _
    rw [ih, show e + 1 + dd = e + (dd + 1) by omega, Nat.add_assoc]
theorem sw2_succ {c : Nat → Nat → Bool} {L : Nat} : ∀ {n : Nat}, n ≤ L → sw2 c (L + 1) n = sw2 c L n + cntB (fun i => c i L) n := by
  intro n
  induction n with
  | zero => intro _; rfl
  | succ n ih =>
    intro hn
    show sw2 c (L + 1) n + cntR (c n) (L + 1 - (n + 1)) (n + 1) = sw2 c L n + cntR (c n) (L - (n + 1)) (n + 1) + (if c n L = true then cntB (fun i => c i L) n + 1 else cntB (fun i => c i L) n)
    rw [ih (by omega), show L + 1 - (n + 1) = L - (n + 1) + 1 by omega, cntR_succ, show n + 1 + (L - (n + 1)) = L by omega]
    split <;> omega
theorem sw_eq {c : Nat → Nat → Bool} : ∀ {L : Nat}, sw2 c L L = sw1 c L := by
  intro L
  induction L with
  | zero => rfl
  | succ L ih =>
    show sw2 c (L + 1) L + cntR (c L) (L + 1 - (L + 1)) (L + 1) = sw1 c L + cntB (fun i => c i L) L
    rw [sw2_succ (Nat.le_refl _), ih, Nat.sub_self]; rfl
theorem sw_c1 {i j : Nat} (hij : i ≤ j) (hj : j < 16) (hg : g j ≤ 9) : ((nI (g j) + nI j) - nI i) = nI (g j + j - i) := by rw [nI_add, nI_sub (by omega) (by omega)]
theorem e_pairs {p1 : Nat} (h : HC p1 L g σ) : f_X3_pairsToSwap p1 (nI L) σ = some (nI (sw1 (swC g) L), σ) := by
  obtain ⟨a1, a2, a3, a4⟩ := h
  have inner : ∀ (k4 : Int32 → Int32 → Int32 → HS → Option (Int32 × HS)) (j : Nat), j < L → ∀ (dd k N c : Nat), k + dd = j → dd < N → f_X3_pairsToSwap_12 p1 k4 N (nI L) (nI (c + cntB (fun i => swC g i j) k)) (nI j) (nI k) σ = k4 (nI L) (nI (c + cntB (fun i => swC g i j) j)) (nI (j + 1)) σ := by
    intro k4 j hj dd
    induction dd with
    | zero =>
      intro k N c hk hN
      obtain ⟨N, rfl⟩ : ∃ q, N = q + 1 := ⟨N - 1, by omega⟩
      obtain rfl : k = j := by omega
      show b_X3_pairsToSwap_12 p1 k4 (f_X3_pairsToSwap_12 p1 k4 N) (nI L) _ (nI k) (nI k) σ = _
      unfold b_X3_pairsToSwap_12
      rw [if_neg (Int.lt_irrefl _)]
      simp only [Bd]
      rw [nI_1]
    | succ dd ih =>
      intro k N c hk hN
      obtain ⟨N, rfl⟩ : ∃ q, N = q + 1 := ⟨N - 1, by omega⟩
      have hg := a1 j hj
      have hgk := a1 k (by omega)
      have ih1 := ih (k + 1) N c (by omega) (by omega)
      have ec : cntB (fun i => swC g i j) (k + 1) = if swC g k j = true then cntB (fun i => swC g i j) k + 1 else cntB (fun i => swC g i j) k := rfl
      rw [ec] at ih1
      show b_X3_pairsToSwap_12 p1 k4 (f_X3_pairsToSwap_12 p1 k4 N) (nI L) _ (nI j) (nI k) σ = _
      unfold b_X3_pairsToSwap_12 f_X3_pairsToSwap_50
      rw [nIt (n := k) (by omega), nIt (n := j) (by omega), if_pos (show (k : Int) < j by omega), if_pos (show 0 ≤ (j : Int) ∧ (j : Int) < al p1 by omega), Int.toNat_natCast, Int.toNat_natCast, hg.1, sw_c1 (by omega) (by omega) hg.2, e_isHeight]
      simp only [Cl, Bd]
      rw [nI_1, nI_1, nIt (n := g j + j - k) (by omega)]
      by_cases c1 : g j + j - k ≤ 9
      · rw [if_neg (fun e => if10.mp e (show 0 ≤ ((g j + j - k : Nat) : Int) ∧ ((g j + j - k : Nat) : Int) ≤ 9 by omega)), if_pos (show 0 ≤ (k : Int) ∧ (k : Int) < al p1 by omega), hgk.1, nI_sub (by omega) (by omega), e_isHeight]
        simp only
        have ev : (nI (g k) - nI (j - k)).toInt = (g k : Int) - ((j - k : Nat) : Int) := by rw [i32_sub (by rw [nIt (by omega), nIt (by omega)]; omega), nIt (by omega), nIt (by omega)]
        rw [ev]
        clear ev
        by_cases c2 : j - k ≤ g k
        · rw [if_neg (fun e => if10.mp e (show 0 ≤ (g k : Int) - ((j - k : Nat) : Int) ∧ (g k : Int) - ((j - k : Nat) : Int) ≤ 9 by omega))]
          have es : swC g k j = true := by unfold swC; rw [decide_eq_true c1, decide_eq_true c2]; rfl
          rw [if_pos es] at ih1
          exact ih1
        · rw [if_pos (if10.mpr (show ¬ (0 ≤ (g k : Int) - ((j - k : Nat) : Int) ∧ (g k : Int) - ((j - k : Nat) : Int) ≤ 9) by omega))]
          have es : ¬ swC g k j = true := by unfold swC; rw [decide_eq_false c2, Bool.and_false]; decide
          rw [if_neg es] at ih1
          exact ih1
      · rw [if_pos (if10.mpr (show ¬ (0 ≤ ((g j + j - k : Nat) : Int) ∧ ((g j + j - k : Nat) : Int) ≤ 9) by omega))]
        have es : ¬ swC g k j = true := by unfold swC; rw [decide_eq_false c1, Bool.false_and]; decide
        rw [if_neg es] at ih1
        exact ih1
  have loop : ∀ (dd k N : Nat), k + dd = L → dd < N → f_X3_pairsToSwap_4 p1 N (nI L) (nI (sw1 (swC g) k)) (nI k) σ = some (nI (sw1 (swC g) L), σ) := by
    intro dd
    induction dd with
    | zero =>
      intro k N hk hN
      obtain ⟨N, rfl⟩ : ∃ q, N = q + 1 := ⟨N - 1, by omega⟩
      obtain rfl : k = L := by omega
      show b_X3_pairsToSwap_4 p1 (f_X3_pairsToSwap_4 p1 N) (nI k) _ (nI k) σ = _
      unfold b_X3_pairsToSwap_4
      rw [if_neg (Int.lt_irrefl _)]
    | succ dd ih =>
      intro k N hk hN
      obtain ⟨N, rfl⟩ : ∃ q, N = q + 1 := ⟨N - 1, by omega⟩
      show b_X3_pairsToSwap_4 p1 (f_X3_pairsToSwap_4 p1 N) (nI L) _ (nI k) σ = _
      unfold b_X3_pairsToSwap_4
      rw [nIt (n := k) (by omega), nIt (n := L) (by omega), if_pos (show (k : Int) < L by omega), ← ih (k + 1) N (by omega) (by omega)]
      have := inner (f_X3_pairsToSwap_4 p1 N) k (by omega) k 0 5000 (sw1 (swC g) k) (by omega) (by omega)
      rw [nI_0] at this
      exact this
  unfold f_X3_pairsToSwap
  exact loop (L - 1) 1 5000 (by omega) (by omega)
def swaS (d : DAT) (x : Int32) : Int32 := if 0 ≤ x.toInt ∧ x.toInt < d.1.2.1 then nI (sw1 (swC (gP d x.toInt.toNat)) (LnP d x.toInt.toNat)) else -1
theorem swaS_in (hp : p < d.1.2.1) (hP : d.1.2.1 ≤ 5) : swaS d (nI p) = nI (sw1 (swC (gP d p)) (LnP d p)) := by
  have e1 : (nI p).toInt = (p : Int) := nIt (by omega)
  unfold swaS
  rw [e1, if_pos ⟨by omega, by omega⟩, Int.toNat_natCast]
theorem q_swaps_c (h : RELx n d t u sd ρ k nx H m tb9 G σ) : Ok (f_X11_swaps x σ) (fun r s => r = swaS d x ∧ frm wQ wl0 σ s) := by
  have hP := h.tc.2.1.2.1
  unfold f_X11_swaps
  rw [h.t0]
  refine Ok.t h.tk (Ok.cle (e_hasPattern h.tc.2.1.1 hP) ?_)
  rw [h.t0]
  by_cases c : 0 ≤ x.toInt ∧ x.toInt < d.1.2.1
  · refine Ok.f (fun e => if10.mp e c) ?_
    obtain ⟨p, hp, rfl⟩ := in_T c (by omega)
    obtain ⟨q1, q2, q3⟩ := h.tc.2.1.2.2 p hp
    rw [swaS_in hp hP, nIt (n := p) (by omega), Int.toNat_natCast, q1]
    have c5 : 0 ≤ (p : Int) ∧ (p : Int) < 5 := by omega
    exact Ok.t h.tk (Ok.t c5 (Ok.t h.tk (Ok.t c5 (Ok.cle (e_pairs (h.tc.hc h.tk h.ok hp)) (Ok.ret ⟨rfl, frm.rf⟩)))))
  · exact Ok.t (if10.mpr c) (Ok.ret ⟨(clo_no c).symm, frm.rf⟩)
theorem q_swaps_m (h : RELx n d t u sd ρ k nx H m tb9 G σ) : Ok (f_X12_swaps x σ) (fun r s => r = swaS d x ∧ frm wQ wl0 σ s) := by
  have hM := h.tm
  have hP := hM.2.2.2.1.2.1
  unfold f_X12_swaps
  refine Ok.cle (e_isPattern hM.lv hM.2.2.2.1.1 hP) ?_
  by_cases c : 0 ≤ x.toInt ∧ x.toInt < d.1.2.1
  · refine Ok.f (fun e => if10.mp e c) ?_
    obtain ⟨p, hp, rfl⟩ := in_T c (by omega)
    have hl := hM.lp hp
    have eL : d.1.2.2.1 p = LnP d p := rfl
    have e9 : (9 : Int32).toInt = 9 := rfl
    have hgs := fun i (hi : i < LnP d p) => (gP_of h.ok hp hi).2
    rw [swaS_in hp hP, ← sw_eq]
    generalize hL : LnP d p = L at hl eL hgs
    have eA : ∀ i, i < L → f_X12_heightAt (nI p) (nI i) σ = some (nI (gP d p i), σ) := fun i hi => by
      rw [e_hAt hM h.ok hp (by omega), hL, Nat.mod_eq_of_lt hi]
    have inner : ∀ (k14 : Int32 → Int32 → Int32 → HS → Option (Int32 × HS)) (i : Nat), i < L → ∀ (dd k N c : Nat), k + dd = L → i < k → dd < N → f_X12_swaps_28 k14 N (nI p) (nI c) (nI i) (nI k) σ = k14 (nI p) (nI (c + cntR (swC (gP d p) i) dd k)) (nI (i + 1)) σ := by
      intro k14 i hi dd
      induction dd with
      | zero =>
        intro k N c hk hik hN
        obtain ⟨N, rfl⟩ : ∃ q, N = q + 1 := ⟨N - 1, by omega⟩
        show b_X12_swaps_28 k14 (f_X12_swaps_28 k14 N) (nI p) (nI c) (nI i) (nI k) σ = _
        unfold b_X12_swaps_28
        rw [e_lengthOf hM hp, eL]
        simp only [Cl]
        rw [nIt (n := k) (by omega), nIt (n := L) (by omega), if_neg (show ¬ (k : Int) < L by omega)]
        simp only [Bd]
        rw [nI_1]; rfl
      | succ dd ih =>
        intro k N c hk hik hN
        obtain ⟨N, rfl⟩ : ∃ q, N = q + 1 := ⟨N - 1, by omega⟩
        have hgi := hgs i hi
        have hgk := hgs k (by omega)
        have er : cntR (swC (gP d p) i) (dd + 1) k = (if swC (gP d p) i k = true then 1 else 0) + cntR (swC (gP d p) i) dd (k + 1) := rfl
        show b_X12_swaps_28 k14 (f_X12_swaps_28 k14 N) (nI p) (nI c) (nI i) (nI k) σ = _
        unfold b_X12_swaps_28 f_X12_swaps_82
        rw [e_lengthOf hM hp, eL]
        simp only [Cl]
        rw [nIt (n := k) (by omega), nIt (n := L) (by omega), if_pos (show (k : Int) < L by omega), eA k (by omega)]
        simp only [Bd]
        rw [nI_1, nI_1, sw_c1 (by omega) (by omega) hgk, e_in, i0_eq, e9, nIt (n := gP d p k + k - i) (by omega), er]
        simp only
        by_cases c1 : gP d p k + k - i ≤ 9
        · rw [if_neg (fun e => if10.mp e (show 0 ≤ ((gP d p k + k - i : Nat) : Int) ∧ ((gP d p k + k - i : Nat) : Int) ≤ 9 by omega)), eA i hi]
          simp only
          rw [e_in, i0_eq, e9]
          have e1 : (nI (gP d p i) - nI k).toInt = (gP d p i : Int) - (k : Int) := by rw [i32_sub (by rw [nIt (by omega), nIt (by omega)]; omega), nIt (by omega), nIt (by omega)]
          have ev : ((nI (gP d p i) - nI k) + nI i).toInt = (gP d p i : Int) - (k : Int) + (i : Int) := by rw [i32_add (by rw [e1, nIt (by omega)]; omega), e1, nIt (by omega)]
          rw [ev]
          clear ev e1
          simp only
          by_cases c2 : k - i ≤ gP d p i
          · rw [if_neg (fun e => if10.mp e (show 0 ≤ (gP d p i : Int) - (k : Int) + (i : Int) ∧ (gP d p i : Int) - (k : Int) + (i : Int) ≤ 9 by omega))]
            have es : swC (gP d p) i k = true := by unfold swC; rw [decide_eq_true c1, decide_eq_true c2]; rfl
            rw [if_pos es, ← Nat.add_assoc]
            exact ih (k + 1) N (c + 1) (by omega) (by omega) (by omega)
          · rw [if_pos (if10.mpr (show ¬ (0 ≤ (gP d p i : Int) - (k : Int) + (i : Int) ∧ (gP d p i : Int) - (k : Int) + (i : Int) ≤ 9) by omega))]
            have es : ¬ swC (gP d p) i k = true := by unfold swC; rw [decide_eq_false c2, Bool.and_false]; decide
            rw [if_neg es, Nat.zero_add]
            exact ih (k + 1) N c (by omega) (by omega) (by omega)
        · rw [if_pos (if10.mpr (show ¬ (0 ≤ ((gP d p k + k - i : Nat) : Int) ∧ ((gP d p k + k - i : Nat) : Int) ≤ 9) by omega))]
          have es : ¬ swC (gP d p) i k = true := by unfold swC; rw [decide_eq_false c1, Bool.false_and]; decide
          rw [if_neg es, Nat.zero_add]
          exact ih (k + 1) N c (by omega) (by omega) (by omega)
    have loop : ∀ (dd i N : Nat), i + dd = L → dd < N → f_X12_swaps_14 N (nI p) (nI (sw2 (swC (gP d p)) L i)) (nI i) σ = some (nI (sw2 (swC (gP d p)) L L), σ) := by
      intro dd
      induction dd with
      | zero =>
        intro i N hk hN
        obtain ⟨N, rfl⟩ : ∃ q, N = q + 1 := ⟨N - 1, by omega⟩
        show b_X12_swaps_14 (f_X12_swaps_14 N) (nI p) _ (nI i) σ = _
        unfold b_X12_swaps_14
        rw [e_lengthOf hM hp, eL]
        simp only [Cl]
        rw [nIt (n := i) (by omega), nIt (n := L) (by omega), if_neg (show ¬ (i : Int) < L by omega)]
        obtain rfl : i = L := by omega
        rfl
      | succ dd ih =>
        intro i N hk hN
        obtain ⟨N, rfl⟩ : ∃ q, N = q + 1 := ⟨N - 1, by omega⟩
        show b_X12_swaps_14 (f_X12_swaps_14 N) (nI p) _ (nI i) σ = _
        unfold b_X12_swaps_14
        rw [e_lengthOf hM hp, eL]
        simp only [Cl]
        rw [nIt (n := i) (by omega), nIt (n := L) (by omega), if_pos (show (i : Int) < L by omega)]
        simp only [Bd]
        rw [nI_1, inner (f_X12_swaps_14 N) i (by omega) (L - (i + 1)) (i + 1) 5000 _ (by omega) (by omega) (by omega)]
        exact ih (i + 1) N (by omega) (by omega)
    have := loop L 0 5000 (by omega) (by omega)
    rw [show nI (sw2 (swC (gP d p)) L 0) = 0 from nI_0, nI_0] at this
    refine Ok.of this ?_
    exact ⟨rfl, frm.rf⟩
  · exact Ok.t (if10.mpr c) (Ok.ret ⟨(clo_no c).symm, frm.rf⟩)
theorem sim_swaps : SIM n (f_X11_swaps x) (f_X12_swaps x) := sim_q (fun d t u sd ρ k nx H m tb G σ h => ⟨_, q_swaps_c h, fun s hs _ => q_swaps_m hs⟩)
end ORS
