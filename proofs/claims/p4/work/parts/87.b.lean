/-! rows of heights: which close, how many they keep -/
section HTS
variable {σ s : HS} {p1 L t sd p : Nat} {g g2 : Nat → Nat} {d : DAT} {x y : Int32}
def HC (p1 L : Nat) (g : Nat → Nat) (σ : HS) : Prop := (∀ i, i < L → σ.1 p1 i = nI (g i) ∧ g i ≤ 9) ∧ 1 ≤ L ∧ L ≤ 16 ∧ (L : Int) ≤ al p1
def HM (L : Nat) (g : Nat → Nat) (σ : HS) : Prop := (∀ i, i < L → σ.1 269 i = nI (g i) ∧ g i ≤ 9) ∧ 1 ≤ L ∧ L ≤ 16 ∧ σ.1 236 57 = nI L
def atS (g : Nat → Nat) (L i : Nat) : Nat := (i + g i) % L
def clL (g : Nat → Nat) (L : Nat) : Nat → Nat → Int32 → Bool
  | 0, _, _ => true
  | dd + 1, i, x => if tb x (atS g L i) = true then false else clL g L dd (i + 1) (x ||| bitI (atS g L i))
def clS (g : Nat → Nat) (L : Nat) : Bool := clL g L L 0 0
def sumN (g : Nat → Nat) : Nat → Nat
  | 0 => 0
  | n + 1 => sumN g n + g n
theorem sumN_le (h : ∀ i, i < L → g i ≤ 9) : ∀ {n : Nat}, n ≤ L → sumN g n ≤ 9 * n := by
  intro n
  induction n with
  | zero => intro _; exact Nat.le_refl _
  | succ n ih =>
    intro hn
    show sumN g n + g n ≤ 9 * (n + 1)
    have := ih (by omega)
    have := h n (by omega)
    omega
theorem at_rem {i : Nat} (hi : i ≤ 100) (hg : g i ≤ 9) (hL : 1 ≤ L ∧ L ≤ 16) : (nI i + nI (g i)) - (nI i + nI (g i)) / nI L * nI L = nI (atS g L i) := by
  rw [nI_add, pk_rem (by omega) (by omega) (by omega)]; rfl
theorem at_lt {i : Nat} (hL : 1 ≤ L ∧ L ≤ 16) : atS g L i < 16 ∧ atS g L i < L := by
  have : atS g L i < L := Nat.mod_lt _ (by omega)
  omega
theorem e_close (h : HC p1 L g σ) : f_X3_close p1 (nI L) σ = some (if clS g L = true then 1 else 0, σ) := by
  obtain ⟨h1, h2, h3, h4⟩ := h
  have loop : ∀ (dd k N : Nat) (x : Int32), k + dd = L → dd < N → f_X3_close_4 p1 N (nI L) x (nI k) σ = some (if clL g L dd k x = true then 1 else 0, σ) := by
    intro dd
    induction dd with
    | zero =>
      intro k N x hk hN
      obtain ⟨N, rfl⟩ : ∃ q, N = q + 1 := ⟨N - 1, by omega⟩
      show b_X3_close_4 p1 (f_X3_close_4 p1 N) (nI L) x (nI k) σ = _
      unfold b_X3_close_4
      rw [nIt (n := k) (by omega), nIt (n := L) (by omega), if_neg (show ¬ (k : Int) < L by omega)]; rfl
    | succ dd ih =>
      intro k N x hk hN
      obtain ⟨N, rfl⟩ : ∃ q, N = q + 1 := ⟨N - 1, by omega⟩
      have hg := h1 k (by omega)
      have ha := at_lt (g := g) (i := k) (L := L) ⟨h2, h3⟩
      show b_X3_close_4 p1 (f_X3_close_4 p1 N) (nI L) x (nI k) σ = _
      unfold b_X3_close_4
      rw [nIt (n := k) (by omega), nIt (n := L) (by omega), if_pos (show (k : Int) < L by omega), if_pos (show 0 ≤ (k : Int) ∧ (k : Int) < al p1 by omega), if_neg (show ¬ (L : Int) = 0 by omega), Int.toNat_natCast, hg.1, at_rem (by omega) hg.2 ⟨h2, h3⟩]
      simp only [Bd]
      rw [nI_1]
      show (if (x &&& bitI (atS g L k)).toInt = 0 then f_X3_close_4 p1 N (nI L) (x ||| bitI (atS g L k)) (nI (k + 1)) σ else some (0, σ)) = some (if (if tb x (atS g L k) = true then false else clL g L dd (k + 1) (x ||| bitI (atS g L k))) = true then 1 else 0, σ)
      by_cases c : tb x (atS g L k) = true
      · rw [if_neg (fun e => by rw [(tb_and ha.1).mp e] at c; exact nomatch c), if_pos c]; rfl
      · rw [if_pos ((tb_and ha.1).mpr (Bool.eq_false_iff.mpr c)), if_neg c]
        exact ih (k + 1) N _ (by omega) (by omega)
  unfold f_X3_close clS
  have := loop L 0 5000 0 (by omega) (by omega)
  rw [nI_0] at this
  exact this
theorem e_kept (h : HC p1 L g σ) : f_X3_kept p1 (nI L) σ = some (nI (sumN g L / L), σ) := by
  obtain ⟨h1, h2, h3, h4⟩ := h
  have hs := fun (n : Nat) (hn : n ≤ L) => sumN_le (L := L) (g := g) (fun i hi => (h1 i hi).2) hn
  have loop : ∀ (dd k N : Nat), k + dd = L → dd < N → f_X3_kept_4 p1 N (nI L) (nI (sumN g k)) (nI k) σ = some (nI (sumN g L / L), σ) := by
    intro dd
    induction dd with
    | zero =>
      intro k N hk hN
      obtain ⟨N, rfl⟩ : ∃ q, N = q + 1 := ⟨N - 1, by omega⟩
      obtain rfl : k = L := by omega
      have := hs k (Nat.le_refl _)
      show b_X3_kept_4 p1 (f_X3_kept_4 p1 N) (nI k) (nI (sumN g k)) (nI k) σ = _
      unfold b_X3_kept_4
      rw [nIt (n := k) (by omega), if_neg (show ¬ (k : Int) < k by omega), if_neg (show ¬ (k : Int) < 1 by omega), if_neg (show ¬ (k : Int) = 0 by omega), pk_div (by omega) (by omega) (by omega)]
    | succ dd ih =>
      intro k N hk hN
      obtain ⟨N, rfl⟩ : ∃ q, N = q + 1 := ⟨N - 1, by omega⟩
      have hg := h1 k (by omega)
      show b_X3_kept_4 p1 (f_X3_kept_4 p1 N) (nI L) (nI (sumN g k)) (nI k) σ = _
      unfold b_X3_kept_4
      rw [nIt (n := k) (by omega), nIt (n := L) (by omega), if_pos (show (k : Int) < L by omega), if_pos (show 0 ≤ (k : Int) ∧ (k : Int) < al p1 by omega), Int.toNat_natCast, hg.1]
      simp only [Bd]
      rw [nI_1, nI_add]
      exact ih (k + 1) N (by omega) (by omega)
  unfold f_X3_kept
  have := loop L 0 5000 (by omega) (by omega)
  rw [show nI (sumN g 0) = 0 from nI_0, nI_0] at this
  exact this
/-- CLOSES or JOINED: what 0 whether, else how many -/
def clzS (g : Nat → Nat) (L : Nat) (y : Int32) : Int32 := if y.toInt = 0 then (if clS g L = true then 1 else 0) else (if clS g L = true then nI (sumN g L / L) else -2)
theorem e_closingOf (h : HC p1 L g σ) : f_X11_closingOf p1 (nI L) y σ = some (clzS g L y, σ) := by
  unfold f_X11_closingOf clzS
  rw [e_close h]
  simp only [Cl]
  by_cases c0 : y.toInt = 0
  · rw [if_pos c0, if_pos c0]
    cases clS g L with
    | true => rfl
    | false => rfl
  · rw [if_neg c0, if_neg c0]
    cases clS g L with
    | true =>
      rw [if_pos rfl, if_pos rfl, if_neg i1_ne, e_kept h]
    | false => rfl
/-! the reference's -/
def wTp (a k : Nat) : Bool := a == 269 || (a == 236 && k == 57)
def gP (d : DAT) (p i : Nat) : Nat := (d.1.2.2.2 p i).toNat
def LnP (d : DAT) (p : Nat) : Nat := d.1.2.2.1 p
theorem gP_of (hD : DOK d) {i : Nat} (hp : p < d.1.2.1) (hi : i < LnP d p) : Int32.ofInt (d.1.2.2.2 p i) = nI (gP d p i) ∧ gP d p i ≤ 9 := by
  have := hD.2.1 p hp i hi
  unfold gP
  generalize d.1.2.2.2 p i = v at this
  have e : (Int32.ofInt v).toInt = v := by rw [Int32.toInt_ofInt]; exact i32_bm (by omega)
  refine ⟨?_, by omega⟩
  have := nI_tn (v := Int32.ofInt v) (by omega) (by omega)
  rw [e] at this
  exact this
theorem TM.lp (h : TM sd d σ) (hp : p < d.1.2.1) : 1 ≤ LnP d p ∧ LnP d p ≤ 8 := (h.2.2.2.1.2.2 p hp).2.1
theorem al_ht {n : Nat} (ht : txk t) (hn : n < 5) : (al (t + 5 + n) : Int) = 8 := by
  rcases ht with rfl | rfl <;> rcases (show n = 0 ∨ n = 1 ∨ n = 2 ∨ n = 3 ∨ n = 4 by omega) with rfl | rfl | rfl | rfl | rfl <;> rfl
theorem TC.hc (h : TC t d σ) (ht : txk t) (hD : DOK d) (hp : p < d.1.2.1) : HC (t + 5 + p) (LnP d p) (gP d p) σ := by
  have hP := h.2.1.2.1
  obtain ⟨q1, q2, q3⟩ := h.2.1.2.2 p hp
  refine ⟨fun i hi => ⟨?_, (gP_of hD hp hi).2⟩, q2.1, by unfold LnP; omega, by rw [al_ht ht (by omega)]; unfold LnP; omega⟩
  rw [ofI (q3 i hi)]; exact (gP_of hD hp hi).1
theorem w_takes {a0 : Nat} (hM : TM sd d σ) (hD : DOK d) (hp : p < d.1.2.1) (ha : a0 ≤ 8) : Okv (f_X12_takesPattern (nI p) (nI a0) σ) (fun s => s.1 236 57 = nI (a0 + LnP d p) ∧ (∀ i, i < LnP d p → s.1 269 (a0 + i) = nI (gP d p i)) ∧ (∀ j, j < a0 → s.1 269 j = σ.1 269 j) ∧ frm wTp wl0 σ s) := by
  have hl := hM.lp hp
  have hMf : ∀ {s : HS}, frm wTp wl0 σ s → TM sd d s := fun hf => hM.fr hf (by decide) (fun i k x y => by unfold wTp; simp; omega)
  have loop : ∀ (dd k N : Nat) (s : HS), k + dd = LnP d p → dd < N → (∀ i, i < k → s.1 269 (a0 + i) = nI (gP d p i)) → (∀ j, j < a0 → s.1 269 j = σ.1 269 j) → frm wTp wl0 σ s → Okv (f_X12_takesPattern_2 N (nI p) (nI a0) (nI k) s) (fun s => s.1 236 57 = nI (a0 + LnP d p) ∧ (∀ i, i < LnP d p → s.1 269 (a0 + i) = nI (gP d p i)) ∧ (∀ j, j < a0 → s.1 269 j = σ.1 269 j) ∧ frm wTp wl0 σ s) := by
    intro dd
    induction dd with
    | zero =>
      intro k N s hk hN h1 h2 hf
      obtain ⟨N, rfl⟩ : ∃ q, N = q + 1 := ⟨N - 1, by omega⟩
      show Okv (b_X12_takesPattern_2 (f_X12_takesPattern_2 N) (nI p) (nI a0) (nI k) s) _
      unfold b_X12_takesPattern_2
      refine Okv.cle (e_lengthOf (hMf hf) hp) ?_
      have el : d.1.2.2.1 p = LnP d p := rfl
      rw [el, nIt (n := k) (by omega), nIt (n := LnP d p) (by omega)]
      refine Okv.f (by omega) (Okv.cle (e_lengthOf (hMf hf) hp) (Okv.bd (Okv.ret ⟨?_, fun i hi => ?_, fun j hj => ?_, hf.I rfl⟩)))
      · rw [rI_s, nI_add]; rfl
      · rw [rI_i (by decide)]; exact h1 i (by omega)
      · rw [rI_i (by decide)]; exact h2 j hj
    | succ dd ih =>
      intro k N s hk hN h1 h2 hf
      obtain ⟨N, rfl⟩ : ∃ q, N = q + 1 := ⟨N - 1, by omega⟩
      show Okv (b_X12_takesPattern_2 (f_X12_takesPattern_2 N) (nI p) (nI a0) (nI k) s) _
      unfold b_X12_takesPattern_2
      refine Okv.cle (e_lengthOf (hMf hf) hp) ?_
      have el : d.1.2.2.1 p = LnP d p := rfl
      rw [el, nIt (n := k) (by omega), nIt (n := LnP d p) (by omega)]
      refine Okv.t (by omega) (Okv.cle (e_heightAt (hMf hf) hp (by omega)) ?_)
      rw [el, Nat.mod_eq_of_lt (show k < LnP d p by omega), (gP_of hD hp (show k < LnP d p by omega)).1, nI_add, nIt (n := a0 + k) (by omega), Int.toNat_natCast]
      refine Okv.t (by omega) (Okv.bd (Okv.bd ?_))
      rw [nI_1]
      refine ih (k + 1) N _ (by omega) (by omega) (fun i hi => ?_) (fun j hj => ?_) (hf.I rfl)
      · by_cases c : i = k
        · rw [c, rI_s]
        · rw [rI_k (by omega)]; exact h1 i (by omega)
      · rw [rI_k (by omega)]; exact h2 j hj
  unfold f_X12_takesPattern
  rw [nI0]
  exact loop (LnP d p) 0 5000 σ (by omega) (by omega) (fun i hi => absurd hi (by omega)) (fun _ _ => rfl) frm.rf
def kepS (g : Nat → Nat) (L : Nat) : Int32 := if clS g L = true then nI (sumN g L / L) else -2
theorem e_keeps (h : HM L g σ) : f_X12_keeps σ = some (kepS g L, σ) := by
  obtain ⟨h1, h2, h3, h4⟩ := h
  have hs := fun (n : Nat) (hn : n ≤ L) => sumN_le (L := L) (g := g) (fun i hi => (h1 i hi).2) hn
  have loop : ∀ (dd k N : Nat) (x : Int32), k + dd = L → dd < N → f_X12_keeps_6 N x (nI (sumN g k)) (nI k) σ = some (if clL g L dd k x = true then nI (sumN g L / L) else -2, σ) := by
    intro dd
    induction dd with
    | zero =>
      intro k N x hk hN
      obtain ⟨N, rfl⟩ : ∃ q, N = q + 1 := ⟨N - 1, by omega⟩
      have := hs k (by omega)
      show b_X12_keeps_6 (f_X12_keeps_6 N) x (nI (sumN g k)) (nI k) σ = _
      unfold b_X12_keeps_6
      rw [h4, nIt (n := k) (by omega), nIt (n := L) (by omega), if_neg (show ¬ (k : Int) < L by omega), if_neg (show ¬ (L : Int) = 0 by omega), pk_div (by omega) (by omega) (by omega)]
      obtain rfl : k = L := by omega
      rfl
    | succ dd ih =>
      intro k N x hk hN
      obtain ⟨N, rfl⟩ : ∃ q, N = q + 1 := ⟨N - 1, by omega⟩
      have hg := h1 k (by omega)
      have ha := at_lt (g := g) (i := k) (L := L) ⟨h2, h3⟩
      show b_X12_keeps_6 (f_X12_keeps_6 N) x (nI (sumN g k)) (nI k) σ = _
      unfold b_X12_keeps_6
      rw [h4, nIt (n := k) (by omega), nIt (n := L) (by omega), if_pos (show (k : Int) < L by omega), if_pos (show 0 ≤ (k : Int) ∧ (k : Int) < 16 by omega), if_neg (show ¬ (L : Int) = 0 by omega), Int.toNat_natCast, hg.1, at_rem (by omega) hg.2 ⟨h2, h3⟩]
      simp only [Bd]
      rw [nI_1, nI_add]
      show (if ((x >>> (nI (atS g L k) &&& 31)) &&& (1 : Int32)).toInt = 1 then some (-2, σ) else if 0 ≤ (k : Int) ∧ (k : Int) < 16 then f_X12_keeps_6 N (x ||| bitI (atS g L k)) (nI (sumN g (k + 1))) (nI (k + 1)) σ else none) = some (if (if tb x (atS g L k) = true then false else clL g L dd (k + 1) (x ||| bitI (atS g L k))) = true then _ else _, σ)
      by_cases c : tb x (atS g L k) = true
      · rw [if_pos ((tb_sh1 ha.1).mpr c), if_pos c]; rfl
      · rw [if_neg (fun e => c ((tb_sh1 ha.1).mp e)), if_pos (show 0 ≤ (k : Int) ∧ (k : Int) < 16 by omega), if_neg c]
        exact ih (k + 1) N _ (by omega) (by omega)
  unfold f_X12_keeps kepS clS
  have := loop L 0 5000 0 (by omega) (by omega)
  rw [show nI (sumN g 0) = 0 from nI_0, nI_0] at this
  exact this
theorem w_keepsOf (hM : TM sd d σ) (hD : DOK d) (hp : p < d.1.2.1) : Ok (f_X12_keepsOf (nI p) σ) (fun r s => r = kepS (gP d p) (LnP d p) ∧ HM (LnP d p) (gP d p) s ∧ frm wTp wl0 σ s) := by
  have hl := hM.lp hp
  unfold f_X12_keepsOf
  rw [nI0]
  refine Ok.cv (w_takes (a0 := 0) hM hD hp (by omega)) (fun s h => ?_)
  obtain ⟨a1, a2, a3, a4⟩ := h
  have hm : HM (LnP d p) (gP d p) s := ⟨fun i hi => ⟨by rw [← a2 i hi, Nat.zero_add], (gP_of hD hp hi).2⟩, hl.1, by omega, by rw [a1, Nat.zero_add]⟩
  exact Ok.cle (e_keeps hm) (Ok.ret ⟨rfl, hm, a4⟩)
theorem kep_rg (hg : ∀ i, i < L → g i ≤ 9) (hL : 1 ≤ L ∧ L ≤ 16) : kepS g L = -2 ∧ clS g L = false ∨ clS g L = true ∧ kepS g L = nI (sumN g L / L) ∧ sumN g L / L ≤ 9 := by
  unfold kepS
  cases c : clS g L with
  | false => exact Or.inl ⟨rfl, rfl⟩
  | true =>
    refine Or.inr ⟨rfl, rfl, ?_⟩
    have := sumN_le (g := g) hg (Nat.le_refl L)
    exact Nat.div_le_of_le_mul (by rw [Nat.mul_comm]; exact this)
theorem e_told (hy : y.toInt = 0 ∨ y.toInt = 1) (hg : ∀ i, i < L → g i ≤ 9) (hL : 1 ≤ L ∧ L ≤ 16) : f_X12_told (kepS g L) y σ = some (clzS g L y, σ) := by
  unfold f_X12_told clzS
  rcases hy with hy | hy
  · rw [if_neg (by omega), if_pos hy]
    rcases kep_rg hg hL with ⟨h1, h2⟩ | ⟨h1, h2, h3⟩
    · rw [h1, h2]; rfl
    · rw [h2, h1, nIt (by omega), if_neg (show ¬ ((sumN g L / L : Nat) : Int) < 0 from Int.not_lt.mpr (Int.natCast_nonneg _))]; rfl
  · rw [if_pos hy, if_neg (by omega)]; rfl
end HTS
