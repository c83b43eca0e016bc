/-! rows copied, gone on with -/
section COPY
variable {σ s : HS} {a p T tx sd : Nat} {ρ : Nat → Int32} {d : DAT} {b : Int} {x : Option Int32}
theorem cpy_at {f g : Nat → Int32} {i : Nat} (hi : i < 7) : va_cpy f g (0 : Int).toNat (0 : Int).toNat (7 : Int).toNat i = f i := by
  show (if 0 ≤ i ∧ i < 0 + 7 then f (0 + (i - 0)) else _) = _
  rw [if_pos (by omega), show 0 + (i - 0) = i by omega]
theorem w_copy (hA : AR p T ρ σ) (hT : T ≤ 7) (hn : p + 3 < a ∨ a + 3 < p) : Okv (f_X0_copy a p σ) (fun s => AR a T ρ s ∧ frm (wAi a) wl0 σ s) := by
  obtain ⟨h1, h2, h3, h4, h5, h6⟩ := hA
  unfold f_X0_copy
  have c7 : 0 ≤ (0 : Int) ∧ 0 ≤ (0 : Int) ∧ 0 ≤ (7 : Int) ∧ (0 : Int) + 7 ≤ 7 ∧ (0 : Int) + 7 ≤ 7 := by decide
  refine Okv.bd (Okv.t c7 (Okv.bd (Okv.t c7 (Okv.bd (Okv.t c7 (Okv.bd ?_))))))
  generalize hs1 : hI σ a 0 (σ.1 p 0) = s1
  have f1 : frm (wAi a) wl0 σ s1 := by rw [← hs1]; exact frm.rf.I (by unfold wAi; simp)
  have g1 : s1.1 a 0 = nI T := by rw [← hs1, rI_s]; exact h1
  have w0 : ∀ i k, p ≤ i → i ≤ p + 3 → wAi a i k = false := fun i k x y => wAi_no (by omega)
  generalize hs2 : hA s1 (a + 1) (va_cpy (s1.1 (p + 1)) (s1.1 (a + 1)) (0 : Int).toNat (0 : Int).toNat (7 : Int).toNat) = s2
  have f2 : frm (wAi a) wl0 σ s2 := by rw [← hs2]; exact f1.A (fun _ => by unfold wAi; simp)
  generalize hs3 : hA s2 (a + 2) (va_cpy (s2.1 (p + 2)) (s2.1 (a + 2)) (0 : Int).toNat (0 : Int).toNat (7 : Int).toNat) = s3
  have f3 : frm (wAi a) wl0 σ s3 := by rw [← hs3]; exact f2.A (fun _ => by unfold wAi; simp)
  generalize hs4 : hA s3 (a + 3) (va_cpy (s3.1 (p + 3)) (s3.1 (a + 3)) (0 : Int).toNat (0 : Int).toNat (7 : Int).toNat) = s4
  have f4 : frm (wAi a) wl0 σ s4 := by rw [← hs4]; exact f3.A (fun _ => by unfold wAi; simp)
  have z0 : s4.1 a 0 = nI T := by rw [← hs4, rA_i (by omega), ← hs3, rA_i (by omega), ← hs2, rA_i (by omega)]; exact g1
  have z1 : ∀ e, e < T → s4.1 (a + 1) e = ρ e := fun e he => by
    rw [← hs4, rA_i (by omega), ← hs3, rA_i (by omega), ← hs2, rA_s, cpy_at (by omega), f1.1 _ _ (w0 _ _ (by omega) (by omega))]; exact (h2 e he).1
  have z2 : ∀ e, e < T → s4.1 (a + 2) e = ρ (7 + e) := fun e he => by
    rw [← hs4, rA_i (by omega), ← hs3, rA_s, cpy_at (by omega), f2.1 _ _ (w0 _ _ (by omega) (by omega))]; exact (h2 e he).2.1
  have z3 : ∀ e, e < T → s4.1 (a + 3) e = ρ (14 + e) := fun e he => by
    rw [← hs4, rA_s, cpy_at (by omega), f3.1 _ _ (w0 _ _ (by omega) (by omega))]; exact (h2 e he).2.2
  have pf : ∀ {y : HS} (k : Nat), frm (wAi a) wl0 σ y → y.1 p k = σ.1 p k := fun k hf => hf.1 _ _ (w0 _ _ (by omega) (by omega))
  have step : ∀ (k : Nat) (y : HS), frm (wAi a) wl0 σ y → frm (wAi a) wl0 σ (hI y a k (y.1 p k)) := fun k y hf => hf.I (by unfold wAi; simp)
  have val : ∀ (k : Nat) (y : HS), frm (wAi a) wl0 σ y → (hI y a k (y.1 p k)) = hI y a k (σ.1 p k) := fun k y hf => by rw [pf k hf]
  refine Okv.bd (Okv.bd (Okv.bd (Okv.bd ?_)))
  refine Okv.bd (Okv.bd (Okv.bd (Okv.bd (Okv.ret ?_))))
  have q4 := step 4 s4 f4
  have q5 := step 5 _ q4
  have q6 := step 6 _ q5
  have q7 := step 7 _ q6
  have q8 := step 8 _ q7
  have q9 := step 9 _ q8
  have q10 := step 10 _ q9
  have q11 := step 11 _ q10
  refine ⟨?_, q11⟩
  rw [val 11 _ q10, val 10 _ q9, val 9 _ q8, val 8 _ q7, val 7 _ q6, val 6 _ q5, val 5 _ q4, val 4 _ f4]
  refine ⟨?_, fun e he => ⟨?_, ?_, ?_⟩, fun k k4 k8 => ?_, ?_, ?_, ?_⟩
  · rw [rI_k (by decide), rI_k (by decide), rI_k (by decide), rI_k (by decide), rI_k (by decide), rI_k (by decide), rI_k (by decide), rI_k (by decide)]; exact z0
  · rw [rI_i (by omega), rI_i (by omega), rI_i (by omega), rI_i (by omega), rI_i (by omega), rI_i (by omega), rI_i (by omega), rI_i (by omega)]; exact z1 e he
  · rw [rI_i (by omega), rI_i (by omega), rI_i (by omega), rI_i (by omega), rI_i (by omega), rI_i (by omega), rI_i (by omega), rI_i (by omega)]; exact z2 e he
  · rw [rI_i (by omega), rI_i (by omega), rI_i (by omega), rI_i (by omega), rI_i (by omega), rI_i (by omega), rI_i (by omega), rI_i (by omega)]; exact z3 e he
  · rw [← h3 k k4 k8]
    rcases (show k = 4 ∨ k = 5 ∨ k = 6 ∨ k = 7 ∨ k = 8 by omega) with rfl | rfl | rfl | rfl | rfl
    · rw [rI_k (by decide), rI_k (by decide), rI_k (by decide), rI_k (by decide), rI_k (by decide), rI_k (by decide), rI_k (by decide), rI_s]
    · rw [rI_k (by decide), rI_k (by decide), rI_k (by decide), rI_k (by decide), rI_k (by decide), rI_k (by decide), rI_s]
    · rw [rI_k (by decide), rI_k (by decide), rI_k (by decide), rI_k (by decide), rI_k (by decide), rI_s]
    · rw [rI_k (by decide), rI_k (by decide), rI_k (by decide), rI_k (by decide), rI_s]
    · rw [rI_k (by decide), rI_k (by decide), rI_k (by decide), rI_s]
  · rw [rI_k (by decide), rI_k (by decide), rI_s]; exact h4
  · rw [rI_k (by decide), rI_s]; exact h5
  · rw [rI_s]; exact h6
theorem w_goOn {y : Int32} (hC : TC tx d σ) (hD : DOK d) (htx : txk tx) (ha : aAi a) (hx : SDr y x) {n : Nat} (hn : n ≤ 1000) (hA : AR a d.1.1.1 ρ σ) (hW : RW d b ρ) (hb : b + n ≤ 100000) : Okv (f_X4_goOn tx a (nI n) y σ) (fun s => AR a d.1.1.1 (itS d x n ρ) s ∧ frm (wBt a) wl0 σ s) := by
  have a56 := ha.1
  have lo := htx.lo
  have loop : ∀ (dd k N : Nat) (s : HS), k + dd = n → dd < N → AR a d.1.1.1 (itS d x k ρ) s → frm (wBt a) wl0 σ s → Okv (f_X4_goOn_3 tx a N (nI n) y (nI k) s) (fun s => AR a d.1.1.1 (itS d x n ρ) s ∧ frm (wBt a) wl0 σ s) := by
    intro dd
    induction dd with
    | zero =>
      intro k N s hk hN hA hf
      obtain ⟨N, rfl⟩ : ∃ q, N = q + 1 := ⟨N - 1, by omega⟩
      obtain rfl : k = n := by omega
      show Okv (b_X4_goOn_3 tx a (f_X4_goOn_3 tx a N) (nI k) y (nI k) s) _
      unfold b_X4_goOn_3
      exact Okv.f (by omega) (Okv.ret ⟨hA, hf⟩)
    | succ dd ih =>
      intro k N s hk hN hA hf
      obtain ⟨N, rfl⟩ : ∃ q, N = q + 1 := ⟨N - 1, by omega⟩
      show Okv (b_X4_goOn_3 tx a (f_X4_goOn_3 tx a N) (nI n) y (nI k) s) _
      unfold b_X4_goOn_3
      rw [nIt (n := k) (by omega), nIt (n := n) (by omega)]
      have C' : TC tx d s := hC.fr hf (fun i k x y => wBt_no (Or.inl (by rcases htx with rfl | rfl <;> omega)) (Or.inr (by omega)))
      have hWk : RW d (b + k) (itS d x k ρ) := RW.it hD hC.ln (by omega) hW
      refine Okv.t (by omega) (Okv.cv (w_oneBeat hA C' hD htx ha hWk (by omega) hx) (fun s1 h1 => Okv.bd ?_))
      rw [nI_1]
      refine ih (k + 1) N s1 (by omega) (by omega) ?_ (hf.tr h1.2)
      rw [it_succ]; exact h1.1
  unfold f_X4_goOn
  rw [nI0]
  exact loop n 0 5000 σ (by omega) (by omega) hA frm.rf
/-- a beat without drops on trial -/
theorem w_goOnSafely (hC : TC tx d σ) (hD : DOK d) (htx : txk tx) (ha : aAi a) (hA : AR a d.1.1.1 ρ σ) (hW : RW d b ρ) (hb : b ≤ 100000) : Okv (f_X4_goOnSafely tx a σ) (fun s => AR a d.1.1.1 (beatS d none ρ) s ∧ frm (wBt a) wl0 σ s) := by
  unfold f_X4_goOnSafely
  exact Okv.cv (w_oneBeat hA hC hD htx ha hW hb (Or.inl ⟨rfl, by decide⟩)) (fun s h => Okv.ret h)
/-! the reference's row -/
def NWm (ρ : Nat → Int32) (s : HS) : Prop := ∀ i, i < 29 → s.1 266 i = ρ i
def wCp (a k : Nat) : Bool := a == 267 || (a == 236 && (k == 49 || k == 50))
theorem w_copies (hM : TM sd d σ) (hN : NWm ρ σ) : Okv (f_X12_copies σ) (fun s => RRm ρ s ∧ SDm (some (Int32.ofInt d.2.1.2)) s ∧ s.1 236 49 = Int32.ofInt d.2.1.2 ∧ frm wCp wl0 σ s) := by
  have loop : ∀ (dd k N : Nat) (s : HS), k + dd = 29 → dd < N → (∀ i, i < k → s.1 267 i = ρ i) → frm (fun a _ => a == 267) wl0 σ s → Okv (f_X12_copies_2 N (nI k) s) (fun s => RRm ρ s ∧ SDm (some (Int32.ofInt d.2.1.2)) s ∧ s.1 236 49 = Int32.ofInt d.2.1.2 ∧ frm wCp wl0 σ s) := by
    intro dd
    induction dd with
    | zero =>
      intro k N s hk hN h hf
      obtain ⟨N, rfl⟩ : ∃ q, N = q + 1 := ⟨N - 1, by omega⟩
      have L : TM sd d s := hM.fr hf (by decide) (fun i k h1 h2 => by simp; omega)
      show Okv (b_X12_copies_2 (f_X12_copies_2 N) (nI k) s) _
      unfold b_X12_copies_2
      rw [nIt (n := k) (by omega)]
      refine Okv.f (by omega) (Okv.t L.lv.sd0 (Okv.bd (Okv.bd (Okv.ret ?_))))
      rw [L.lv.at, ofI L.2.2.2.2.1.2]
      refine ⟨fun i hi => ?_, Or.inr ⟨?_, rI_s⟩, ?_, ?_⟩
      · rw [rI_i (by decide), rI_i (by decide)]; exact h i (by omega)
      · rw [rI_k (by decide), rI_s]
      · rw [rI_k (by decide), rI_s]
      · refine ((hf.mono (fun a k e => ?_) (fun _ e => e)).I rfl).I rfl
        unfold wCp at e
        simp only [Bool.or_eq_false_iff] at e
        exact e.1
    | succ dd ih =>
      intro k N s hk hN' h hf
      obtain ⟨N, rfl⟩ : ∃ q, N = q + 1 := ⟨N - 1, by omega⟩
      show Okv (b_X12_copies_2 (f_X12_copies_2 N) (nI k) s) _
      unfold b_X12_copies_2
      rw [nIt (n := k) (by omega), Int.toNat_natCast]
      refine Okv.t (by omega) (Okv.t (by omega) (Okv.t (by omega) (Okv.bd (Okv.bd ?_))))
      rw [nI_1, hf.1 266 k rfl, hN k (by omega)]
      refine ih (k + 1) N _ (by omega) (by omega) (fun i hi => ?_) (hf.I rfl)
      by_cases c : i = k
      · rw [c, rI_s]
      · rw [rI_k c]; exact h i (by omega)
  unfold f_X12_copies
  rw [nI0]
  exact loop 29 0 5000 σ (by omega) (by omega) (fun i hi => absurd hi (by omega)) frm.rf
theorem w_copiesStill (hM : TM sd d σ) (hN : NWm ρ σ) : Okv (f_X12_copiesStill σ) (fun s => RRm ρ s ∧ SDm none s ∧ frm wCp wl0 σ s) := by
  unfold f_X12_copiesStill
  refine Okv.cv (w_copies hM hN) (fun s1 h1 => Okv.bd (Okv.ret ⟨?_, Or.inl ⟨rfl, rI_s⟩, h1.2.2.2.I rfl⟩))
  exact fun i hi => by rw [rI_i (by decide)]; exact h1.1 i hi
def wGoM (a k : Nat) : Bool := wCp a k || wBm a k
theorem wGoM_Bm {a k : Nat} (h : wGoM a k = false) : wBm a k = false := by unfold wGoM at h; simp only [Bool.or_eq_false_iff] at h; exact h.2
theorem wGoM_Cp {a k : Nat} (h : wGoM a k = false) : wCp a k = false := by unfold wGoM at h; simp only [Bool.or_eq_false_iff] at h; exact h.1
theorem TM.bm {w : Nat → Nat → Bool} (h : TM sd d σ) (hf : frm wBm wl0 σ s) : TM sd d s := h.fr hf (by decide) (fun i k h1 h2 => by unfold wBm; simp; omega)
theorem SDm.bm (h : SDm x σ) (hf : frm wBm wl0 σ s) : SDm x s := by
  unfold SDm
  rw [hf.1 236 49 rfl, hf.1 236 50 rfl]; exact h
/-- n beats of the reference -/
theorem w_goes (hM : TM sd d σ) (hD : DOK d) (hL : DLn d) {n : Nat} (hn : n ≤ 1000) (hR : RRm ρ σ) (hW : RW d b ρ) (hb : b + n ≤ 100000) (hx : SDm x σ) : Okv (f_X12_goes (nI n) σ) (fun s => RRm (itS d x n ρ) s ∧ frm wBm wl0 σ s) := by
  have loop : ∀ (dd k N : Nat) (s : HS), k + dd = n → dd < N → RRm (itS d x k ρ) s → frm wBm wl0 σ s → Okv (f_X12_goes_2 N (nI n) (nI k) s) (fun s => RRm (itS d x n ρ) s ∧ frm wBm wl0 σ s) := by
    intro dd
    induction dd with
    | zero =>
      intro k N s hk hN hA hf
      obtain ⟨N, rfl⟩ : ∃ q, N = q + 1 := ⟨N - 1, by omega⟩
      obtain rfl : k = n := by omega
      show Okv (b_X12_goes_2 (f_X12_goes_2 N) (nI k) (nI k) s) _
      unfold b_X12_goes_2
      exact Okv.f (by omega) (Okv.ret ⟨hA, hf⟩)
    | succ dd ih =>
      intro k N s hk hN hA hf
      obtain ⟨N, rfl⟩ : ∃ q, N = q + 1 := ⟨N - 1, by omega⟩
      show Okv (b_X12_goes_2 (f_X12_goes_2 N) (nI n) (nI k) s) _
      unfold b_X12_goes_2
      rw [nIt (n := k) (by omega), nIt (n := n) (by omega)]
      have hWk : RW d (b + k) (itS d x k ρ) := RW.it hD hL (by omega) hW
      refine Okv.t (by omega) (Okv.cv (w_beatGoes (hM.bm (w := wBm) hf) hD hA hWk (by omega) (hx.bm hf)) (fun s1 h1 => Okv.bd ?_))
      rw [nI_1]
      refine ih (k + 1) N s1 (by omega) (by omega) ?_ (hf.tr h1.2.2.2.2)
      rw [it_succ]; exact h1.1
  unfold f_X12_goes
  rw [nI0]
  exact loop n 0 5000 σ (by omega) (by omega) hR frm.rf
theorem w_keepsRow (hR : RRm ρ σ) : Okv (f_X12_keepsRow σ) (fun s => NWm ρ s ∧ frm (fun a _ => a == 266) wl0 σ s) := by
  have loop : ∀ (dd k N : Nat) (s : HS), k + dd = 29 → dd < N → (∀ i, i < k → s.1 266 i = ρ i) → frm (fun a _ => a == 266) wl0 σ s → Okv (f_X12_keepsRow_2 N (nI k) s) (fun s => NWm ρ s ∧ frm (fun a _ => a == 266) wl0 σ s) := by
    intro dd
    induction dd with
    | zero =>
      intro k N s hk hN h hf
      obtain ⟨N, rfl⟩ : ∃ q, N = q + 1 := ⟨N - 1, by omega⟩
      show Okv (b_X12_keepsRow_2 (f_X12_keepsRow_2 N) (nI k) s) _
      unfold b_X12_keepsRow_2
      rw [nIt (n := k) (by omega)]
      exact Okv.f (by omega) (Okv.ret ⟨fun i hi => h i (by omega), hf⟩)
    | succ dd ih =>
      intro k N s hk hN' h hf
      obtain ⟨N, rfl⟩ : ∃ q, N = q + 1 := ⟨N - 1, by omega⟩
      show Okv (b_X12_keepsRow_2 (f_X12_keepsRow_2 N) (nI k) s) _
      unfold b_X12_keepsRow_2
      rw [nIt (n := k) (by omega), Int.toNat_natCast]
      refine Okv.t (by omega) (Okv.t (by omega) (Okv.t (by omega) (Okv.bd (Okv.bd ?_))))
      rw [nI_1, hf.1 267 k rfl, hR k (by omega)]
      refine ih (k + 1) N _ (by omega) (by omega) (fun i hi => ?_) (hf.I rfl)
      by_cases c : i = k
      · rw [c, rI_s]
      · rw [rI_k c]; exact h i (by omega)
  unfold f_X12_keepsRow
  rw [nI0]
  exact loop 29 0 5000 σ (by omega) (by omega) (fun i hi => absurd hi (by omega)) frm.rf
end COPY
