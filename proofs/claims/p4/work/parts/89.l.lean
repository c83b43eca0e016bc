/-! ways: that both answer -/
section WAYS9
variable {σ s s2 : HS} {n t u sd k nx m T p : Nat} {ρ : Nat → Int32} {d : DAT} {b : Int} {H G : Nat → Nat → Int32} {tb9 : Nat → Nat} {x y z x1 x2 x3 x4 : Int32}
def w24 (a k : Nat) : Bool := (a == 22 && k == 2) || a == 23 || a == 24
theorem w24_Q (i k : Nat) (h : w24 i k = true) : wQ i k = true := by
  unfold w24 at h
  simp only [Bool.or_eq_true, Bool.and_eq_true, beq_iff_eq] at h
  rcases h with (⟨h, h2⟩ | h) | h <;> subst h <;> rfl
theorem w_finish {P : Nat} (h3 : s.1 22 3 = nI P) (hP : 1 ≤ P ∧ P ≤ 5) : Okv (f_X8_finish s) (fun s2 => frm w24 wl0 s s2) := by
  have st : ∀ s1, frm w24 wl0 s s1 → Okv (f_X8_finish_24 s1) (fun s2 => frm w24 wl0 s s2) := fun s1 h1 => by
    unfold f_X8_finish_24
    exact Okv.bd (Okv.ret (h1.I rfl))
  unfold f_X8_finish
  rw [h3, nIt (n := P) (by omega)]
  exact Okv.i (fun _ => Okv.t (by omega) (Okv.bd (st _ (frm.rf.A (fun _ => rfl))))) (fun _ => st s frm.rf)
theorem w_fill8 {P M : Nat} (hP : 1 ≤ P ∧ P ≤ 5) (hM : M ≤ 7) : ∀ (dd a N : Nat) (x2 x3 : Int32) (s : HS), a + dd = P → dd < N → s.1 22 3 = nI P → s.1 22 4 = nI M → Okv (f_X8_fill N (nI a) x2 x3 s) (fun s2 => frm w24 wl0 s s2) := by
  intro dd
  induction dd with
  | zero =>
    intro a N x2 x3 s ha hN h3 h4
    obtain ⟨N, rfl⟩ : ∃ q, N = q + 1 := ⟨N - 1, by omega⟩
    show Okv (g_X8_fill (f_X8_fill N) (nI a) x2 x3 s) _
    unfold g_X8_fill
    rw [h3, nIt (n := a) (by omega), nIt (n := P) (by omega)]
    exact Okv.f (by omega) (Okv.i (fun _ => Okv.cv (w_finish h3 hP) (fun s1 h1 => Okv.ret h1)) (fun _ => Okv.ret frm.rf))
  | succ dd ih =>
    intro a N x2 x3 s ha hN h3 h4
    obtain ⟨N, rfl⟩ : ∃ q, N = q + 1 := ⟨N - 1, by omega⟩
    have loop : ∀ (dy y K : Nat) (s1 : HS), y + dy = M + 1 → dy < K → frm w24 wl0 s s1 → Okv (f_X8_fill_20 (f_X8_fill N) K (nI a) x2 x3 (nI y) s1) (fun s2 => frm w24 wl0 s s2) := by
      intro dy
      induction dy with
      | zero =>
        intro y K s1 hy hK hf
        obtain ⟨K, rfl⟩ : ∃ q, K = q + 1 := ⟨K - 1, by omega⟩
        show Okv (b_X8_fill_20 (f_X8_fill N) (f_X8_fill_20 (f_X8_fill N) K) (nI a) x2 x3 (nI y) s1) _
        unfold b_X8_fill_20
        rw [hf.1 22 4 rfl, h4, nIt (n := y) (by omega), nIt (n := M) (by omega)]
        exact Okv.t (by omega) (Okv.ret hf)
      | succ dy ihy =>
        intro y K s1 hy hK hf
        obtain ⟨K, rfl⟩ : ∃ q, K = q + 1 := ⟨K - 1, by omega⟩
        have nxt : ∀ s1, frm w24 wl0 s s1 → Okv (f_X8_fill_78 (f_X8_fill N) (f_X8_fill_20 (f_X8_fill N) K) (nI a) x2 x3 (nI y) s1) (fun s2 => frm w24 wl0 s s2) := fun s1 hf => by
          unfold f_X8_fill_78
          refine Okv.bd ?_
          rw [nI_1]
          exact ihy (y + 1) K s1 (by omega) (by omega) hf
        show Okv (b_X8_fill_20 (f_X8_fill N) (f_X8_fill_20 (f_X8_fill N) K) (nI a) x2 x3 (nI y) s1) _
        unfold b_X8_fill_20
        rw [hf.1 22 4 rfl, hf.1 22 3 rfl, h3, h4, nIt (n := y) (by omega), nIt (n := M) (by omega), nIt (n := P) (by omega), nIt (n := a) (by omega), Int.toNat_natCast]
        refine Okv.f (by omega) (Okv.i (fun _ => Okv.ret hf) (fun _ => Okv.f (by omega) (Okv.bd (Okv.i (fun _ => Okv.t (by omega) (Okv.bd ?_)) (fun _ => nxt s1 hf)))))
        have F2 : frm w24 wl0 s (hI s1 23 a (nI y)) := hf.I rfl
        have := ih (a + 1) N (x2 ||| ((1 : Int32) <<< (((nI a + nI y) - (nI a + nI y) / nI P * nI P) &&& 31))) (x3 - nI y) (hI s1 23 a (nI y)) (by omega) (by omega) (by rw [F2.1 22 3 rfl]; exact h3) (by rw [F2.1 22 4 rfl]; exact h4)
        rw [nI_1 a]
        exact Okv.cv this (fun s3 h3' => nxt s3 (F2.tr h3'))
    show Okv (g_X8_fill (f_X8_fill N) (nI a) x2 x3 s) _
    unfold g_X8_fill
    rw [h3, nIt (n := a) (by omega), nIt (n := P) (by omega)]
    exact Okv.t (by omega) (loop (M + 1) 0 5000 s (by omega) (by omega) frm.rf)
theorem cap5 : ∀ P, P < 6 → 1 ≤ P → (if (1 : Int32) < (if (5 : Int32) < nI P then 5 else nI P) then (if (5 : Int32) < nI P then 5 else nI P) else 1) = nI P := by decide +kernel
theorem q_ways_c9 : Ok (f_X11_ways x1 x2 x3 x4 σ) (fun _ s => frm wQ wl0 σ s) := by
  unfold f_X11_ways
  refine Ok.i (fun _ => Ok.ret frm.rf) (fun a1 => Ok.i (fun _ => Ok.ret frm.rf) (fun a2 => Ok.i (fun _ => Ok.ret frm.rf) (fun a3 => Ok.i (fun _ => Ok.ret frm.rf) (fun a4 => Ok.i (fun _ => Ok.ret frm.rf) (fun a5 => Ok.i (fun _ => Ok.ret frm.rf) (fun a6 => Ok.i (fun _ => Ok.ret frm.rf) (fun a7 => Ok.i (fun a8 => ?_) (fun _ => Ok.ret frm.rf))))))))
  obtain ⟨P, hP, rfl⟩ : ∃ P : Nat, (1 ≤ P ∧ P ≤ 5) ∧ x1 = nI P := ⟨x1.toInt.toNat, by omega, nI_tn (by omega) (by omega)⟩
  obtain ⟨M, hM, rfl⟩ : ∃ P : Nat, (1 ≤ P ∧ P ≤ 7) ∧ x2 = nI P := ⟨x2.toInt.toNat, by omega, nI_tn (by omega) (by omega)⟩
  rw [nIt (n := P) (by omega)] at a8
  have fnd : Okv (f_X8_find (nI P) (nI M) x3 σ) (fun s => frm wQ wl0 σ s) := by
    unfold f_X8_find
    refine Okv.bd (Okv.bd (Okv.bd ?_))
    rw [cap5 P (by omega) (by omega), nI0]
    have F : frm wQ wl0 σ (hI (hI (hI σ 22 3 (nI P)) 22 4 (nI M)) 22 2 (nI 0)) := ((frm.rf.I rfl).I rfl).I rfl
    refine Okv.cv (w_fill8 hP hM.2 P 0 7 _ _ _ (by omega) (by omega) ?_ ?_) (fun s1 h1 => Okv.ret (F.tr (h1.sub w24_Q)))
    · rw [rI_k (by decide), rI_k (by decide), rI_s]
    · rw [rI_k (by decide), rI_s]
  refine Ok.cv fnd (fun s1 h1 => Ok.i (fun _ => Ok.ret h1) (fun a9 => Ok.i (fun _ => Ok.ret h1) (fun _ => Ok.t (by omega) (Ok.ret h1))))
theorem nI_mulB {a c : Nat} (ha : a ≤ 4096) (hc : c ≤ 8) : nI a * nI c = nI (a * c) := Int32.toInt_inj.mp (by
  have hb : a * c ≤ 4096 * 8 := Nat.mul_le_mul ha hc
  rw [Int32.toInt_mul, nIt (n := a) (by omega), nIt (n := c) (by omega), nIt (n := a * c) (by omega), ← Int.natCast_mul, Int.bmod_def]
  omega)
theorem q_ways_m9 : Ok (f_X12_ways x1 x2 x3 x4 σ) (fun _ s => frm wQ wl0 σ s) := by
  unfold f_X12_ways
  refine Ok.cle e_in ?_
  by_cases a1 : (1 : Int32).toInt ≤ x1.toInt ∧ x1.toInt ≤ (5 : Int32).toInt
  · refine Ok.f (fun e => if10.mp e a1) (Ok.cle e_in ?_)
    by_cases a2 : (1 : Int32).toInt ≤ x2.toInt ∧ x2.toInt ≤ (7 : Int32).toInt
    · refine Ok.f (fun e => if10.mp e a2) (Ok.cle e_in ?_)
      by_cases a3 : (0 : Int32).toInt ≤ x3.toInt ∧ x3.toInt ≤ (7 : Int32).toInt
      · refine Ok.f (fun e => if10.mp e a3) (Ok.cle e_in ?_)
        by_cases a4 : (-1 : Int32).toInt ≤ x4.toInt ∧ x4.toInt ≤ (x1 - (1 : Int32)).toInt
        · refine Ok.f (fun e => if10.mp e a4) ?_
          have c1 : (1 : Int32).toInt = 1 := rfl
          have c5 : (5 : Int32).toInt = 5 := rfl
          have c7 : (7 : Int32).toInt = 7 := rfl
          have cm : (-1 : Int32).toInt = -1 := rfl
          rw [c1, c5] at a1
          rw [c1, c7] at a2
          rw [cm] at a4
          obtain ⟨P, hP, rfl⟩ : ∃ P : Nat, (1 ≤ P ∧ P ≤ 5) ∧ x1 = nI P := ⟨x1.toInt.toNat, by omega, nI_tn (by omega) (by omega)⟩
          obtain ⟨M, hM, rfl⟩ : ∃ P : Nat, (1 ≤ P ∧ P ≤ 7) ∧ x2 = nI P := ⟨x2.toInt.toNat, by omega, nI_tn (by omega) (by omega)⟩
          have eP : nI P - (1 : Int32) = nI (P - 1) := by
            obtain ⟨q, rfl⟩ : ∃ q, P = q + 1 := ⟨P - 1, by omega⟩
            rw [nI_mm (by omega)]; rfl
          rw [eP, nIt (n := P - 1) (by omega)] at a4
          have eM : nI M + (1 : Int32) = nI (M + 1) := nI_1 M
          have go80 : ∀ (dc c N : Nat) (tt : Nat) (y6 : Int32) (s : HS), tt ≤ 32768 → c + dc = tt → dc < N → s.1 236 57 = nI P → frm wQ wl0 σ s → Ok (f_X12_ways_80 N (nI P) (nI M) x3 x4 (nI tt) y6 (nI c) s) (fun _ s => frm wQ wl0 σ s) := by
            intro dc
            induction dc with
            | zero =>
              intro c N tt y6 s ht hc hN h57 hf
              obtain ⟨N, rfl⟩ : ∃ q, N = q + 1 := ⟨N - 1, by omega⟩
              show Ok (b_X12_ways_80 (f_X12_ways_80 N) (nI P) (nI M) x3 x4 (nI tt) y6 (nI c) s) _
              unfold b_X12_ways_80
              rw [nIt (n := c) (by omega), nIt (n := tt) (by omega)]
              exact Ok.f (by omega) (Ok.i (fun _ => Ok.ret hf) (fun _ => Ok.ret hf))
            | succ dc ih =>
              intro c N tt y6 s ht hc hN h57 hf
              obtain ⟨N, rfl⟩ : ∃ q, N = q + 1 := ⟨N - 1, by omega⟩
              have nxt : ∀ y6 s, s.1 236 57 = nI P → frm wQ wl0 σ s → Ok (f_X12_ways_155 (f_X12_ways_80 N) (nI P) (nI M) x3 x4 (nI tt) y6 (nI c) s) (fun _ s => frm wQ wl0 σ s) := fun y6 s h57 hf => by
                unfold f_X12_ways_155
                refine Ok.bd ?_
                rw [nI_1]
                exact ih (c + 1) N tt y6 s ht (by omega) (by omega) h57 hf
              have go96 : ∀ (dq K v : Nat) (y9 : Int32) (s : HS), y9.toInt = (dq : Int) - 1 → dq ≤ P → dq < K → v ≤ 32768 → s.1 236 57 = nI P → (∀ i, dq ≤ i → i < P → ∃ q, q ≤ 9 ∧ s.1 269 i = nI q) → frm wQ wl0 σ s → Ok (f_X12_ways_96 (f_X12_ways_80 N) K (nI P) (nI M) x3 x4 (nI tt) y6 (nI c) (nI v) y9 s) (fun _ s => frm wQ wl0 σ s) := by
                intro dq
                induction dq with
                | zero =>
                  intro K v y9 s hy hd hK hv h57 hz hf
                  obtain ⟨K, rfl⟩ : ∃ q, K = q + 1 := ⟨K - 1, by omega⟩
                  have hm : HM P (fun i => (s.1 269 i).toInt.toNat) s := ⟨fun i hi => by
                    obtain ⟨q, q1, q2⟩ := hz i (by omega) hi
                    show s.1 269 i = nI ((s.1 269 i).toInt.toNat) ∧ (s.1 269 i).toInt.toNat ≤ 9
                    rw [q2, nIt (by omega), Int.toNat_natCast]
                    exact ⟨rfl, q1⟩, hP.1, by omega, h57⟩
                  show Ok (b_X12_ways_96 (f_X12_ways_80 N) (f_X12_ways_96 (f_X12_ways_80 N) K) (nI P) (nI M) x3 x4 (nI tt) y6 (nI c) (nI v) y9 s) _
                  unfold b_X12_ways_96
                  refine Ok.t (by omega) (Ok.cle (e_keeps hm) (Ok.i (fun _ => Ok.i (fun _ => Ok.bd (nxt _ s h57 hf)) (fun c4 => Ok.t (by omega) (Ok.ret hf))) (fun _ => nxt y6 s h57 hf)))
                | succ dq ihq =>
                  intro K v y9 s hy hd hK hv h57 hz hf
                  obtain ⟨K, rfl⟩ : ∃ q, K = q + 1 := ⟨K - 1, by omega⟩
                  obtain rfl : y9 = nI dq := Int32.toInt_inj.mp (by rw [nIt (by omega)]; omega)
                  show Ok (b_X12_ways_96 (f_X12_ways_80 N) (f_X12_ways_96 (f_X12_ways_80 N) K) (nI P) (nI M) x3 x4 (nI tt) y6 (nI c) (nI v) (nI dq) s) _
                  unfold b_X12_ways_96
                  have hlt := Nat.mod_lt v (show 0 < M + 1 by omega)
                  have hdv : v / (M + 1) ≤ v := Nat.div_le_self _ _
                  rw [eM, nIt (n := dq) (by omega), nIt (n := M + 1) (by omega), Int.toNat_natCast, pk_rem (a := v) (d := M + 1) (by omega) (by omega) (by omega), pk_div (a := v) (d := M + 1) (by omega) (by omega) (by omega)]
                  refine Ok.f (by omega) (Ok.f (by omega) (Ok.t (by omega) (Ok.bd (Ok.f (by omega) (Ok.bd (Ok.bd ?_))))))
                  refine ihq K (v / (M + 1)) _ _ ?_ (by omega) (by omega) (by omega) (by rw [rI_i (by decide)]; exact h57) (fun i h1 h2 => ?_) (hf.I rfl)
                  · cases dq with
                    | zero => rfl
                    | succ q => rw [show nI (q + 1) + (-1 : Int32) = nI q by rw [← nI_1 q, Int32.add_assoc]; exact Int32.add_zero _, nIt (by omega)]; omega
                  · by_cases ci : i = dq
                    · rw [ci, rI_s]; exact ⟨v % (M + 1), by omega, rfl⟩
                    · rw [rI_k ci]; exact hz i (by omega) h2
              show Ok (b_X12_ways_80 (f_X12_ways_80 N) (nI P) (nI M) x3 x4 (nI tt) y6 (nI c) s) _
              unfold b_X12_ways_80
              rw [nIt (n := c) (by omega), nIt (n := tt) (by omega), eP]
              refine Ok.t (by omega) (Ok.bd ?_)
              exact go96 P 5000 c (nI (P - 1)) s (by rw [nIt (by omega)]; omega) (Nat.le_refl _) (by omega) (by omega) h57 (fun i h1 h2 => absurd h2 (by omega)) hf
          have go49 : ∀ (dj j N tt : Nat), j + dj = P → dj < N → tt ≤ 8 ^ j → Ok (f_X12_ways_49 N (nI P) (nI M) x3 x4 (nI tt) (nI j) σ) (fun _ s => frm wQ wl0 σ s) := by
            intro dj
            induction dj with
            | zero =>
              intro j N tt hj hN ht
              obtain ⟨N, rfl⟩ : ∃ q, N = q + 1 := ⟨N - 1, by omega⟩
              have h8 : 8 ^ j ≤ 32768 := Nat.le_trans (Nat.pow_le_pow_right (by omega) (show j ≤ 5 by omega)) (by decide)
              show Ok (b_X12_ways_49 (f_X12_ways_49 N) (nI P) (nI M) x3 x4 (nI tt) (nI j) σ) _
              unfold b_X12_ways_49
              rw [nIt (n := j) (by omega), nIt (n := P) (by omega)]
              refine Ok.f (by omega) (Ok.bd ?_)
              rw [nI0]
              exact go80 tt 0 40000 tt _ _ (by omega) (by omega) (by omega) rI_s (frm.rf.I rfl)
            | succ dj ih =>
              intro j N tt hj hN ht
              obtain ⟨N, rfl⟩ : ∃ q, N = q + 1 := ⟨N - 1, by omega⟩
              have h8 : 8 ^ j ≤ 4096 := Nat.le_trans (Nat.pow_le_pow_right (by omega) (show j ≤ 4 by omega)) (by decide)
              have hb : tt * (M + 1) ≤ 8 ^ j * 8 := Nat.mul_le_mul ht (by omega)
              show Ok (b_X12_ways_49 (f_X12_ways_49 N) (nI P) (nI M) x3 x4 (nI tt) (nI j) σ) _
              unfold b_X12_ways_49
              rw [nIt (n := j) (by omega), nIt (n := P) (by omega), eM, nI_mulB (by omega) (by omega)]
              refine Ok.t (by omega) (Ok.bd (Ok.bd ?_))
              rw [nI_1]
              exact ih (j + 1) N _ (by omega) (by omega) (by rw [Nat.pow_succ]; exact hb)
          rw [show (1 : Int32) = nI 1 from rfl, nI0]
          exact go49 P 0 5000 1 (by omega) (by omega) (by decide)
        · exact Ok.t (if10.mpr a4) (Ok.ret frm.rf)
      · exact Ok.t (if10.mpr a3) (Ok.ret frm.rf)
    · exact Ok.t (if10.mpr a2) (Ok.ret frm.rf)
  · exact Ok.t (if10.mpr a1) (Ok.ret frm.rf)
theorem simx_ways : SIMx n (f_X11_ways x1 x2 x3 x4) (f_X12_ways x1 x2 x3 x4) := sim_x (fun d t u sd ρ k nx H m tb G σ h => ⟨q_ways_c9, q_ways_m9⟩)
end WAYS9
