/-! into: that the reference answers -/
section INTOM
variable {σ s s2 : HS} {n t u sd k nx m T p : Nat} {ρ : Nat → Int32} {d : DAT} {b : Int} {H G : Nat → Nat → Int32} {tb9 : Nat → Nat} {x y z : Int32}
def nexV (x y : Int32) : Int32 := if (x &&& (1 : Int32)).toInt = 0 then (if y.toInt = 0 then x >>> ((1 : Int32) &&& 31) else -1) else if y.toInt = 0 then -1 else if ((x >>> (y &&& 31)) &&& (1 : Int32)).toInt = 1 then -1 else (x >>> ((1 : Int32) &&& 31)) ||| ((1 : Int32) <<< ((y - (1 : Int32)) &&& 31))
theorem e_nextOf : f_X12_nextOf x y σ = some (nexV x y, σ) := by
  unfold f_X12_nextOf nexV
  split
  · split <;> rfl
  · split
    · rfl
    · split <;> rfl
theorem nex_rg : ∀ q, q < 1024 → ∀ y, y < 10 → (nexV (nI q) (nI y)).toInt < 0 ∨ (0 ≤ (nexV (nI q) (nI y)).toInt ∧ (nexV (nI q) (nI y)).toInt < 1024) := by decide +kernel
theorem aim_z : ∀ L, L < 16 → 0 < L → ∀ q, q < 10 → ((nI L * (9 : Int32)) - nI q) - ((nI L * (9 : Int32)) - nI q) / nI L * nI L = nI ((9 * L - q) % L) := by decide +kernel
theorem w_aimOf (hM : TM sd d σ) (hD : DOK d) (hp : p < d.1.2.1) : Ok (f_X12_aimOf (nI p) σ) (fun _ s => s = σ) := by
  have hl := hM.lp hp
  have loop : ∀ (dd q N : Nat) (y : Int32), q + dd = 10 → dd < N → Ok (f_X12_aimOf_4 N (nI p) y (nI q) σ) (fun _ s => s = σ) := by
    intro dd
    induction dd with
    | zero =>
      intro q N y hq hN
      obtain ⟨N, rfl⟩ : ∃ q, N = q + 1 := ⟨N - 1, by omega⟩
      show Ok (b_X12_aimOf_4 (f_X12_aimOf_4 N) (nI p) y (nI q) σ) _
      unfold b_X12_aimOf_4
      rw [nIt (n := q) (by omega)]
      exact Ok.t (by omega) (Ok.ret rfl)
    | succ dd ih =>
      intro q N y hq hN
      obtain ⟨N, rfl⟩ : ∃ q, N = q + 1 := ⟨N - 1, by omega⟩
      have eL : d.1.2.2.1 p = LnP d p := rfl
      show Ok (b_X12_aimOf_4 (f_X12_aimOf_4 N) (nI p) y (nI q) σ) _
      unfold b_X12_aimOf_4 f_X12_aimOf_51
      rw [nIt (n := q) (by omega)]
      refine Ok.f (by omega) (Ok.cle (e_lengthOf hM hp) (Ok.cle (e_lengthOf hM hp) ?_))
      rw [eL, nIt (n := LnP d p) (by omega), aim_z _ (by omega) (by omega) q (by omega)]
      have hm := Nat.mod_lt (9 * LnP d p - q) (show 0 < LnP d p by omega)
      refine Ok.f (by omega) (Ok.bd (Ok.cle (e_hAt hM hD hp (by omega)) (Ok.bd (Ok.i (fun _ => Ok.bd ?_) (fun _ => Ok.bd (Ok.bd ?_))))))
      · rw [nI_1]; exact ih (q + 1) N _ (by omega) (by omega)
      · rw [nI_1]; exact ih (q + 1) N _ (by omega) (by omega)
  exact loop 9 1 5000 0 (by omega) (by omega)
/-- how far off each set is: 99 for not at all, else by one step more than some next one -/
def FAR (f : Nat → Int32) : Prop := ∀ q, q < 1024 → f q = 99 ∨ f q = 0 ∨ ∃ w, 1 ≤ w ∧ w ≤ 12 ∧ f q = nI w ∧ ∃ y, y ≤ 9 ∧ ∃ r, r < 1024 ∧ nexV (nI q) (nI y) = nI r ∧ f r = nI (w - 1)
theorem n99 {w : Nat} (h : w ≤ 12) : nI w ≠ 99 := fun e => by
  have := congrArg Int32.toInt e
  rw [nIt (by omega)] at this
  have : (w : Int) = 99 := this
  omega
theorem n00 {w : Nat} (h : w ≤ 12) (h2 : 1 ≤ w) : nI w ≠ 0 := fun e => by
  have := congrArg Int32.toInt e
  rw [nIt (by omega)] at this
  have : (w : Int) = 0 := this
  omega
theorem FAR.put {f g : Nat → Int32} {q v r y : Nat} (h : FAR f) (hq : q < 1024) (h99 : f q = 99) (h1 : 1 ≤ v) (h2 : v ≤ 12) (hy : y ≤ 9) (hr : r < 1024) (e : nexV (nI q) (nI y) = nI r) (er : f r = nI (v - 1)) (hg : ∀ i, g i = if i = q then nI v else f i) : FAR g := fun i hi => by
  have ne : ∀ r' w, w ≤ 12 → f r' = nI w → r' ≠ q := fun r' w hw e2 e3 => by rw [e3, h99] at e2; exact n99 hw e2.symm
  by_cases c : i = q
  · subst c
    refine Or.inr (Or.inr ⟨v, h1, h2, by rw [hg, if_pos rfl], y, hy, r, hr, e, ?_⟩)
    rw [hg, if_neg (ne r (v - 1) (by omega) er)]; exact er
  · rw [hg i, if_neg c]
    rcases h i hi with g0 | g0 | ⟨w, w1, w2, w3, y', y1, r', r1, r2, r3⟩
    · exact Or.inl g0
    · exact Or.inr (Or.inl g0)
    · exact Or.inr (Or.inr ⟨w, w1, w2, w3, y', y1, r', r1, r2, by rw [hg, if_neg (ne r' (w - 1) (by omega) r3)]; exact r3⟩)
def w270 (a _k : Nat) : Bool := a == 270
theorem w270_Q (i k : Nat) (h : w270 i k = true) : wQ i k = true := by
  have : i = 270 := by unfold w270 at h; simpa using h
  subst this; rfl
theorem w_fillsFar : Okv (f_X12_fillsFar x σ) (fun s => FAR (s.1 270) ∧ frm w270 wl0 σ s) := by
  -- one more far
  have go34 : ∀ (dv v N : Nat) (s : HS), v + dv = 13 → dv < N → 1 ≤ v → FAR (s.1 270) → frm w270 wl0 σ s → Okv (f_X12_fillsFar_34 N (nI v) s) (fun s => FAR (s.1 270) ∧ frm w270 wl0 σ s) := by
    intro dv
    induction dv with
    | zero =>
      intro v N s hv hN h1 hF hf
      obtain ⟨N, rfl⟩ : ∃ q, N = q + 1 := ⟨N - 1, by omega⟩
      show Okv (b_X12_fillsFar_34 (f_X12_fillsFar_34 N) (nI v) s) _
      unfold b_X12_fillsFar_34
      rw [nIt (n := v) (by omega)]
      exact Okv.t (by omega) (Okv.ret ⟨hF, hf⟩)
    | succ dv ih =>
      intro v N s hv hN h1 hF hf
      obtain ⟨N, rfl⟩ : ∃ q, N = q + 1 := ⟨N - 1, by omega⟩
      have go42 : ∀ (dq q M : Nat) (s : HS), q + dq = 1024 → dq < M → FAR (s.1 270) → frm w270 wl0 σ s → Okv (f_X12_fillsFar_42 (f_X12_fillsFar_34 N) M (nI v) (nI q) s) (fun s => FAR (s.1 270) ∧ frm w270 wl0 σ s) := by
        intro dq
        induction dq with
        | zero =>
          intro q M s hq hM hF hf
          obtain ⟨M, rfl⟩ : ∃ q, M = q + 1 := ⟨M - 1, by omega⟩
          show Okv (b_X12_fillsFar_42 (f_X12_fillsFar_34 N) (f_X12_fillsFar_42 (f_X12_fillsFar_34 N) M) (nI v) (nI q) s) _
          unfold b_X12_fillsFar_42
          rw [nIt (n := q) (by omega)]
          refine Okv.f (by omega) (Okv.bd ?_)
          rw [nI_1]
          exact ih (v + 1) N s (by omega) (by omega) (by omega) hF hf
        | succ dq ihq =>
          intro q M s hq hM hF hf
          obtain ⟨M, rfl⟩ : ∃ q, M = q + 1 := ⟨M - 1, by omega⟩
          have nxt : ∀ s, FAR (s.1 270) → frm w270 wl0 σ s → Okv (f_X12_fillsFar_109 (f_X12_fillsFar_34 N) (f_X12_fillsFar_42 (f_X12_fillsFar_34 N) M) (nI v) (nI q) s) (fun s => FAR (s.1 270) ∧ frm w270 wl0 σ s) := fun s hF hf => by
            unfold f_X12_fillsFar_109
            refine Okv.bd ?_
            rw [nI_1]
            exact ihq (q + 1) M s (by omega) (by omega) hF hf
          have go52 : ∀ (dy y K : Nat) (s : HS), y + dy = 10 → dy < K → FAR (s.1 270) → frm w270 wl0 σ s → Okv (f_X12_fillsFar_52 (f_X12_fillsFar_34 N) (f_X12_fillsFar_42 (f_X12_fillsFar_34 N) M) K (nI v) (nI q) (nI y) s) (fun s => FAR (s.1 270) ∧ frm w270 wl0 σ s) := by
            intro dy
            induction dy with
            | zero =>
              intro y K s hy hK hF hf
              obtain ⟨K, rfl⟩ : ∃ q, K = q + 1 := ⟨K - 1, by omega⟩
              show Okv (b_X12_fillsFar_52 (f_X12_fillsFar_34 N) (f_X12_fillsFar_42 (f_X12_fillsFar_34 N) M) (f_X12_fillsFar_52 (f_X12_fillsFar_34 N) (f_X12_fillsFar_42 (f_X12_fillsFar_34 N) M) K) (nI v) (nI q) (nI y) s) _
              unfold b_X12_fillsFar_52
              rw [nIt (n := y) (by omega)]
              exact Okv.t (by omega) (nxt s hF hf)
            | succ dy ihy =>
              intro y K s hy hK hF hf
              obtain ⟨K, rfl⟩ : ∃ q, K = q + 1 := ⟨K - 1, by omega⟩
              have nx2 : ∀ s, FAR (s.1 270) → frm w270 wl0 σ s → Okv (f_X12_fillsFar_103 (f_X12_fillsFar_34 N) (f_X12_fillsFar_42 (f_X12_fillsFar_34 N) M) (f_X12_fillsFar_52 (f_X12_fillsFar_34 N) (f_X12_fillsFar_42 (f_X12_fillsFar_34 N) M) K) (nI v) (nI q) (nI y) s) (fun s => FAR (s.1 270) ∧ frm w270 wl0 σ s) := fun s hF hf => by
                unfold f_X12_fillsFar_103
                refine Okv.bd ?_
                rw [nI_1]
                exact ihy (y + 1) K s (by omega) (by omega) hF hf
              show Okv (b_X12_fillsFar_52 (f_X12_fillsFar_34 N) (f_X12_fillsFar_42 (f_X12_fillsFar_34 N) M) (f_X12_fillsFar_52 (f_X12_fillsFar_34 N) (f_X12_fillsFar_42 (f_X12_fillsFar_34 N) M) K) (nI v) (nI q) (nI y) s) _
              unfold b_X12_fillsFar_52
              rw [nIt (n := y) (by omega), nIt (n := q) (by omega), Int.toNat_natCast]
              refine Okv.f (by omega) (Okv.t (by omega) (Okv.i (fun c99 => ?_) (fun _ => nxt s hF hf)))
              have e99 : s.1 270 q = 99 := Int32.toInt_inj.mp c99
              have rg := nex_rg q (by omega) y (by omega)
              have en : f_X12_nextOf (nI q) (nI y) s = some (nexV (nI q) (nI y), s) := e_nextOf
              refine Okv.cl (P := fun r s' => r = nexV (nI q) (nI y) ∧ s' = s) (Ok.of en ⟨rfl, rfl⟩) (fun r s' hr => ?_)
              obtain ⟨rfl, rfl⟩ := hr
              refine Okv.i (fun _ => nx2 s' hF hf) (fun cn => Okv.t (by omega) (Okv.i (fun ce => Okv.t (by omega) (Okv.bd ?_)) (fun _ => nx2 s' hF hf)))
              have hv0 : nI v - (1 : Int32) = nI (v - 1) := by
                obtain ⟨w, rfl⟩ : ∃ w, v = w + 1 := ⟨v - 1, by omega⟩
                rw [nI_mm (by omega)]; rfl
              rw [hv0] at ce
              refine nx2 _ (hF.put (q := q) (v := v) (y := y) (r := (nexV (nI q) (nI y)).toInt.toNat) (by omega) e99 h1 (by omega) (by omega) (by omega) (nI_tn (by omega) (by omega)) (Int32.toInt_inj.mp ce) (fun i => ?_)) (hf.I rfl)
              by_cases ci : i = q
              · rw [ci, rI_s, if_pos rfl]
              · rw [rI_k ci, if_neg ci]
          show Okv (b_X12_fillsFar_42 (f_X12_fillsFar_34 N) (f_X12_fillsFar_42 (f_X12_fillsFar_34 N) M) (nI v) (nI q) s) _
          unfold b_X12_fillsFar_42
          rw [nIt (n := q) (by omega)]
          exact Okv.t (by omega) (go52 10 0 5000 s (by omega) (by omega) hF hf)
      show Okv (b_X12_fillsFar_34 (f_X12_fillsFar_34 N) (nI v) s) _
      unfold b_X12_fillsFar_34
      rw [nIt (n := v) (by omega)]
      exact Okv.f (by omega) (go42 1024 0 5000 s (by omega) (by omega) hF hf)
  -- the first filling
  have go2 : ∀ (dq q N : Nat) (s : HS), q + dq = 1024 → dq < N → (∀ i, i < q → s.1 270 i = 99 ∨ s.1 270 i = 0) → frm w270 wl0 σ s → Okv (f_X12_fillsFar_2 N x (nI q) s) (fun s => FAR (s.1 270) ∧ frm w270 wl0 σ s) := by
    intro dq
    induction dq with
    | zero =>
      intro q N s hq hN hz hf
      obtain ⟨N, rfl⟩ : ∃ q, N = q + 1 := ⟨N - 1, by omega⟩
      show Okv (b_X12_fillsFar_2 (f_X12_fillsFar_2 N) x (nI q) s) _
      unfold b_X12_fillsFar_2
      rw [nIt (n := q) (by omega)]
      refine Okv.f (by omega) (go34 12 1 5000 s (by omega) (by omega) (by omega) (fun i hi => ?_) hf)
      rcases hz i (by omega) with g | g
      · exact Or.inl g
      · exact Or.inr (Or.inl g)
    | succ dq ih =>
      intro q N s hq hN hz hf
      obtain ⟨N, rfl⟩ : ∃ q, N = q + 1 := ⟨N - 1, by omega⟩
      have st : ∀ v : Int32, (v = 99 ∨ v = 0) → Okv (f_X12_fillsFar_25 (f_X12_fillsFar_2 N) x (nI q) v (nI q) s) (fun s => FAR (s.1 270) ∧ frm w270 wl0 σ s) := fun v hv => by
        unfold f_X12_fillsFar_25
        rw [nIt (n := q) (by omega), Int.toNat_natCast]
        refine Okv.t (by omega) (Okv.bd (Okv.bd ?_))
        rw [nI_1]
        refine ih (q + 1) N _ (by omega) (by omega) (fun i hi => ?_) (hf.I rfl)
        by_cases c : i = q
        · rw [c, rI_s]; exact hv
        · rw [rI_k c]; exact hz i (by omega)
      show Okv (b_X12_fillsFar_2 (f_X12_fillsFar_2 N) x (nI q) s) _
      unfold b_X12_fillsFar_2
      rw [nIt (n := q) (by omega)]
      exact Okv.t (by omega) (Okv.i (fun _ => st 0 (Or.inr rfl)) (fun _ => st 99 (Or.inl rfl)))
  unfold f_X12_fillsFar
  rw [nI0]
  exact go2 1024 0 5000 σ (by omega) (by omega) (fun i hi => absurd hi (by omega)) frm.rf
theorem w_firstOf {q w : Nat} (hF : FAR (s.1 270)) (hq : q < 1024) (h1 : 1 ≤ w) (h2 : w ≤ 12) (e : s.1 270 q = nI w) : Ok (f_X12_firstOf (nI q) s) (fun r s2 => s2 = s ∧ ∃ y, y ≤ 9 ∧ r = nI y ∧ ∃ r', r' < 1024 ∧ nexV (nI q) (nI y) = nI r' ∧ s.1 270 r' = nI (w - 1)) := by
  obtain ⟨w', w1, w2, w3, Y, y1, R, r1, r2, r3⟩ : ∃ w', 1 ≤ w' ∧ w' ≤ 12 ∧ s.1 270 q = nI w' ∧ ∃ y, y ≤ 9 ∧ ∃ r, r < 1024 ∧ nexV (nI q) (nI y) = nI r ∧ s.1 270 r = nI (w' - 1) := by
    rcases hF q hq with g | g | g
    · rw [e] at g; exact absurd g (n99 h2)
    · rw [e] at g; exact absurd g (n00 h2 h1)
    · exact g
  have ew : w' = w := by
    have := congrArg Int32.toInt (w3.symm.trans e)
    rw [nIt (by omega), nIt (by omega)] at this
    omega
  subst ew
  have hv0 : nI w' - (1 : Int32) = nI (w' - 1) := by
    obtain ⟨v, rfl⟩ : ∃ v, w' = v + 1 := ⟨w' - 1, by omega⟩
    rw [nI_mm (by omega)]; rfl
  have loop : ∀ (dd y N : Nat), y + dd = Y → dd < N → Ok (f_X12_firstOf_2 N (nI q) (nI y) s) (fun r s2 => s2 = s ∧ ∃ y, y ≤ 9 ∧ r = nI y ∧ ∃ r', r' < 1024 ∧ nexV (nI q) (nI y) = nI r' ∧ s.1 270 r' = nI (w' - 1)) := by
    intro dd
    induction dd with
    | zero =>
      intro y N hy hN
      obtain ⟨N, rfl⟩ : ∃ q, N = q + 1 := ⟨N - 1, by omega⟩
      obtain rfl : y = Y := by omega
      show Ok (b_X12_firstOf_2 (f_X12_firstOf_2 N) (nI q) (nI y) s) _
      unfold b_X12_firstOf_2
      refine Ok.cle e_nextOf ?_
      rw [r2, nIt (n := R) (by omega)]
      refine Ok.f (by omega) (Ok.cle e_nextOf ?_)
      rw [r2, nIt (n := R) (by omega), nIt (n := q) (by omega), Int.toNat_natCast, Int.toNat_natCast, r3, e, hv0]
      exact Ok.t (by omega) (Ok.t (by omega) (Ok.t rfl (Ok.ret ⟨rfl, y, y1, rfl, R, r1, r2, r3⟩)))
    | succ dd ih =>
      intro y N hy hN
      obtain ⟨N, rfl⟩ : ∃ q, N = q + 1 := ⟨N - 1, by omega⟩
      have nxt : Ok (f_X12_firstOf_31 (f_X12_firstOf_2 N) (nI q) (nI y) s) (fun r s2 => s2 = s ∧ ∃ y, y ≤ 9 ∧ r = nI y ∧ ∃ r', r' < 1024 ∧ nexV (nI q) (nI y) = nI r' ∧ s.1 270 r' = nI (w' - 1)) := by
        unfold f_X12_firstOf_31
        refine Ok.bd ?_
        rw [nI_1]
        exact ih (y + 1) N (by omega) (by omega)
      have rg := nex_rg q hq y (by omega)
      show Ok (b_X12_firstOf_2 (f_X12_firstOf_2 N) (nI q) (nI y) s) _
      unfold b_X12_firstOf_2
      refine Ok.cle e_nextOf (Ok.i (fun _ => nxt) (fun cn => Ok.cle e_nextOf ?_))
      rw [nIt (n := q) (by omega), Int.toNat_natCast, e, hv0]
      refine Ok.t (by omega) (Ok.t (by omega) (Ok.i (fun ce => Ok.ret ⟨rfl, y, by omega, rfl, _, ?_, nI_tn (by omega) (by omega), Int32.toInt_inj.mp ce⟩) (fun _ => nxt)))
      omega
  unfold f_X12_firstOf
  rw [nI0]
  exact loop Y 0 5000 (by omega) (by omega)
theorem q_into_m (h : RELx n d t u sd ρ k nx H m tb9 G σ) : Ok (f_X12_into x y σ) (fun _ s => frm wQ wl0 σ s) := by
  have hT := h.tc.T7
  have hP := h.tc.2.1.2.1
  unfold f_X12_into
  have h55 : ∀ s, frm wQ wl0 σ s → Ok (f_X12_into_55 y s) (fun _ s => frm wQ wl0 σ s) := fun s hs => by
    unfold f_X12_into_55
    exact Ok.i (fun _ => Ok.ret hs) (fun _ => Ok.ret hs)
  refine Ok.cle (e_isPattern h.tm.lv h.tm.2.2.2.1.1 hP) ?_
  by_cases c : 0 ≤ x.toInt ∧ x.toInt < d.1.2.1
  · obtain ⟨p, hp, rfl⟩ := in_T c (by omega)
    refine Ok.f (fun e => if10.mp e c) (Ok.cl (w_keepsOf h.tm h.ok hp) (fun r3 s3 h3 => ?_))
    have f3 : frm wQ wl0 σ s3 := h3.2.2.sub tp_wQ
    refine Ok.i (fun _ => Ok.ret f3) (fun _ => Ok.i (fun _ => Ok.ret f3) (fun cy => Ok.cl (w_landsM (h.fr f3)) (fun r5 s5 h5 => ?_)))
    obtain ⟨e5, R5, g5⟩ := h5
    have f5 : frm wQ wl0 σ s5 := f3.tr (g5.sub cp_wQ)
    have h5 := h.fr f5
    refine Ok.cl (w_aimOf h5.tm h5.ok hp) (fun r7 s7 h7 => ?_)
    subst h7
    refine Ok.cv w_fillsFar (fun s9 h9 => ?_)
    have f9 : frm wQ wl0 σ s9 := f5.tr (h9.2.sub w270_Q)
    have M9 := (h.fr f9).tm
    have soon : Ok (f_X12_areTwoSoon s9) (fun _ s => s = s9) := by
      have loop : ∀ (dd q N : Nat), q + dd = 10 → dd < N → Ok (f_X12_areTwoSoon_2 N (nI q) s9) (fun _ s => s = s9) := by
        intro dd
        induction dd with
        | zero =>
          intro q N hq hN
          obtain ⟨N, rfl⟩ : ∃ q, N = q + 1 := ⟨N - 1, by omega⟩
          show Ok (b_X12_areTwoSoon_2 (f_X12_areTwoSoon_2 N) (nI q) s9) _
          unfold b_X12_areTwoSoon_2
          rw [nIt (n := q) (by omega)]
          exact Ok.f (by omega) (Ok.ret rfl)
        | succ dd ih =>
          intro q N hq hN
          obtain ⟨N, rfl⟩ : ∃ q, N = q + 1 := ⟨N - 1, by omega⟩
          show Ok (b_X12_areTwoSoon_2 (f_X12_areTwoSoon_2 N) (nI q) s9) _
          unfold b_X12_areTwoSoon_2
          rw [nIt (n := q) (by omega)]
          refine Ok.t (by omega) (Ok.cle (e_landsAt M9.lv) (Ok.i (fun _ => Ok.ret rfl) (fun _ => Ok.bd ?_)))
          rw [nI_1]
          exact ih (q + 1) N (by omega) (by omega)
      unfold f_X12_areTwoSoon
      rw [nI0]
      exact loop 10 0 5000 (by omega) (by omega)
    have hb := bsN_lt (p := lanP ρ d.1.1.1) (n := 10)
    have e5' : r5 = nI (bsN (lanP ρ d.1.1.1) 10) := by rw [e5]; unfold lanS; exact bset_N (by omega)
    generalize hB : bsN (lanP ρ d.1.1.1) 10 = B at e5' hb
    subst e5'
    have hB1 : B < 1024 := by omega
    refine Ok.cl soon (fun r11 s11 h11 => ?_)
    subst h11
    rw [nIt (n := B) (by omega), Int.toNat_natCast]
    refine Ok.i (fun _ => Ok.t (by omega) (Ok.i (fun _ => h55 s11 f9) (fun c99 => Ok.i (fun _ => Ok.t (by omega) (Ok.ret f9)) (fun cn => Ok.t (by omega) (Ok.i (fun cl => ?_) (fun _ => Ok.ret f9)))))) (fun _ => h55 s11 f9)
    obtain ⟨w, w1, w2, w3⟩ : ∃ w, 1 ≤ w ∧ w ≤ 12 ∧ s11.1 270 B = nI w := by
      rcases h9.1 B hB1 with g | g | ⟨w, w1, w2, w3, -⟩
      · exact absurd (congrArg Int32.toInt g) c99
      · rw [g, i0_eq] at cl; omega
      · exact ⟨w, w1, w2, w3⟩
    rw [w3, nIt (n := w) (by omega)] at cl
    obtain ⟨X, hX, rfl⟩ : ∃ X : Nat, X < w ∧ y = nI X := ⟨y.toInt.toNat, by omega, nI_tn (by omega) (by omega)⟩
    have loop : ∀ (dd j N q w : Nat), j + dd = X → dd < N → q < 1024 → dd < w → w ≤ 12 → s11.1 270 q = nI w → Ok (f_X12_into_95 N (nI X) (nI q) (nI j) s11) (fun _ s => frm wQ wl0 σ s) := by
      intro dd
      induction dd with
      | zero =>
        intro j N q w hj hN hq hw hw2 e
        obtain ⟨N, rfl⟩ : ∃ q, N = q + 1 := ⟨N - 1, by omega⟩
        show Ok (b_X12_into_95 (f_X12_into_95 N) (nI X) (nI q) (nI j) s11) _
        unfold b_X12_into_95
        rw [nIt (n := j) (by omega), nIt (n := X) (by omega)]
        exact Ok.f (by omega) (Ok.cl (w_firstOf h9.1 hq (by omega) hw2 e) (fun r s hs => Ok.ret (by rw [hs.1]; exact f9)))
      | succ dd ih =>
        intro j N q w hj hN hq hw hw2 e
        obtain ⟨N, rfl⟩ : ∃ q, N = q + 1 := ⟨N - 1, by omega⟩
        show Ok (b_X12_into_95 (f_X12_into_95 N) (nI X) (nI q) (nI j) s11) _
        unfold b_X12_into_95
        rw [nIt (n := j) (by omega), nIt (n := X) (by omega)]
        refine Ok.t (by omega) (Ok.cl (w_firstOf h9.1 hq (by omega) hw2 e) (fun r s hs => ?_))
        obtain ⟨rfl, y, y1, rfl, r', r1, r2, r3⟩ := hs
        refine Ok.cle e_nextOf (Ok.bd ?_)
        rw [r2, nI_1]
        exact ih (j + 1) N r' (w - 1) (by omega) (by omega) r1 (by omega) (by omega) r3
    have := loop X 0 5000 B w (by omega) (by omega) hB1 hX w2 w3
    rw [nI_0] at this
    exact this
  · exact Ok.t (if10.mpr c) (Ok.ret frm.rf)
theorem simx_into : SIMx n (f_X11_into x y) (f_X12_into x y) := sim_x (fun d t u sd ρ k nx H m tb G σ h => ⟨q_into_c h, q_into_m h⟩)
end INTOM
