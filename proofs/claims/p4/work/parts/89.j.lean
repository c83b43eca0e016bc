/-! into: that the class answers, further -/
section INTOC2
variable {σ s s2 : HS} {n t u sd k nx m T : Nat} {ρ : Nat → Int32} {d : DAT} {b : Int} {H G : Nat → Nat → Int32} {tb9 : Nat → Nat} {x y z : Int32}
/-- after the search: what it wrote, how deep -/
def FND (σ : HS) (r : Int32) (s : HS) : Prop := frm wFi wl0 σ s ∧ 0 ≤ (s.1 17 5).toInt ∧ (s.1 17 5).toInt ≤ 12
theorem w_find111 {c a e : Nat} (h : FI c s) (ha : a < 1024) (hf : frm wFi wl0 σ s) (h5 : s.1 17 5 = nI e) (he : e ≤ 12) : Ok (f_X7_find_111 (nI a) s) (FND σ) := by
  unfold f_X7_find_111
  rw [nIt (n := a) (by omega), Int.toNat_natCast, h5]
  refine Ok.t (by omega) (Ok.i (fun _ => Ok.ret ⟨hf, by rw [h5, nIt (by omega)]; omega, by rw [h5, nIt (by omega)]; omega⟩) (fun c0 => Ok.bd ?_))
  have hm : s.1 19 a ≠ -1 := fun e => c0 (by rw [e]; rfl)
  have loop : ∀ (dd a N : Nat) (y5 : Int32) (s1 : HS), y5.toInt = (dd : Int) - 1 → dd ≤ 12 → dd < N → a < 1024 → s1.1 19 a ≠ -1 → MET s1 → frm wFi wl0 σ s1 → s1.1 17 5 = nI e → Ok (f_X7_find_134 N (nI a) y5 s1) (FND σ) := by
    intro dd
    induction dd with
    | zero =>
      intro a N y5 s1 hy hd hN ha hm hM hf h5
      obtain ⟨N, rfl⟩ : ∃ q, N = q + 1 := ⟨N - 1, by omega⟩
      show Ok (b_X7_find_134 (f_X7_find_134 N) (nI a) y5 s1) _
      unfold b_X7_find_134
      exact Ok.t (by omega) (Ok.ret ⟨hf, by rw [h5, nIt (by omega)]; omega, by rw [h5, nIt (by omega)]; omega⟩)
    | succ dd ih =>
      intro a N y5 s1 hy hd hN ha hm hM hf h5
      obtain ⟨N, rfl⟩ : ∃ q, N = q + 1 := ⟨N - 1, by omega⟩
      obtain rfl : y5 = nI dd := Int32.toInt_inj.mp (by rw [nIt (by omega)]; omega)
      obtain ⟨j, j1, j2, j3⟩ : ∃ j, j < 1024 ∧ s1.1 19 a = nI j ∧ s1.1 19 j ≠ -1 := by
        rcases hM a ha with g | g
        · exact absurd g hm
        · exact g
      show Ok (b_X7_find_134 (f_X7_find_134 N) (nI a) (nI dd) s1) _
      unfold b_X7_find_134
      rw [nIt (n := dd) (by omega), nIt (n := a) (by omega), Int.toNat_natCast, Int.toNat_natCast]
      refine Ok.f (by omega) (Ok.t (by omega) (Ok.t (by omega) (Ok.bd (Ok.t (by omega) (Ok.bd (Ok.bd ?_))))))
      rw [rI_i (show (19 : Nat) ≠ 21 by decide), j2]
      have k19 : ∀ i v, (hI s1 21 dd v).1 19 i = s1.1 19 i := fun i v => rI_i (by decide)
      refine ih j N _ _ (by cases dd with
        | zero => rfl
        | succ q => rw [show nI (q + 1) + (-1 : Int32) = nI q by rw [← nI_1 q, Int32.add_assoc]; exact Int32.add_zero _, nIt (by omega)]; omega) (by omega) (by omega) j1 (by rw [k19]; exact j3) (fun i hi => ?_) (hf.I rfl) (by rw [rI_i (by decide)]; exact h5)
      rcases hM i hi with g | ⟨q, g1, g2, g3⟩
      · exact Or.inl (by rw [k19]; exact g)
      · exact Or.inr ⟨q, g1, by rw [k19]; exact g2, by rw [k19]; exact g3⟩
  refine loop e a 5000 _ s ?_ he (by omega) ha hm h.2.2.1 hf h5
  cases e with
  | zero => rfl
  | succ q => rw [nI_mm (by omega), nIt (by omega)]; omega
theorem w_find {c a e q : Nat} (h : FI c s) (hq : q ≤ c) (ha : a < 1024) (hf : frm wFi wl0 σ s) (h5 : s.1 17 5 = nI e) (he : e ≤ 12) : ∀ N, 12 - e < N → Ok (f_X7_find_51 N (nI a) (nI q) s) (FND σ) := by
  obtain ⟨z, hz⟩ : ∃ z, e + z = 12 := ⟨12 - e, by omega⟩
  induction z generalizing e q c s with
  | zero =>
    intro N hN
    obtain ⟨N, rfl⟩ : ∃ q, N = q + 1 := ⟨N - 1, by omega⟩
    show Ok (b_X7_find_51 (f_X7_find_51 N) (nI a) (nI q) s) _
    unfold b_X7_find_51
    rw [h5, nIt (n := e) (by omega)]
    exact Ok.f (by omega) (w_find111 h ha hf h5 he)
  | succ z ih =>
    intro N hN
    obtain ⟨N, rfl⟩ : ∃ q, N = q + 1 := ⟨N - 1, by omega⟩
    show Ok (b_X7_find_51 (f_X7_find_51 N) (nI a) (nI q) s) _
    unfold b_X7_find_51
    rw [h5, nIt (n := e) (by omega), nIt (n := a) (by omega), Int.toNat_natCast]
    refine Ok.t (by omega) (Ok.t (by omega) (Ok.i (fun _ => Ok.bd ?_) (fun _ => w_find111 h ha hf h5 he)))
    rw [h.1]
    have lay : ∀ (dd q M c' : Nat) (s1 : HS), q + dd = c → dd < M → FI c' s1 → c ≤ c' → frm wFi wl0 σ s1 → s1.1 17 5 = nI e → Ok (f_X7_find_76 (f_X7_find_51 N) M (nI a) (nI q) (nI c) s1) (FND σ) := by
      intro dd
      induction dd with
      | zero =>
        intro q M c' s1 hq hM g hc hf1 h51
        obtain ⟨M, rfl⟩ : ∃ q, M = q + 1 := ⟨M - 1, by omega⟩
        have := h.2.1
        show Ok (b_X7_find_76 (f_X7_find_51 N) (f_X7_find_76 (f_X7_find_51 N) M) (nI a) (nI q) (nI c) s1) _
        unfold b_X7_find_76
        rw [nIt (n := q) (by omega), nIt (n := c) (by omega), h51, nI_1 e]
        have eq : q = c := by omega
        refine Ok.f (by omega) (Ok.bd ?_)
        have g2 : FI c' (hI s1 17 5 (nI (e + 1))) := ⟨by rw [rI_k (by decide)]; exact g.1, g.2.1, fun i hi => by
          rcases g.2.2.1 i hi with w | ⟨j, w1, w2, w3⟩
          · exact Or.inl (by rw [rI_i (by decide)]; exact w)
          · exact Or.inr ⟨j, w1, by rw [rI_i (by decide)]; exact w2, by rw [rI_i (by decide)]; exact w3⟩, fun i hi => by
          obtain ⟨j, w1, w2, w3⟩ := g.2.2.2 i hi
          exact ⟨j, w1, by rw [rI_i (by decide)]; exact w2, by rw [rI_i (by decide)]; exact w3⟩⟩
        rw [eq]
        exact ih (e := e + 1) g2 (by omega) (hf1.I rfl) rI_s (by omega) (by omega) N (by omega)
      | succ dd ih2 =>
        intro q M c' s1 hq hM g hc hf1 h51
        obtain ⟨M, rfl⟩ : ∃ q, M = q + 1 := ⟨M - 1, by omega⟩
        have := h.2.1
        obtain ⟨j, w1, w2, w3⟩ := g.2.2.2 q (by omega)
        show Ok (b_X7_find_76 (f_X7_find_51 N) (f_X7_find_76 (f_X7_find_51 N) M) (nI a) (nI q) (nI c) s1) _
        unfold b_X7_find_76
        rw [nIt (n := q) (by omega), nIt (n := c) (by omega), Int.toNat_natCast, w2]
        refine Ok.t (by omega) (Ok.t (by omega) (Ok.cv (w_goOnFrom g w1 w3) (fun s2 h2 => Ok.bd ?_)))
        rw [nI_1]
        obtain ⟨c3, f1, f2, f3, f4, f5⟩ := h2
        exact ih2 (q + 1) M c3 s2 (by omega) (by omega) f2 (by omega) (hf1.tr f3) (f4.trans h51)
    have := h.2.1
    exact lay (c - q) q 5000 c s (by omega) (by omega) h (Nat.le_refl _) hf h5
theorem q_find (hx : x.toInt < 1024) : Ok (f_X7_find x y σ) (fun r s => frm wQ wl0 σ s ∧ (r.toInt ≠ 0 → (s.1 17 5).toInt ≤ 12)) := by
  unfold f_X7_find
  have no : Ok (some ((0 : Int32), σ)) (fun r s => frm wQ wl0 σ s ∧ (r.toInt ≠ 0 → (s.1 17 5).toInt ≤ 12)) := Ok.ret ⟨frm.rf, fun h => absurd rfl h⟩
  refine Ok.i (fun _ => no) (fun c1 => Ok.i (fun c2 => Ok.i (fun _ => no) (fun c3 => Ok.i (fun c4 => ?_) (fun _ => no))) (fun _ => no))
  obtain ⟨a, ha, rfl⟩ : ∃ a : Nat, a < 1024 ∧ x = nI a := ⟨x.toInt.toNat, by omega, nI_tn (by omega) (by omega)⟩
  obtain ⟨e, he, rfl⟩ : ∃ a : Nat, a < 1024 ∧ y = nI a := ⟨y.toInt.toNat, by omega, nI_tn (by omega) (by omega)⟩
  refine Ok.cv (w_fill2 (p := 19) (N := 1024) rfl rfl (by omega)) (fun s1 h1 => Ok.bd ?_)
  have F0 : FI 0 (hI s1 17 1 0) := ⟨rI_s, by omega, fun i hi => Or.inl (by rw [rI_i (by decide)]; exact h1.2 i hi), fun i hi => absurd hi (by omega)⟩
  have f0 : frm wFi wl0 σ (hI s1 17 1 0) := (h1.1.sub (fun i k h => by
    have : i = 19 := by simpa using h
    subst this; rfl)).I rfl
  refine Ok.cv (w_meet (v := 0) F0 ha ha (Or.inl rfl)) (fun s3 h3 => Ok.bd ?_)
  obtain ⟨c3, g1, g2, g3, g4, g5⟩ := h3
  have F1 : FI c3 (hI s3 17 5 0) := ⟨by rw [rI_k (by decide)]; exact g2.1, g2.2.1, fun i hi => by
      rcases g2.2.2.1 i hi with w | ⟨j, w1, w2, w3⟩
      · exact Or.inl (by rw [rI_i (by decide)]; exact w)
      · exact Or.inr ⟨j, w1, by rw [rI_i (by decide)]; exact w2, by rw [rI_i (by decide)]; exact w3⟩, fun i hi => by
      obtain ⟨j, w1, w2, w3⟩ := g2.2.2.2 i hi
      exact ⟨j, w1, by rw [rI_i (by decide)]; exact w2, by rw [rI_i (by decide)]; exact w3⟩⟩
  refine (w_find (σ := σ) (e := 0) (q := 0) F1 (by omega) he ((f0.tr g3).I rfl) rI_s (by omega) 5000 (by omega)).mono (fun r s h => ⟨h.1.sub fi_wQ, fun _ => h.2.2⟩)
theorem q_into_c (h : RELx n d t u sd ρ k nx H m tb9 G σ) : Ok (f_X11_into x y σ) (fun _ s => frm wQ wl0 σ s) := by
  have hP := h.tc.2.1.2.1
  have h87 : ∀ s, frm wQ wl0 σ s → Ok (f_X11_into_87 y s) (fun _ s => frm wQ wl0 σ s) := fun s hs => by
    unfold f_X11_into_87 f_X11_into_88
    exact Ok.t rfl (Ok.i (fun _ => Ok.ret hs) (fun _ => Ok.ret hs))
  unfold f_X11_into
  refine Ok.t (tk0 h) (Ok.cle (e_hasPattern (by rw [h.t0]; exact h.tc.2.1.1) hP) ?_)
  by_cases c : 0 ≤ x.toInt ∧ x.toInt < d.1.2.1
  · refine Ok.f (fun e => if10.mp e c) (Ok.i (fun _ => Ok.ret frm.rf) (fun cy => ?_))
    obtain ⟨p, hp, rfl⟩ := in_T c (by omega)
    have hc := h.tc.hc h.tk h.ok hp
    rw [h.t0, nIt (n := p) (by omega), Int.toNat_natCast, (h.tc.2.1.2.2 p hp).1]
    have hL := (h.tc.2.1.2.2 p hp).2.1
    refine Ok.t h.tk (Ok.t (by omega) (Ok.t h.tk (Ok.t (by omega) (Ok.bd (Ok.cle (e_close hc) (Ok.i (fun _ => Ok.ret frm.rf) (fun _ => Ok.cl (e_two h) (fun r s hs => ?_))))))))
    subst hs
    refine Ok.i (fun _ => Ok.cle (e_landBits h) (Ok.cl (w_land3 hL hc.2.2.2) (fun r2 s hs => ?_))) (fun _ => h87 s frm.rf)
    subst hs
    have rl : (lanS d ρ).toInt < 1024 := by
      unfold lanS
      rw [bset_N (by omega), nIt (by have := bsN_lt (p := lanP ρ d.1.1.1) (n := 10); omega)]
      have := bsN_lt (p := lanP ρ d.1.1.1) (n := 10)
      omega
    refine Ok.cl (q_find rl) (fun r3 s3 hs3 => Ok.i (fun _ => h87 s3 hs3.1) (fun c3 => ?_))
    unfold f_X11_into_88
    refine Ok.f (by decide) (Ok.i (fun _ => Ok.ret hs3.1) (fun cn => Ok.i (fun cl => Ok.t (by have := hs3.2 c3; omega) (Ok.ret hs3.1)) (fun _ => Ok.ret hs3.1)))
  · exact Ok.t (if10.mpr c) (Ok.ret frm.rf)
end INTOC2
