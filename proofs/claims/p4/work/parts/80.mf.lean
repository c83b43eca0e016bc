/-! the reference's expressions: the loops -/
section MEL
variable {b : Nat → Int32} {n sd : Nat} {σc σ s : HS}
theorem wOut_P {q0 a k : Nat} (hq : 420 * sd ≤ q0) (h : wPm sd a k = false) : wOut sd q0 a k = false := wOut_X (wXm_P hq h)
theorem mr_out0 {q0 : Nat} {S : List Nat} {c : COD} (hq : 420 * sd ≤ q0) (hsd : sd ≤ 1) (h64 : S.length < 64) (hp : q0 + c.length + S.length ≤ 420 * sd + 401) (h : XS q0 S c s) : Okv (f_X12_comesOut 0 s) (fun s' => XS q0 (outS false S c).1 (outS false S c).2 s' ∧ frm (wOut sd q0) wl0 s s') := mr_out (bs := false) hq hsd S 5000 c s (by omega) h64 hp h
theorem mr_out1 {q0 : Nat} {S : List Nat} {c : COD} (hq : 420 * sd ≤ q0) (hsd : sd ≤ 1) (h64 : S.length < 64) (hp : q0 + c.length + S.length ≤ 420 * sd + 401) (h : XS q0 S c s) : Okv (f_X12_comesOut 1 s) (fun s' => XS q0 (outS true S c).1 (outS true S c).2 s' ∧ frm (wOut sd q0) wl0 s s') := mr_out (bs := true) hq hsd S 5000 c s (by omega) h64 hp h
theorem mr_unit_f {e : FA} (h : FLM sd σc e s) : f_X12_unit s = some s := by
  unfold f_X12_unit f_X12_unit_88
  rw [mr_is_f h]
  simp only [Cl]
  rw [if_pos (show (0 : Int32).toInt = 0 from rfl), if_neg (by rw [h.1]; have := h.2.1; omega), mr_fail_f h]; rfl
theorem ex23_f {e : FA} {k12 : Int32 → Int32 → HS → Option HS} {N : Nat} {y : Int32} (h : FLM sd σc e s) : f_X12_expression_23 k12 (N + 1) y s = some s := by
  show b_X12_expression_23 k12 (f_X12_expression_23 k12 N) y s = some s
  unfold b_X12_expression_23
  rw [mr_is_f h]
  simp only [Cl]
  rw [if_pos (show (0 : Int32).toInt = 0 from rfl), mr_unit_f h]
  simp only [Cv]
  rw [if_pos (by rw [h.1]; exact h.2.1)]
theorem ex12_f {e : FA} {N : Nat} {y : Int32} (h : FLM sd σc e s) : f_X12_expression_12 (N + 1) y 1 s = some s := by
  show b_X12_expression_12 (f_X12_expression_12 N) y 1 s = some s
  unfold b_X12_expression_12
  rw [if_neg (by decide), if_neg (by rw [h.1]; have := h.2.1; omega)]
/-- a fault, the branches as many as they were -/
def FB (sd : Nat) (σc : HS) (v : Int32) (e : FA) (s : HS) : Prop := FLM sd σc e s ∧ s.1 236 33 = v
theorem FB.wr {e : FA} {a k : Nat} {v x : Int32} (h : FB sd σc v e s) (hw : wPm sd a k = true) (h1 : a ≠ 236 ∨ (k ≠ 11 ∧ k ≠ 13 ∧ k ≠ 14 ∧ k ≠ 33)) : FB sd σc v e (hI s a k x) := ⟨h.1.wr hw (by omega), by
  by_cases c : a = 236
  · subst c; rw [rI_k (by omega)]; exact h.2
  · rw [rI_i (Ne.symm c)]; exact h.2⟩
theorem FB.gow {e : FA} {v : Int32} {s1 : HS} (h : FLM sd σc e s1) (hf : frm wGo wl0 s s1) (hv : s.1 236 33 = v) : FB sd σc v e s1 := ⟨h, by rw [hf.1 236 33 rfl]; exact hv⟩
theorem ex46_f {e : FA} {v : Int32} {k12 : Int32 → Int32 → HS → Option HS} {N q0 : Nat} {y : Int32} {S : List Nat} {c : COD} (h : FB sd σc v e s) (hx : XS q0 S c s) (hl : S.length < 64) : Okv (f_X12_expression_46 k12 (f_X12_expression_23 k12 (N + 1)) y s) (FB sd σc v e) := by
  unfold f_X12_expression_46
  refine Okv.bd ?_
  refine Okv.cv (mr_goesOn_f (h.wr (k := 12) (by unfold wPm; simp) (Or.inr (by decide))).1) (fun s2 h2 => ?_)
  have hb2 : FB sd σc v e s2 := FB.gow h2.1 h2.2 (by rw [rI_k (by decide)]; exact h.2)
  have x2 := (hx.wr (k := 12) (v := s.1 236 12 + 1) (by decide) (by decide)).gow h2.2
  rw [x2.1, nIt (by omega)]
  refine Okv.t (by omega) (Okv.bd (Okv.bd ?_))
  have hF := (hb2.wr (a := 263) (k := (S.length : Int).toNat) (x := 6) (by unfold wPm; simp) (Or.inl (by decide)))
  exact ⟨_, ex23_f (hF.wr (a := 236) (k := 43) (by unfold wPm; simp) (Or.inr (by decide))).1, hF.wr (a := 236) (k := 43) (by unfold wPm; simp) (Or.inr (by decide))⟩
theorem ex204_f {e : FA} {v : Int32} {q0 : Nat} {S : List Nat} {c : COD} (hq : 420 * sd ≤ q0) (hsd : sd ≤ 1) (h : FB sd σc v e s) (hx : XS q0 S c s) (hl : S.length < 64) (hp : q0 + c.length + S.length ≤ 420 * sd + 401) : Okv (f_X12_expression_204 s) (FB sd σc v e) := by
  unfold f_X12_expression_204
  exact Okv.cv (mr_out0 hq hsd hl hp hx) (fun s2 h2 => Okv.ret ⟨h.1.fr h2.2 (fun _ _ => wOut_P hq) (fun _ _ => rfl) (by unfold wOut; simp) (by unfold wOut; simp) (by unfold wOut; simp), by rw [h2.2.1 236 33 (by unfold wOut; simp)]; exact h.2⟩)
theorem ex96_f {e : FA} {v : Int32} {k12 : Int32 → Int32 → HS → Option HS} {N q0 : Nat} {y : Int32} {S : List Nat} {c : COD} (hq : 420 * sd ≤ q0) (hsd : sd ≤ 1) (h : FB sd σc v e s) (hx : XS q0 S c s) (hl : S.length < 64) (hp : q0 + c.length + S.length ≤ 420 * sd + 401) : Okv (f_X12_expression_96 k12 (N + 1) y s) (FB sd σc v e) := by
  show Okv (b_X12_expression_96 k12 (f_X12_expression_96 k12 N) y s) _
  unfold b_X12_expression_96 f_X12_expression_145 f_X12_expression_186
  refine Okv.cle (mr_is_f h.1) (Okv.t rfl (Okv.cle (mr_is_f h.1) (Okv.t rfl (Okv.cle (mr_is_f h.1) (Okv.t rfl (Okv.cle (mr_is_f h.1) (Okv.t rfl (Okv.cle (mr_is_f h.1) (Okv.t rfl (Okv.t rfl ?_))))))))))
  exact Okv.i (fun _ => Okv.cve (mr_fail_f h.1) (ex204_f hq hsd h hx hl hp)) (fun _ => ex204_f hq hsd h hx hl hp)
def XM (b : Nat → Int32) (n sd : Nat) (σc σ : HS) (q0 t : Nat) (S : List Nat) (c : COD) (s : HS) : Prop := RZ b n sd σc t s ∧ XS q0 S c s ∧ s.1 236 12 = nI (depS S) ∧ wfS S ∧ depS S ≤ 6 ∧ q0 + c.length + S.length ≤ 420 * sd + t ∧ frm (wXm sd q0) wl0 σ s
def KXm (b : Nat → Int32) (n sd : Nat) (σc σ : HS) (q0 t : Nat) (a : Nat × COD) (s : HS) : Prop := t < a.1 ∧ RZ b n sd σc a.1 s ∧ s.1 236 39 = nI (q0 + a.2.length) ∧ seg s 261 q0 (cK a.2) ∧ seg s 262 q0 (cV a.2) ∧ s.1 236 12 = 0 ∧ q0 + a.2.length ≤ 420 * sd + a.1 ∧ frm (wXm sd q0) wl0 σ s
theorem XM.v {q0 t : Nat} {S : List Nat} {c : COD} (h : XM b n sd σc σ q0 t S c s) : s.1 236 33 = σ.1 236 33 := h.2.2.2.2.2.2.1 236 33 (by unfold wXm; simp)
theorem mr_goesOn2 {t : Nat} (hT : TKA b n σc) (h : RZ b n sd σc t s) (hk : kdT b n t ≠ 0) : Okv (f_X12_goesOn s) (PostM (fun e s1 => FLM sd σc e s1 ∧ frm wGo wl0 s s1) (advS (plI b n) t) (fun t1 s1 => t1 = t + 1 ∧ t < 400 ∧ RZ b n sd σc (t + 1) s1 ∧ s1 = hI s 236 11 (nI (t + 1)))) := by
  refine (mr_goesOn hT h hk).fr (fun s1 e hs => ?_)
  revert hs
  cases advS (plI b n) t with
  | error e1 => exact fun hs => ⟨hs, fr_goesOn s1 e⟩
  | ok a => exact fun hs => hs
theorem mr_fail2 {t : Nat} {x : Int32} (hT : TKA b n σc) (h : RZ b n sd σc t s) (hx : 0 < x.toInt) : Okv (f_X12_fail x s) (fun s1 => FLM sd σc (x.toInt, plI b n t) s1 ∧ frm wGo wl0 s s1) := (mr_fail hT h hx).fr (fun s1 e hs => ⟨hs, (fr_fail s1 e).mono (fun _ _ => wFm_Go) (fun _ e => e)⟩)
def unS (b : Nat → Int32) (n t : Nat) (c : COD) : Except FA (Nat × COD) := if kdT b n t = 2 then advS (plI b n) t >>= fun t1 => .ok (t1, c ++ [(0, vlT b n t)]) else if 31 ≤ kdT b n t ∧ kdT b n t ≤ 39 then advS (plI b n) t >>= fun t1 => .ok (t1, c ++ [(1, kdT b n t - 31)]) else .error (1, plI b n t)
theorem un_go {q0 t k : Nat} {v : Int} {S : List Nat} {c : COD} {x1 x2 : Int32} (hT : TKA b n σc) (hsd : sd ≤ 1) (hq : 420 * sd ≤ q0) (h : XM b n sd σc σ q0 t S c s) (hk : kdT b n t ≠ 0) (h1 : x1.toInt = k) (h2 : x2.toInt = v) : Okv (Cv (f_X12_emit x1 x2 s) fun σ3 => Cv (f_X12_goesOn σ3) fun σ5 => some σ5) (PostM (FB sd σc (σ.1 236 33)) (advS (plI b n) t >>= fun t1 => .ok (t1, c ++ [(k, v)])) (fun a s1 => a.1 = t + 1 ∧ t < 400 ∧ XM b n sd σc σ q0 (t + 1) S a.2 s1)) := by
  have ht := h.1.2.1
  have hv := h.v
  obtain ⟨hR, hx, hd, hw, h6, hb, hf⟩ := h
  refine Okv.cve (e_emM hx.2.2.1 (by omega)) ?_
  have fe : frm (wOut sd q0) wl0 s (emM (q0 + c.length) x1 x2 s) := emM_fr (by omega) (by omega)
  have r2 : RZ b n sd σc t (emM (q0 + c.length) x1 x2 s) := hR.fr fe (fun _ _ => wOut_P hq) (fun _ _ => rfl) (by unfold wOut; simp) (by unfold wOut; simp)
  have x2' := hx.em h1 h2
  refine MB (mr_goesOn2 hT r2 hk) (fun e s1 hF => Okv.ret (FB.gow hF.1 hF.2 (by rw [fe.1 236 33 (by unfold wOut; simp)]; exact hv))) (fun t1 s1 _ h3 => Okv.ret ?_)
  obtain ⟨rfl, h4, r3, e3⟩ := h3
  show t + 1 = t + 1 ∧ t < 400 ∧ XM b n sd σc σ q0 (t + 1) S (c ++ [(k, v)]) s1
  refine ⟨rfl, h4, r3, ?_, ?_, hw, h6, ?_, ?_⟩
  · rw [e3]; exact x2'.wr (by decide) (by decide)
  · rw [e3, rI_k (by decide), fe.1 236 12 (by unfold wOut; simp)]; exact hd
  · rw [List.length_append]; simp; omega
  · rw [e3]; exact (hf.tr (fe.mono (fun _ _ => wOut_X) (fun _ e => e))).I (by unfold wXm; simp)
theorem mr_unit {q0 t : Nat} {S : List Nat} {c : COD} (hT : TKA b n σc) (hsd : sd ≤ 1) (hq : 420 * sd ≤ q0) (h : XM b n sd σc σ q0 t S c s) : Okv (f_X12_unit s) (PostM (FB sd σc (σ.1 236 33)) (unS b n t c) (fun a s1 => a.1 = t + 1 ∧ t < 400 ∧ XM b n sd σc σ q0 (t + 1) S a.2 s1)) := by
  have ht := h.1.2.1
  have tk := RZ.tk hT h.1
  unfold f_X12_unit unS
  refine Okv.cle (mr_is hT h.1) ?_
  by_cases c2 : kdT b n t = 2
  · rw [if_pos c2, show (decide (kdT b n t = (2 : Int32).toInt)) = true from decide_eq_true c2, h.1.2.2.2.1, nIt (by omega), Int.toNat_natCast]
    refine Okv.f (by decide) (Okv.t (by omega) ?_)
    exact un_go (k := 0) hT hsd hq h (by rw [c2]; decide) rfl (tk.2.2.1 c2)
  · rw [if_neg c2, show (decide (kdT b n t = (2 : Int32).toInt)) = false from decide_eq_false c2, h.1.2.2.2.1, nIt (by omega), Int.toNat_natCast, tk.1]
    refine Okv.t (by decide) (Okv.t h.1.2.2.2.2 (Okv.t (by omega) ?_))
    have bad : Okv (f_X12_unit_88 s) (FB sd σc (σ.1 236 33) (1, plI b n t)) := Okv.cv (mr_fail2 (x := 1) hT h.1 (by decide)) (fun s1 hF => Okv.ret (FB.gow hF.1 hF.2 h.v))
    by_cases c3 : 31 ≤ kdT b n t ∧ kdT b n t ≤ 39
    · rw [if_pos c3]
      refine Okv.f (by omega) (Okv.t (by omega) (Okv.f (by omega) (Okv.t (by omega) ?_)))
      refine un_go (k := 1) hT hsd hq h (by omega) rfl ?_
      obtain ⟨k, k40, -, hk⟩ := kd_vK b n t
      rw [show s.1 239 t = nI k from Int32.toInt_inj.mp (by rw [tk.1, hk, nIt (by omega)]), show nI k - 31 = nI (k - 31) from nI_sub (a := 31) (b := k) (by omega) (by omega), nIt (by omega), hk]
      omega
    · rw [if_neg c3]
      exact Okv.i (fun _ => bad) (fun e1 => Okv.t (by omega) (Okv.i (fun _ => bad) (fun e2 => absurd ⟨by omega, by omega⟩ c3)))
theorem mr_ex {q0 t0 : Nat} (hT : TKA b n σc) (hsd : sd ≤ 1) (hq : 420 * sd ≤ q0) : ∀ d : Nat, d ≤ 401 →
    (∀ (t : Nat) (S : List Nat) (c : COD) (s : HS) (N M : Nat), 401 - t ≤ d → t ≤ 400 → d < N → d < M → t0 ≤ t → XM b n sd σc σ q0 t S c s → Okv (f_X12_expression_23 (f_X12_expression_12 M) N 0 s) (PostM (FB sd σc (σ.1 236 33)) (eX (kdT b n) (vlT b n) (plI b n) true t S c) (KXm b n sd σc σ q0 t0))) ∧
    (∀ (t : Nat) (S : List Nat) (c : COD) (s : HS) (N M : Nat), 401 - t ≤ d → t ≤ 400 → d < N → d < M → t0 < t → XM b n sd σc σ q0 t S c s → Okv (f_X12_expression_96 (f_X12_expression_12 M) N 0 s) (PostM (FB sd σc (σ.1 236 33)) (eX (kdT b n) (vlT b n) (plI b n) false t S c) (KXm b n sd σc σ q0 t0))) := by
  intro d
  induction d with
  | zero => exact fun _ => ⟨fun t _ _ _ _ _ h1 h2 => absurd h1 (by omega), fun t _ _ _ _ _ h1 h2 => absurd h1 (by omega)⟩
  | succ d ih =>
    intro hd
    obtain ⟨ihA, ihB⟩ := ih (by omega)
    constructor
    · intro t S c s N M h1 h2 hN hM ht h
      obtain ⟨N, rfl⟩ : ∃ q, N = q + 1 + 1 := ⟨N - 2, by omega⟩
      have hlen := (wfS_len h.2.2.2.1).2.2
      have h6 := h.2.2.2.2.1
      have hb := h.2.2.2.2.2.1
      show Okv (b_X12_expression_23 (f_X12_expression_12 M) (f_X12_expression_23 (f_X12_expression_12 M) (N + 1)) 0 s) _
      unfold b_X12_expression_23
      refine Okv.cle (mr_is hT h.1) ?_
      rw [eX_t h2]
      by_cases c6 : kdT b n t = 6
      · rw [if_pos c6, show (decide (kdT b n t = (6 : Int32).toInt)) = true from decide_eq_true c6, h.2.2.1, nIt (by omega)]
        refine Okv.f (by decide) ?_
        by_cases cd : depS S = 6
        · rw [if_pos cd]
          refine Okv.t (by omega) (Okv.cv (mr_fail2 (x := 2) hT h.1 (by decide)) (fun s2 hF => ?_))
          exact ex46_f (FB.gow hF.1 hF.2 h.v) (h.2.1.gow hF.2) (by omega)
        · rw [if_neg cd]
          refine Okv.f (by omega) ?_
          unfold f_X12_expression_46
          rw [h.2.2.1, nI_1]
          refine Okv.bd ?_
          generalize hs1 : hI s 236 12 (nI (depS S + 1)) = s1
          have r1 : RZ b n sd σc t s1 := by rw [← hs1]; exact h.1.wr (by unfold wPm; simp) (Or.inr (by decide))
          have x1 : XS q0 S c s1 := by rw [← hs1]; exact h.2.1.wr (by decide) (by decide)
          have f1 : frm (wXm sd q0) wl0 σ s1 := by rw [← hs1]; exact h.2.2.2.2.2.2.I (by unfold wXm; simp)
          have d1 : s1.1 236 12 = nI (depS S + 1) := by rw [← hs1]; exact rI_s
          refine MB (mr_goesOn2 hT r1 (by rw [c6]; decide)) (fun e s3 hF => ?_) (fun t1 s3 _ h3 => ?_)
          · have x3 := x1.gow hF.2
            rw [x3.1, nIt (by omega)]
            refine Okv.t (by omega) (Okv.bd (Okv.bd ?_))
            have hF' := ((FB.gow hF.1 hF.2 (f1.1 236 33 (by unfold wXm; simp))).wr (a := 263) (k := (S.length : Int).toNat) (x := 6) (by unfold wPm; simp) (Or.inl (by decide)))
            exact ⟨_, ex23_f (hF'.wr (a := 236) (k := 43) (by unfold wPm; simp) (Or.inr (by decide))).1, hF'.wr (a := 236) (k := 43) (by unfold wPm; simp) (Or.inr (by decide))⟩
          · obtain ⟨rfl, h4, r3, e3⟩ := h3
            have x3 : XS q0 S c s3 := by rw [e3]; exact x1.wr (by decide) (by decide)
            have d3 : s3.1 236 12 = nI (depS S + 1) := by rw [e3, rI_k (by decide)]; exact d1
            have f3 : frm (wXm sd q0) wl0 σ s3 := by rw [e3]; exact f1.I (by unfold wXm; simp)
            rw [x3.1, nIt (by omega), Int.toNat_natCast]
            refine Okv.t (by omega) (Okv.bd (Okv.bd ?_))
            rw [rI_i (show (236 : Nat) ≠ 263 by decide), x3.1, nI_1]
            refine ihA (t + 1) (6 :: S) c _ (N + 1) M (by omega) (by omega) (by omega) (by omega) (by omega) ⟨?_, ⟨rI_s, ⟨?_, ?_⟩, ?_, ?_, ?_⟩, ?_, ⟨h.2.2.2.1, Or.inl rfl⟩, ?_, ?_, ?_⟩
            · exact (r3.wr (by unfold wPm; simp) (Or.inl (by decide))).wr (by unfold wPm; simp) (Or.inr (by decide))
            · rw [rI_i (by decide), rI_s]; rfl
            · exact x3.2.1.eq (fun i hi => by rw [rI_i (by decide), rI_k (by omega)])
            · rw [rI_k (by decide), rI_i (by decide)]; exact x3.2.2.1
            · exact x3.2.2.2.1.same (fun q _ _ => by rw [rI_i (by decide), rI_i (by decide)])
            · exact x3.2.2.2.2.same (fun q _ _ => by rw [rI_i (by decide), rI_i (by decide)])
            · rw [rI_k (by decide), rI_i (by decide), depS_open]; exact d3
            · rw [depS_open]; omega
            · simp only [List.length_cons]; omega
            · exact (f3.I (by unfold wXm; simp)).I (by unfold wXm; simp)
      · rw [if_neg c6, show (decide (kdT b n t = (6 : Int32).toInt)) = false from decide_eq_false c6]
        refine Okv.t (by decide) ?_
        have eq : (if kdT b n t = 2 then advS (plI b n) t >>= fun t1 => eX (kdT b n) (vlT b n) (plI b n) false t1 S (c ++ [(0, vlT b n t)]) else if 31 ≤ kdT b n t ∧ kdT b n t ≤ 39 then advS (plI b n) t >>= fun t1 => eX (kdT b n) (vlT b n) (plI b n) false t1 S (c ++ [(1, kdT b n t - 31)]) else .error (1, plI b n t)) = (unS b n t c >>= fun a => eX (kdT b n) (vlT b n) (plI b n) false a.1 S a.2) := by
          unfold unS
          by_cases e2 : kdT b n t = 2
          · rw [if_pos e2, if_pos e2]
            cases advS (plI b n) t <;> rfl
          · rw [if_neg e2, if_neg e2]
            by_cases e3 : 31 ≤ kdT b n t ∧ kdT b n t ≤ 39
            · rw [if_pos e3, if_pos e3]
              cases advS (plI b n) t <;> rfl
            · rw [if_neg e3, if_neg e3]; rfl
        rw [eq]
        refine MB (mr_unit hT hsd hq h) (fun e s3 hF => Okv.t (by rw [hF.1.1]; exact hF.1.2.1) (Okv.ret hF)) (fun a s3 _ h3 => ?_)
        obtain ⟨e1, h4, hx⟩ := h3
        refine Okv.f (by rw [hx.1.2.2.2.2]; omega) ?_
        rw [e1]
        exact ihB (t + 1) S a.2 s3 5000 M (by omega) (by omega) (by omega) (by omega) (by omega) hx
    · intro t S c s N M h1 h2 hN hM ht h
      obtain ⟨N, rfl⟩ : ∃ q, N = q + 1 + 1 := ⟨N - 2, by omega⟩
      obtain ⟨M, rfl⟩ : ∃ q, M = q + 1 := ⟨M - 1, by omega⟩
      have hlen := (wfS_len h.2.2.2.1).2.2
      have h6 := h.2.2.2.2.1
      have hb := h.2.2.2.2.2.1
      have tk := RZ.tk hT h.1
      show Okv (b_X12_expression_96 (f_X12_expression_12 (M + 1)) (f_X12_expression_96 (f_X12_expression_12 (M + 1)) (N + 1)) 0 s) _
      unfold b_X12_expression_96
      refine Okv.cle (mr_is hT h.1) ?_
      rw [eX_f h2]
      -- an operator pushed
      have op : ∀ (bs : Bool) (v0 : Int32), Okv (f_X12_comesOut v0 s) (fun s' => XS q0 (outS bs S c).1 (outS bs S c).2 s' ∧ frm (wOut sd q0) wl0 s s') → ((bs = false ∧ (kdT b n t = 8 ∨ kdT b n t = 9)) ∨ (bs = true ∧ (kdT b n t = 10 ∨ kdT b n t = 15))) → Okv (f_X12_expression_234 (f_X12_expression_12 (M + 1)) 0 1 v0 s) (PostM (FB sd σc (σ.1 236 33)) (advS (plI b n) t >>= fun t1 => eX (kdT b n) (vlT b n) (plI b n) true t1 ((kdT b n t).toNat :: (outS bs S c).1) (outS bs S c).2) (KXm b n sd σc σ q0 t0)) := by
        intro bs v0 hco hk
        obtain ⟨o1, o2, o3, o4, o5⟩ := outS_wf (bs := bs) (c := c) h.2.2.2.1
        have ol := (wfS_len o1).2.2
        unfold f_X12_expression_234
        refine Okv.cv hco (fun s2 h2' => ?_)
        obtain ⟨x2, f2⟩ := h2'
        have r2 : RZ b n sd σc t s2 := h.1.fr f2 (fun _ _ => wOut_P hq) (fun _ _ => rfl) (by unfold wOut; simp) (by unfold wOut; simp)
        have d2 : s2.1 236 12 = nI (depS S) := by rw [f2.1 236 12 (by unfold wOut; simp)]; exact h.2.2.1
        generalize hS1 : (outS bs S c).1 = S1 at *
        generalize hc1 : (outS bs S c).2 = c1 at *
        rw [r2.2.2.2.1, x2.1, nIt (by omega), nIt (by omega), Int.toNat_natCast, Int.toNat_natCast]
        refine Okv.t (by omega) (Okv.t (by omega) (Okv.bd (Okv.bd ?_)))
        rw [rI_i (show (236 : Nat) ≠ 263 by decide), x2.1, nI_1]
        generalize hs4 : hI (hI s2 263 S1.length (s2.1 239 t)) 236 43 (nI (S1.length + 1)) = s4
        have r4 : RZ b n sd σc t s4 := by rw [← hs4]; exact (r2.wr (by unfold wPm; simp) (Or.inl (by decide))).wr (by unfold wPm; simp) (Or.inr (by decide))
        have x4 : XS q0 ((kdT b n t).toNat :: S1) c1 s4 := by
          rw [← hs4]
          refine ⟨rI_s, ⟨?_, x2.2.1.eq (fun i hi => by rw [rI_i (by decide), rI_k (by omega)])⟩, by rw [rI_k (by decide), rI_i (by decide)]; exact x2.2.2.1, x2.2.2.2.1.same (fun q _ _ => by rw [rI_i (by decide), rI_i (by decide)]), x2.2.2.2.2.same (fun q _ _ => by rw [rI_i (by decide), rI_i (by decide)])⟩
          rw [rI_i (by decide), rI_s, (RZ.tk hT r2).1]
          omega
        have d4 : s4.1 236 12 = nI (depS S) := by rw [← hs4, rI_k (by decide), rI_i (by decide)]; exact d2
        have f4 : frm (wXm sd q0) wl0 σ s4 := by rw [← hs4]; exact ((h.2.2.2.2.2.2.tr (f2.mono (fun _ _ => wOut_X) (fun _ e => e))).I (by unfold wXm; simp)).I (by unfold wXm; simp)
        refine MB (mr_goesOn2 hT r4 (by omega)) (fun e s5 hF => ⟨_, ex12_f hF.1, FB.gow hF.1 hF.2 (f4.1 236 33 (by unfold wXm; simp))⟩) (fun t1 s5 _ h5 => ?_)
        obtain ⟨rfl, h4, r5, e5⟩ := h5
        show Okv (b_X12_expression_12 (f_X12_expression_12 M) 0 1 s5) _
        unfold b_X12_expression_12
        refine Okv.f (by decide) (Okv.t r5.2.2.2.2 ?_)
        refine ihA (t + 1) ((kdT b n t).toNat :: S1) c1 s5 5000 M (by omega) (by omega) (by omega) (by omega) (by omega) ⟨r5, by rw [e5]; exact x4.wr (by decide) (by decide), ?_, ⟨o1, Or.inr ?_⟩, ?_, ?_, by rw [e5]; exact f4.I (by unfold wXm; simp)⟩
        · rw [e5, rI_k (by decide), d4, depS_op (by omega), o2]
        · rcases hk with ⟨hb1, hk⟩ | ⟨hb1, hk⟩
          · exact Or.inl ⟨by omega, o3 hb1⟩
          · exact Or.inr ⟨by omega, o4 hb1⟩
        · rw [depS_op (by omega), o2]; exact h6
        · simp only [List.length_cons]; omega
      -- behind a unit that no ) closes
      have t145 : Okv (f_X12_expression_145 (f_X12_expression_12 (M + 1)) 0 s) (PostM (FB sd σc (σ.1 236 33)) (if kdT b n t = 8 ∨ kdT b n t = 9 then advS (plI b n) t >>= fun t1 => eX (kdT b n) (vlT b n) (plI b n) true t1 ((kdT b n t).toNat :: (outS false S c).1) (outS false S c).2 else if kdT b n t = 10 ∨ kdT b n t = 15 then advS (plI b n) t >>= fun t1 => eX (kdT b n) (vlT b n) (plI b n) true t1 ((kdT b n t).toNat :: (outS true S c).1) (outS true S c).2 else if 0 < depS S then .error (1, plI b n t) else .ok (t, (outS false S c).2)) (KXm b n sd σc σ q0 t0)) := by
        have isk : ∀ x : Int32, ∀ k : Int, x.toInt = k → f_X12_is x s = some (bI (decide (kdT b n t = k)), s) := fun x k hx => by rw [mr_is hT h.1, hx]
        have i8 := isk 8 8 rfl
        have i9 := isk 9 9 rfl
        have i10 := isk 10 10 rfl
        have i15 := isk 15 15 rfl
        unfold f_X12_expression_145
        by_cases cw : kdT b n t = 8 ∨ kdT b n t = 9
        · rw [if_pos cw]
          have w181 : Okv (f_X12_expression_181 (f_X12_expression_12 (M + 1)) 0 s) (PostM (FB sd σc (σ.1 236 33)) (advS (plI b n) t >>= fun t1 => eX (kdT b n) (vlT b n) (plI b n) true t1 ((kdT b n t).toNat :: (outS false S c).1) (outS false S c).2) (KXm b n sd σc σ q0 t0)) := by
            unfold f_X12_expression_181 f_X12_expression_186
            rw [decide_eq_false (show ¬ kdT b n t = 10 by omega)] at i10
            rw [decide_eq_false (show ¬ kdT b n t = 15 by omega)] at i15
            exact Okv.f (by decide) (Okv.cle i10 (Okv.t (by decide) (Okv.cle i15 (Okv.t (by decide) (op false 0 (mr_out0 hq hsd (by omega) (by omega) h.2.1) (Or.inl ⟨rfl, cw⟩))))))
          by_cases c8 : kdT b n t = 8
          · rw [decide_eq_true c8] at i8
            exact Okv.cle i8 (Okv.f (by decide) w181)
          · rw [decide_eq_false c8] at i8
            rw [decide_eq_true (show kdT b n t = 9 by omega)] at i9
            exact Okv.cle i8 (Okv.t (by decide) (Okv.cle i9 (Okv.f (by decide) w181)))
        · rw [if_neg cw]
          rw [decide_eq_false (show ¬ kdT b n t = 8 by omega)] at i8
          rw [decide_eq_false (show ¬ kdT b n t = 9 by omega)] at i9
          refine Okv.cle i8 (Okv.t (by decide) (Okv.cle i9 (Okv.t (by decide) ?_)))
          by_cases cs : kdT b n t = 10 ∨ kdT b n t = 15
          · rw [if_pos cs]
            have o1 := op true 1 (mr_out1 hq hsd (by omega) (by omega) h.2.1) (Or.inr ⟨rfl, cs⟩)
            by_cases c10 : kdT b n t = 10
            · rw [decide_eq_true c10] at i10
              refine Okv.cle i10 (Okv.f (by decide) ?_)
              unfold f_X12_expression_181 f_X12_expression_186
              exact Okv.f (by decide) (Okv.cle i10 (Okv.f (by decide) o1))
            · rw [decide_eq_false c10] at i10
              rw [decide_eq_true (show kdT b n t = 15 by omega)] at i15
              refine Okv.cle i10 (Okv.t (by decide) (Okv.cle i15 (Okv.f (by decide) ?_)))
              unfold f_X12_expression_181 f_X12_expression_186
              exact Okv.f (by decide) (Okv.cle i10 (Okv.t (by decide) (Okv.cle i15 (Okv.f (by decide) o1))))
          · rw [if_neg cs]
            rw [decide_eq_false (show ¬ kdT b n t = 10 by omega)] at i10
            rw [decide_eq_false (show ¬ kdT b n t = 15 by omega)] at i15
            refine Okv.cle i10 (Okv.t (by decide) (Okv.cle i15 (Okv.t (by decide) ?_)))
            unfold f_X12_expression_186
            rw [h.2.2.1, nIt (by omega)]
            refine Okv.t rfl ?_
            by_cases cd : 0 < depS S
            · rw [if_pos cd]
              refine Okv.t (by show (0 : Int) < ((depS S : Nat) : Int); omega) (Okv.cv (mr_fail2 (x := 1) hT h.1 (by decide)) (fun s2 hF => ?_))
              exact ex204_f hq hsd (FB.gow hF.1 hF.2 h.v) (h.2.1.gow hF.2) (by omega) (by omega)
            · rw [if_neg cd]
              refine Okv.f (by show ¬ (0 : Int) < ((depS S : Nat) : Int); omega) ?_
              unfold f_X12_expression_204
              refine Okv.cv (mr_out0 hq hsd (by omega) (by omega) h.2.1) (fun s2 h2' => Okv.ret ?_)
              obtain ⟨x2, f2⟩ := h2'
              obtain ⟨o1, o2, o3, o4, o5⟩ := outS_wf (bs := false) (c := c) h.2.2.2.1
              refine ⟨ht, h.1.fr f2 (fun _ _ => wOut_P hq) (fun _ _ => rfl) (by unfold wOut; simp) (by unfold wOut; simp), x2.2.2.1, x2.2.2.2.1, x2.2.2.2.2, ?_, ?_, h.2.2.2.2.2.2.tr (f2.mono (fun _ _ => wOut_X) (fun _ e => e))⟩
              · rw [f2.1 236 12 (by unfold wOut; simp), h.2.2.1, show depS S = 0 by omega]; rfl
              · show q0 + (outS false S c).2.length ≤ 420 * sd + t
                omega
      by_cases c7 : kdT b n t = 7
      · rw [show (decide (kdT b n t = (7 : Int32).toInt)) = true from decide_eq_true c7, h.2.2.1, nIt (by omega)]
        refine Okv.f (by decide) ?_
        by_cases cd : 0 < depS S
        · rw [if_pos (show kdT b n t = 7 ∧ 0 < depS S from ⟨c7, cd⟩)]
          refine Okv.t (by show (0 : Int) < ((depS S : Nat) : Int); omega) (Okv.cv (mr_out0 hq hsd (by omega) (by omega) h.2.1) (fun s2 h2' => ?_))
          obtain ⟨x2, f2⟩ := h2'
          obtain ⟨o1, o2, o3, o4, o5⟩ := outS_wf (bs := false) (c := c) h.2.2.2.1
          have r2 : RZ b n sd σc t s2 := h.1.fr f2 (fun _ _ => wOut_P hq) (fun _ _ => rfl) (by unfold wOut; simp) (by unfold wOut; simp)
          have d2 : s2.1 236 12 = nI (depS S) := by rw [f2.1 236 12 (by unfold wOut; simp)]; exact h.2.2.1
          have F2 : frm (wXm sd q0) wl0 σ s2 := h.2.2.2.2.2.2.tr (f2.mono (fun _ _ => wOut_X) (fun _ e => e))
          have o3 := o3 rfl
          generalize hS1 : (outS false S c).1 = S1 at *
          generalize hc1 : (outS false S c).2 = c1 at *
          cases S1 with
          | nil =>
            exfalso
            have e0 : depS ([] : List Nat) = 0 := rfl
            rw [e0] at o2
            omega
          | cons w S2 =>
            have hw : w = 6 := o3
            subst hw
            rw [depS_open] at o2
            simp only [List.length_cons] at o5
            have h43 : s2.1 236 43 = nI (S2.length + 1) := x2.1
            have em : nI (S2.length + 1) - 1 = nI S2.length := (nI_sub (a := 1) (b := S2.length + 1) (by omega) (by omega)).trans (congrArg nI (by omega))
            have em2 : nI (depS S) - 1 = nI (depS S2) := (nI_sub (a := 1) (b := depS S) (by omega) (by omega)).trans (congrArg nI (by omega))
            rw [h43, em]
            refine Okv.bd (Okv.bd ?_)
            rw [rI_k (show (12 : Nat) ≠ 43 by decide), d2, em2]
            generalize hs4 : hI (hI s2 236 43 (nI S2.length)) 236 12 (nI (depS S2)) = s4
            have r4 : RZ b n sd σc t s4 := by rw [← hs4]; exact (r2.wr (by unfold wPm; simp) (Or.inr (by decide))).wr (by unfold wPm; simp) (Or.inr (by decide))
            have x4 : XS q0 S2 c1 s4 := by
              rw [← hs4]
              exact ⟨by rw [rI_k (by decide), rI_s], x2.2.1.2.eq (fun i hi => by rw [rI_i (by decide), rI_i (by decide)]), by rw [rI_k (by decide), rI_k (by decide)]; exact x2.2.2.1, x2.2.2.2.1.same (fun q _ _ => by rw [rI_i (by decide), rI_i (by decide)]), x2.2.2.2.2.same (fun q _ _ => by rw [rI_i (by decide), rI_i (by decide)])⟩
            have d4 : s4.1 236 12 = nI (depS S2) := by rw [← hs4]; exact rI_s
            have f4 : frm (wXm sd q0) wl0 σ s4 := by rw [← hs4]; exact (F2.I (by unfold wXm; simp)).I (by unfold wXm; simp)
            have l2 := (wfS_len o1.1).2.2
            show Okv _ (PostM _ (advS (plI b n) t >>= fun t1 => eX (kdT b n) (vlT b n) (plI b n) false t1 S2 c1) _)
            refine MB (mr_goesOn2 hT r4 (by rw [c7]; decide)) (fun e s5 hF => ?_) (fun t1 s5 _ h5 => ?_)
            · exact ex96_f hq hsd (FB.gow hF.1 hF.2 (f4.1 236 33 (by unfold wXm; simp))) (x4.gow hF.2) (by omega) (by omega)
            · obtain ⟨rfl, h4, r5, e5⟩ := h5
              refine ihB (t + 1) S2 c1 s5 (N + 1) (M + 1) (by omega) (by omega) (by omega) (by omega) (by omega) ⟨r5, by rw [e5]; exact x4.wr (by decide) (by decide), by rw [e5, rI_k (by decide)]; exact d4, o1.1, by omega, by omega, by rw [e5]; exact f4.I (by unfold wXm; simp)⟩
        · rw [if_neg (show ¬ (kdT b n t = 7 ∧ 0 < depS S) from fun e => cd e.2)]
          exact Okv.f (by show ¬ (0 : Int) < ((depS S : Nat) : Int); omega) t145
      · rw [show (decide (kdT b n t = (7 : Int32).toInt)) = false from decide_eq_false c7, if_neg (show ¬ (kdT b n t = 7 ∧ 0 < depS S) from fun e => c7 e.1)]
        exact Okv.t (by decide) t145
theorem mr_exS {q0 t : Nat} (hT : TKA b n σc) (hsd : sd ≤ 1) (hq : 420 * sd ≤ q0) (h : RZ b n sd σc t σ) (h39 : σ.1 236 39 = nI q0) (h12 : σ.1 236 12 = 0) (hb : q0 ≤ 420 * sd + t) : Okv (f_X12_expression σ) (PostM (FB sd σc (σ.1 236 33)) (exS (kdT b n) (vlT b n) (plI b n) t) (KXm b n sd σc σ q0 t)) := by
  have ht := h.2.1
  unfold f_X12_expression
  refine Okv.bd (Okv.bd ?_)
  rw [rI_k (show (12 : Nat) ≠ 43 by decide), h12]
  show Okv (b_X12_expression_12 (f_X12_expression_12 4999) 0 1 (hI σ 236 43 0)) _
  unfold b_X12_expression_12
  have r1 := h.wr (a := 236) (k := 43) (v := 0) (by unfold wPm; simp) (Or.inr (by decide))
  refine Okv.f (by decide) (Okv.t r1.2.2.2.2 ?_)
  refine (mr_ex (t0 := t) hT hsd hq 401 (by omega)).1 t [] [] _ 5000 4999 (by omega) ht (by omega) (by omega) (by omega) ⟨r1, ⟨rI_s, trivial, ?_, seg.nil, seg.nil⟩, ?_, trivial, by decide, by simp; omega, frm.rf.I (by unfold wXm; simp)⟩
  · rw [rI_k (by decide)]; exact h39
  · rw [rI_k (by decide)]; exact h12
theorem mr_ex_f {e : FA} {v : Int32} (h : FB sd σc v e σ) : Okv (f_X12_expression σ) (FB sd σc v e) := by
  unfold f_X12_expression
  refine Okv.bd (Okv.bd ?_)
  have hF := h.wr (a := 236) (k := 43) (x := 0) (by unfold wPm; simp) (Or.inr (by decide))
  exact ⟨_, ex12_f hF.1, hF⟩
end MEL
