/-! the class's expressions -/
def encI (q : OPC) : Int := if q.1 = 0 then q.2 else if q.1 = 1 then -10 - q.2 else 1 - (q.1 : Int)
def enc (c : COD) : List Int := c.map encI
def seg (σ : HS) (a p : Nat) (l : List Int) : Prop := ∀ i, i < l.length → (σ.1 a (p + i)).toInt = l.getD i 0
theorem gD_l {l m : List Int} {i : Nat} (h : i < l.length) : (l ++ m).getD i 0 = l.getD i 0 := by rw [List.getD_eq_getElem?_getD, List.getD_eq_getElem?_getD, List.getElem?_append_left h]
theorem gD_r {l m : List Int} {i : Nat} (h : l.length ≤ i) : (l ++ m).getD i 0 = m.getD (i - l.length) 0 := by rw [List.getD_eq_getElem?_getD, List.getD_eq_getElem?_getD, List.getElem?_append_right h]
theorem seg.app {σ : HS} {a p : Nat} {l m : List Int} (h1 : seg σ a p l) (h2 : seg σ a (p + l.length) m) : seg σ a p (l ++ m) := by
  intro i hi
  rw [List.length_append] at hi
  by_cases c : i < l.length
  · rw [gD_l c]; exact h1 i c
  · rw [gD_r (by omega), show p + i = p + l.length + (i - l.length) by omega]
    exact h2 _ (by omega)
theorem seg.one {σ : HS} {a p : Nat} {x : Int} (h : (σ.1 a p).toInt = x) : seg σ a p [x] := by
  intro i hi
  have : i = 0 := by simpa using hi
  subst this
  simpa using h
theorem seg.nil {σ : HS} {a p : Nat} : seg σ a p [] := fun i hi => absurd hi (by simp)
theorem seg.same {σ s : HS} {a p : Nat} {l : List Int} (h : seg σ a p l) (e : ∀ q, p ≤ q → q < p + l.length → s.1 a q = σ.1 a q) : seg s a p l := fun i hi => by rw [e _ (by omega) (by omega)]; exact h i hi
theorem enc_len {c : COD} : (enc c).length = c.length := List.length_map _
theorem enc_app {c d : COD} : enc (c ++ d) = enc c ++ enc d := List.map_append
def wX (tx a k : Nat) : Bool := (a == 1 && (k == 5 || k == 6 || k == 7)) || (a == tx && k == 8) || a == tx + 11
theorem wX_no {tx a k : Nat} (h : wP tx a k = false) : wX tx a k = false := by
  unfold wP at h
  unfold wX
  simp only [Bool.or_eq_false_iff, beq_eq_false_iff_ne, ne_eq, Bool.and_eq_false_iff, decide_eq_false_iff_not] at h ⊢
  refine ⟨⟨Or.inl h.1, Or.inl ?_⟩, ?_⟩ <;> omega
theorem wTk_X {tx a k : Nat} (h : wX tx a k = false) : wTk a k = false := by
  unfold wX at h
  unfold wTk
  simp only [Bool.or_eq_false_iff] at h
  exact h.1.1
theorem wTk_x {tx k : Nat} (h : 30 ≤ tx) : wTk tx k = false := wx_no (f := fun k => k == 5 || k == 6 || k == 7) h
section XRS
variable {b : Nat → Int32} {n tx : Nat} {σc σ : HS}
def txk (tx : Nat) : Prop := tx = 30 ∨ tx = 43
theorem txk.al (h : txk tx) : (Int32.ofNat (al (tx + 11))).toInt = 408 := by rcases h with rfl | rfl <;> rfl
theorem txk.lo (h : txk tx) : 30 ≤ tx := by rcases h with rfl | rfl <;> omega
def wEm (tx a k : Nat) : Bool := (a == tx && k == 8) || a == tx + 11
theorem wEm_no {tx a k : Nat} (h : wP tx a k = false) : wEm tx a k = false := by
  have := wX_no h
  unfold wX at this
  unfold wEm
  simp only [Bool.or_eq_false_iff] at this ⊢
  exact ⟨this.1.2, this.2⟩
theorem wEm_X {tx a k : Nat} (h : wX tx a k = false) : wEm tx a k = false := by
  unfold wX at h
  unfold wEm
  simp only [Bool.or_eq_false_iff] at h ⊢
  exact ⟨h.1.2, h.2⟩
theorem wEm_1 {k : Nat} (h : txk tx) : wEm tx 1 k = false := by rcases h with rfl | rfl <;> rfl
def emS (tx p : Nat) (x : Int32) (σ : HS) : HS := hI (hI σ (tx + 11) p x) tx 8 (nI (p + 1))
theorem emS_fr {p : Nat} {x : Int32} : frm (wEm tx) wl0 σ (emS tx p x σ) := (frm.rf.I (by unfold wEm; simp)).I (by unfold wEm; simp)
theorem emS_8 {p : Nat} {x : Int32} : (emS tx p x σ).1 tx 8 = nI (p + 1) := rI_s
theorem emS_at {p : Nat} {x : Int32} : (emS tx p x σ).1 (tx + 11) p = x := by unfold emS; rw [rI_i (by omega), rI_s]
theorem emS_ne {p q : Nat} {x : Int32} (h : q ≠ p) : (emS tx p x σ).1 (tx + 11) q = σ.1 (tx + 11) q := by unfold emS; rw [rI_i (by omega), rI_k h]
theorem e_emit {p : Nat} {x : Int32} (htx : txk tx) (hp : σ.1 tx 8 = nI p) (h : p < 408) : f_X10_emit tx x σ = some (emS tx p x σ) := by
  unfold f_X10_emit
  rw [htx.al, hp, nIt (by omega), if_pos (by omega), if_pos (by omega)]
  simp only [Bd]
  rw [rI_i (by omega), hp, nI_1, Int.toNat_natCast]; rfl
theorem w_emit {x : Int32} (htx : txk tx) (h : 0 ≤ (σ.1 tx 8).toInt ∧ (σ.1 tx 8).toInt ≤ 408) : Okv (f_X10_emit tx x σ) (fun s => frm (wEm tx) wl0 σ s ∧ (0 ≤ (s.1 tx 8).toInt ∧ (s.1 tx 8).toInt ≤ 408)) := by
  obtain ⟨p, hp, hp8⟩ : ∃ p : Nat, σ.1 tx 8 = nI p ∧ p ≤ 408 := ⟨(σ.1 tx 8).toInt.toNat, Int32.toInt_inj.mp (by rw [nIt (by omega)]; omega), by omega⟩
  by_cases c : p < 408
  · rw [e_emit htx hp c]
    exact Okv.ret ⟨emS_fr, by rw [emS_8, nIt (by omega)]; omega⟩
  · unfold f_X10_emit
    rw [htx.al]
    exact Okv.f (by rw [hp, nIt (by omega)]; omega) (Okv.ret ⟨frm.rf, h⟩)
theorem FLT.em {e : FA} {x : Int32} (htx : txk tx) (h : FLT tx σc e σ) : Okv (f_X10_emit tx x σ) (FLT tx σc e) := by
  refine (w_emit htx h.2.2.2).mono (fun s hs => ⟨?_, ?_, h.2.2.1.tr (hs.1.mono (fun a k e => wEm_no e) (fun _ _ => rfl)), hs.2⟩)
  · rw [hs.1.1 1 2 (wEm_1 htx)]; exact h.1
  · rw [hs.1.1 1 1 (wEm_1 htx)]; exact h.2.1
/-- what the class's expression, product or unit answers at t, the code's size p, within w open ones; for the waiting rows that cond allows -/
def XR (b : Nat → Int32) (n tx : Nat) (σc : HS) (cond : List Nat → Prop) (kt : Int → Prop) (w t p : Nat) (σ : HS) (r : Int32) (s : HS) : Prop :=
  (r = 1 ∧ ∃ (t1 : Nat) (cs : COD), t < t1 ∧ RC b n tx σc t1 s ∧ s.1 tx 8 = nI (p + cs.length) ∧ seg s (tx + 11) p (enc cs) ∧ cs.length + t ≤ t1 ∧ frm (wX tx) wl0 σ s ∧ (∀ q, q < p → s.1 (tx + 11) q = σ.1 (tx + 11) q) ∧ kt (kdT b n t1) ∧ ∀ S c, depS S = w → cond S → eX (kdT b n) (vlT b n) (plI b n) true t S c = eX (kdT b n) (vlT b n) (plI b n) false t1 S (c ++ cs)) ∨
  (r = 0 ∧ ∃ e, FLT tx σc e s ∧ ∀ S c, depS S = w → cond S → eX (kdT b n) (vlT b n) (plI b n) true t S c = .error e)
theorem RC.em {t : Nat} {s : HS} (htx : txk tx) (h : RC b n tx σc t σ) (hf : frm (wEm tx) wl0 σ s) (h8 : 0 ≤ (s.1 tx 8).toInt ∧ (s.1 tx 8).toInt ≤ 408) : RC b n tx σc t s := ⟨h.1.tr (hf.mono (fun a k e => wEm_no e) (fun _ _ => rfl)), h.2.1, h.2.2.1, by rw [hf.1 1 5 (wEm_1 htx)]; exact h.2.2.2.1, by rw [hf.1 1 6 (wEm_1 htx)]; exact h.2.2.2.2.1, h8⟩
def noS : List Nat → Prop
  | [] => True
  | w :: _ => w = 6 ∨ w = 8 ∨ w = 9
def noX : List Nat → Prop
  | [] => True
  | w :: _ => w = 6
theorem noX_S {S : List Nat} (h : noX S) : noS S := by
  cases S with
  | nil => trivial
  | cons w S => exact Or.inl h
theorem tk_cases {k : Nat} {t : Nat} : tkS (kdT b n) (plI b n) k t = if kdT b n t = k then advS (plI b n) t else .error (1, plI b n t) := rfl
theorem w_unit {fE : Nat → Int32 → HS → Option (Int32 × HS)} {w : Nat} (htx : txk tx) (hT : TKC b n σc) (hw : w ≤ 6) (hE : ∀ (σ : HS) (t p : Nat), w < 6 → RC b n tx σc t σ → σ.1 tx 8 = nI p → p ≤ 8 + t → Ok (fE tx (nI (w + 1)) σ) (XR b n tx σc noX (fun k => ¬ (k = 8 ∨ k = 9) ∧ ¬ (k = 10 ∨ k = 15)) (w + 1) t p σ)) {t p : Nat} (h : RC b n tx σc t σ) (hp : σ.1 tx 8 = nI p) (hpt : p ≤ 8 + t) : Ok (f_X6_unit fE tx (nI w) σ) (XR b n tx σc (fun _ => True) (fun _ => True) w t p σ) := by
  have lo := htx.lo
  have ht := h.2.1
  unfold f_X6_unit
  refine Ok.i (fun c => ?_) (fun c => ?_)
  · have hk : kdT b n t = 2 := (h.kd 2 (by decide) rfl rfl).mp c
    have ee : ∀ S c, eX (kdT b n) (vlT b n) (plI b n) true t S c = (advS (plI b n) t >>= fun t1 => eX (kdT b n) (vlT b n) (plI b n) false t1 S (c ++ [(0, vlT b n t)])) := fun S c => by rw [eX_t ht, if_neg (by omega), if_pos hk]
    refine Ok.cl (w_take (K0 := 2) (d := 21) lo hT (by decide) rfl rfl (by decide) (by decide) h) (fun r s hq => ?_)
    rw [tk_cases, if_pos (by exact hk)] at hq
    by_cases c4 : t = 400
    · unfold advS at hq ee
      rw [if_pos c4] at hq
      obtain ⟨rfl, hF⟩ := hq
      refine Ok.cv (hF.em htx) (fun s1 hF1 => ?_)
      refine Ok.t (by decide) (Ok.ret (Or.inr ⟨rfl, _, hF1, fun S c _ _ => ?_⟩))
      rw [ee, if_pos c4]; rfl
    · unfold advS at hq ee
      rw [if_neg c4] at hq
      obtain ⟨rfl, -, h4, -, hR, hv, hf⟩ := hq
      have hp1 : s.1 tx 8 = nI p := by rw [hf.1 tx 8 (wTk_x lo)]; exact hp
      refine Ok.cve (e_emit htx hp1 (by omega)) (Ok.t (by decide) (Ok.ret (Or.inl ⟨rfl, t + 1, [(0, vlT b n t)], by omega, ?_, emS_8, ?_, by simp; omega, ?_, ?_, trivial, fun S c _ _ => ?_⟩)))
      · exact hR.em htx emS_fr (by rw [emS_8, nIt (by omega)]; omega)
      · exact seg.one (by rw [emS_at]; exact hv hk)
      · exact (hf.mono (fun _ _ => wTk_X) (fun _ e => e)).tr (emS_fr.mono (fun _ _ => wEm_X) (fun _ e => e))
      · intro q hq
        rw [emS_ne (by omega), hf.1 _ _ (by rw [show wTk (tx + 11) q = false from wTk_x (by omega)])]
      · rw [ee, if_neg c4]; rfl
  have hk2 : ¬ kdT b n t = 2 := fun e => c ((h.kd 2 (by decide) rfl rfl).mpr e)
  obtain ⟨kk, k1, k2, k3⟩ := kd_vK b n t
  have ckk : (σ.1 1 6).toInt = ckind (kk : Nat) := by rw [h.2.2.2.2.1, k3]
  -- neither INT nor VAR
  have u67 : ¬ (31 ≤ kdT b n t ∧ kdT b n t ≤ 39) → Ok (f_X6_unit_67 fE tx (nI w) σ) (XR b n tx σc (fun _ => True) (fun _ => True) w t p σ) := by
    intro hv
    -- the one behind ( or SYNTAX
    have u88 : (kdT b n t = 6 → w < 6) → Ok (f_X6_unit_88 fE tx (nI w) σ) (XR b n tx σc (fun _ => True) (fun _ => True) w t p σ) := by
      intro h6
      unfold f_X6_unit_88
      refine Ok.cl (w_take (K0 := 6) (d := 40) lo hT (by decide) rfl rfl (by decide) (by decide) h) (fun r s hq => ?_)
      rw [tk_cases] at hq
      by_cases c6 : kdT b n t = 6
      · have ee : ∀ S c, depS S = w → eX (kdT b n) (vlT b n) (plI b n) true t S c = (advS (plI b n) t >>= fun t1 => eX (kdT b n) (vlT b n) (plI b n) true t1 (6 :: S) c) := fun S c hS => by rw [eX_t ht, if_pos c6, if_neg (by have := h6 c6; omega)]
        rw [if_pos (by exact c6)] at hq
        unfold advS at hq ee
        by_cases c4 : t = 400
        · rw [if_pos c4] at hq
          obtain ⟨rfl, hF⟩ := hq
          exact Ok.t rfl (Ok.ret (Or.inr ⟨rfl, _, hF, fun S c hS _ => by rw [ee S c hS, if_pos c4]; rfl⟩))
        · rw [if_neg c4] at hq
          obtain ⟨rfl, -, h4, -, hR, -, hf⟩ := hq
          refine Ok.f (by decide) ?_
          rw [nI_1]
          refine Ok.cl (hE s (t + 1) p (h6 c6) hR (by rw [hf.1 tx 8 (wTk_x lo)]; exact hp) (by omega)) (fun r s1 hq => ?_)
          rcases hq with ⟨rfl, t1, cs, a1, a2, a3, a4, a5, a6, a7, a8, a9⟩ | ⟨rfl, e, hF, he⟩
          · refine Ok.f (by decide) ?_
            have ht1 := a2.2.1
            have e9 : ∀ S c, depS S = w → eX (kdT b n) (vlT b n) (plI b n) true t S c = eX (kdT b n) (vlT b n) (plI b n) false t1 (6 :: S) (c ++ cs) := fun S c hS => by
              rw [ee S c hS, if_neg c4]
              exact a9 (6 :: S) c (by rw [depS_open, hS]) rfl
            have ef : ∀ S c, eX (kdT b n) (vlT b n) (plI b n) false t1 (6 :: S) c = if kdT b n t1 = 7 then (advS (plI b n) t1 >>= fun t2 => eX (kdT b n) (vlT b n) (plI b n) false t2 S c) else .error (1, plI b n t1) := fun S c => by
              rw [eX_f ht1, if_neg (show ¬ (kdT b n t1 = 8 ∨ kdT b n t1 = 9) from a8.1), if_neg (show ¬ (kdT b n t1 = 10 ∨ kdT b n t1 = 15) from a8.2), if_pos (show 0 < depS (6 :: S) by rw [depS_open]; omega)]
              by_cases c7 : kdT b n t1 = 7
              · rw [if_pos ⟨c7, by rw [depS_open]; omega⟩, if_pos c7]; rfl
              · rw [if_neg (fun h => c7 h.1), if_neg c7]
            refine Ok.cl (w_take (K0 := 7) (d := 41) lo hT (by decide) rfl rfl (by decide) (by decide) a2) (fun r s2 hq => ?_)
            rw [tk_cases] at hq
            by_cases c7 : kdT b n t1 = 7
            · rw [if_pos (by exact c7)] at hq
              unfold advS at hq
              by_cases c5 : t1 = 400
              · rw [if_pos c5] at hq
                obtain ⟨rfl, hF⟩ := hq
                exact Ok.t rfl (Ok.ret (Or.inr ⟨rfl, _, hF, fun S c hS _ => by rw [e9 S c hS, ef, if_pos c7]; unfold advS; rw [if_pos c5]; rfl⟩))
              · rw [if_neg c5] at hq
                obtain ⟨rfl, -, h5, -, hR2, -, hf2⟩ := hq
                refine Ok.f (by decide) (Ok.ret (Or.inl ⟨rfl, t1 + 1, cs, by omega, hR2, ?_, ?_, by omega, ?_, ?_, trivial, fun S c hS _ => ?_⟩))
                · rw [hf2.1 tx 8 (wTk_x lo)]; exact a3
                · exact a4.same (fun q _ _ => hf2.1 _ _ (wTk_x (by omega)))
                · exact ((hf.mono (fun _ _ => wTk_X) (fun _ e => e)).tr a6).tr (hf2.mono (fun _ _ => wTk_X) (fun _ e => e))
                · intro q hq
                  rw [hf2.1 _ _ (wTk_x (by omega)), a7 q hq, hf.1 _ _ (wTk_x (by omega))]
                · rw [e9 S c hS, ef, if_pos c7]; unfold advS; rw [if_neg c5]; rfl
            · rw [if_neg (by exact c7)] at hq
              obtain ⟨rfl, hF⟩ := hq
              exact Ok.t rfl (Ok.ret (Or.inr ⟨rfl, _, hF, fun S c hS _ => by rw [e9 S c hS, ef, if_neg c7]⟩))
          · exact Ok.t rfl (Ok.ret (Or.inr ⟨rfl, e, hF, fun S c hS _ => by
              rw [ee S c hS, if_neg c4]
              exact he (6 :: S) c (by rw [depS_open, hS]) rfl⟩))
      · rw [if_neg (by exact c6)] at hq
        obtain ⟨rfl, hF⟩ := hq
        exact Ok.t rfl (Ok.ret (Or.inr ⟨rfl, _, hF, fun S c hS _ => by rw [eX_t ht, if_neg c6, if_neg hk2, if_neg hv]⟩))
    unfold f_X6_unit_67
    refine Ok.i (fun c1 => ?_) (fun c1 => ?_)
    · have c6 : kdT b n t = 6 := (h.kd 6 (by decide) rfl rfl).mp c1
      rw [nIt (by omega)]
      refine Ok.i (fun c2 => ?_) (fun c2 => ?_)
      · exact u88 (fun _ => by omega)
      · refine Ok.cl (w_refuse lo hT h (x := 2)) (fun r s hq => ?_)
        obtain ⟨rfl, hF⟩ := hq
        exact Ok.t (by decide) (Ok.ret (Or.inr ⟨rfl, _, hF, fun S c hS _ => by rw [eX_t ht, if_pos c6, if_pos (by omega)]; rfl⟩))
    · have c6 : ¬ kdT b n t = 6 := fun e => c1 ((h.kd 6 (by decide) rfl rfl).mpr e)
      exact u88 (fun e => absurd e c6)
  have vt : ∀ k, k < 40 → vK k = true → ((11 ≤ ckind (k : Nat) ∧ ckind (k : Nat) ≤ 19) ↔ 31 ≤ k) := by decide +kernel
  have vv := vt kk k1 k2
  refine Ok.i (fun c1 => u67 (by omega)) (fun c1 => ?_)
  refine Ok.i (fun c2 => u67 (by omega)) (fun c2 => ?_)
  have hk31 : 31 ≤ kk := vv.mp (by omega)
  have ck : ckind (kk : Nat) = (kk : Int) - 20 := by unfold ckind; rw [if_pos (by omega)]
  have e6 : (σ.1 1 6).toInt = (kk : Int) - 20 := by rw [ckk, ck]
  have ee : ∀ S c, eX (kdT b n) (vlT b n) (plI b n) true t S c = (advS (plI b n) t >>= fun t1 => eX (kdT b n) (vlT b n) (plI b n) false t1 S (c ++ [(1, kdT b n t - 31)])) := fun S c => by rw [eX_t ht, if_neg (by omega), if_neg hk2, if_pos (by omega)]
  have ex : (((-10) : Int32) - ((σ.1 1 6) - (11 : Int32))).toInt = -10 - ((kk : Int) - 31) := by
    have e1 : ((σ.1 1 6) - (11 : Int32)).toInt = (kk : Int) - 31 := by rw [i32_sub (by rw [e6, show (11 : Int32).toInt = 11 from rfl]; omega), e6, show (11 : Int32).toInt = 11 from rfl]; omega
    rw [i32_sub (by rw [e1, show (-10 : Int32).toInt = -10 from rfl]; omega), e1]; rfl
  have hp8 : 0 ≤ (σ.1 tx 8).toInt ∧ (σ.1 tx 8).toInt ≤ 408 := h.2.2.2.2.2
  -- behind the emitting
  have fin : ∀ s1 : HS, RC b n tx σc t s1 → frm (wEm tx) wl0 σ s1 → (p < 408 → s1 = emS tx p (((-10) : Int32) - ((σ.1 1 6) - (11 : Int32))) σ) → Ok (Cl (f_X6_take (s1.1 1 6) s1) fun r4 σ3 => if 0 ≤ r4.toInt ∧ r4.toInt ≤ 1 then some (r4, σ3) else none) (XR b n tx σc (fun _ => True) (fun _ => True) w t p σ) := by
    intro s1 hR hf he
    refine Ok.cl (w_take (K0 := kk) (d := s1.1 1 6) lo hT k1 k2 (by rw [hf.1 1 6 (wEm_1 htx)]; exact ckk) (by omega) (by omega) hR) (fun r s hq => ?_)
    rw [tk_cases, if_pos (by exact k3)] at hq
    unfold advS at hq ee
    by_cases c4 : t = 400
    · rw [if_pos c4] at hq
      obtain ⟨rfl, hF⟩ := hq
      exact Ok.t (by decide) (Ok.ret (Or.inr ⟨rfl, _, hF, fun S c _ _ => by rw [ee, if_pos c4]; rfl⟩))
    · rw [if_neg c4] at hq
      obtain ⟨rfl, -, h4, -, hR2, -, hf2⟩ := hq
      have he := he (by omega)
      refine Ok.t (by decide) (Ok.ret (Or.inl ⟨rfl, t + 1, [(1, kdT b n t - 31)], by omega, hR2, ?_, ?_, by simp; omega, ?_, ?_, trivial, fun S c _ _ => ?_⟩))
      · rw [hf2.1 tx 8 (wTk_x lo), he]; exact emS_8
      · refine seg.one ?_
        rw [hf2.1 _ _ (wTk_x (by omega)), he, emS_at, ex]
        show _ = -10 - (kdT b n t - 31)
        omega
      · exact (hf.mono (fun _ _ => wEm_X) (fun _ e => e)).tr (hf2.mono (fun _ _ => wTk_X) (fun _ e => e))
      · intro q hq
        rw [hf2.1 _ _ (wTk_x (by omega)), he, emS_ne (by omega)]
      · rw [ee, if_neg c4]; rfl
  by_cases c8 : p < 408
  · refine Ok.cve (e_emit htx hp c8) ?_
    exact fin _ (h.em htx emS_fr (by rw [emS_8, nIt (by omega)]; omega)) emS_fr (fun _ => rfl)
  · refine Ok.cv (w_emit htx hp8) (fun s1 hs => ?_)
    exact fin s1 (h.em htx hs.1 hs.2) hs.1 (fun h => absurd h c8)
end XRS
