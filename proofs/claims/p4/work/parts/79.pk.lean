/-! faults are told by numbers above 0 -/
def okF {α : Type} (x : Except FA α) : Prop := ∀ e, x = .error e → 0 < e.1
theorem okF.err {α : Type} {e : FA} (h : 0 < e.1) : okF (.error e : Except FA α) := fun e1 h1 => by cases h1; exact h
theorem okF.ok {α : Type} {a : α} : okF (.ok a : Except FA α) := fun e h => by cases h
theorem okF.bind {α β : Type} {x : Except FA α} {y : α → Except FA β} (h : okF x) (k : ∀ a, okF (y a)) : okF (x >>= y) := by
  cases x with
  | error e => exact fun e1 h1 => h e1 (by cases h1; rfl)
  | ok a => exact k a
theorem okF.ite {α : Type} {P : Prop} {dP : Decidable P} {x y : Except FA α} (h1 : okF x) (h2 : okF y) : okF (if P then x else y) := by
  by_cases c : P
  · rw [if_pos c]; exact h1
  · rw [if_neg c]; exact h2
section OKE
variable {kd vl pl : Nat → Int} {nm : Nat → Int64}
theorem okF_adv {t : Nat} : okF (advS pl t) := okF.ite (okF.err (by simp)) okF.ok
theorem okF_tk {k : Int} {t : Nat} : okF (tkS kd pl k t) := okF.ite okF_adv (okF.err (by simp))
theorem okF_num {a c : Int} {t : Nat} {lt : FA} : okF (numS kd vl pl a c t lt) := okF_tk.bind (fun _ => okF.ok)
theorem okF_name {t nc : Nat} {ns : Nat → Int64} {lt : FA} : okF (nameS kd pl nm t nc ns lt) := okF_tk.bind (fun _ => okF.ok)
theorem okF_exp : ∀ (f : Nat) (b : Bool) (t : Nat) (S : List Nat) (c : COD), okF (expF kd vl pl f b t S c) := by
  intro f
  induction f with
  | zero => intro b t S c; cases b <;> exact okF.err (by simp)
  | succ f ih =>
    intro b t S c
    cases b with
    | true => exact okF.ite (okF.ite (okF.err (by simp)) (okF_adv.bind (fun _ => ih _ _ _ _))) (okF.ite (okF_adv.bind (fun _ => ih _ _ _ _)) (okF.ite (okF_adv.bind (fun _ => ih _ _ _ _)) (okF.err (by simp))))
    | false => exact okF.ite (okF_adv.bind (fun _ => ih _ _ _ _)) (okF.ite (okF_adv.bind (fun _ => ih _ _ _ _)) (okF.ite (okF_adv.bind (fun _ => ih _ _ _ _)) (okF.ite (okF.err (by simp)) okF.ok)))
theorem okF_exS {t : Nat} : okF (exS kd vl pl t) := okF_exp _ _ _ _ _
theorem okF_last {brs : List (COD × COD × COD)} {t : Nat} : okF (lastS kd vl pl brs t) := okF_exS.bind (fun _ => okF_tk.bind (fun _ => okF.ok))
theorem okF_cond {t : Nat} : okF (condS kd vl pl t) := okF_tk.bind (fun _ => okF_exS.bind (fun _ => okF_tk.bind (fun _ => okF_exS.bind (fun _ => okF_tk.bind (fun _ => okF_exS.bind (fun _ => okF_tk.bind (fun _ => okF.ok)))))))
theorem okF_ifs : ∀ (m : Nat) (brs : List (COD × COD × COD)) (t : Nat), okF (ifsS kd vl pl m brs t) := by
  intro m
  induction m with
  | zero => intro brs t; exact okF.ite (okF.err (by simp)) okF_last
  | succ m ih => intro brs t; exact okF.ite (okF_cond.bind (fun _ => ih _ _)) okF_last
theorem okF_law {k : Int} {t : Nat} : okF (lawS kd vl pl k t) := okF_tk.bind (fun _ => okF_tk.bind (fun _ => okF_ifs _ _ _))
theorem okF_thing {nT t nc : Nat} {ns : Nat → Int64} {lt : FA} : okF (thingS kd vl pl nm nT t nc ns lt) := okF.ite (okF_tk.bind (fun _ => okF_name.bind (fun _ => okF_num.bind (fun _ => okF_num.bind (fun _ => okF_num.bind (fun _ => okF_tk.bind (fun _ => okF.ok))))))) (okF.err (by simp))
theorem okF_hts : ∀ (m k : Nat) (hs : Nat → Int) (t : Nat) (lt : FA), okF (htsS kd vl pl k hs t lt m) := by
  intro m
  induction m with
  | zero => intro k hs t lt; exact okF.ite (okF.err (by simp)) (okF_tk.bind (fun _ => okF.ok))
  | succ m ih => intro k hs t lt; exact okF.ite (okF_num.bind (fun _ => ih _ _ _ _)) (okF_tk.bind (fun _ => okF.ok))
theorem okF_pat {nP t nc : Nat} {ns : Nat → Int64} {lt : FA} : okF (patS kd vl pl nm nP t nc ns lt) := okF.ite (okF_tk.bind (fun _ => okF_name.bind (fun _ => okF_num.bind (fun _ => okF_hts _ _ _ _ _)))) (okF.err (by simp))
theorem okF_one {k most : Int} {t : Nat} {lt : FA} : okF (oneS kd vl pl k most t lt) := okF_tk.bind (fun _ => okF_num.bind (fun _ => okF_tk.bind (fun _ => okF.ok)))
theorem okF_tell {S : PST} : okF (tellS kd vl pl nm S) := okF.ite (okF_thing.bind (fun _ => okF.ok)) (okF.ite (okF_pat.bind (fun _ => okF.ok)) (okF.ite (okF_law.bind (fun _ => okF.ok)) (okF.ite (okF_one.bind (fun _ => okF.ok)) (okF.ite (okF_one.bind (fun _ => okF.ok)) (okF.err (by simp))))))
end OKE
/-- what a reading answers: the fault, its place -/
def resS (x : Except FA PST) : FA := match x with
  | .error e => e
  | .ok S => if S.2.2.1.1 = 0 then (0, -1) else S.2.2.1
section RDC
variable {b : Nat → Int32} {n tx : Nat} {σc σ : HS}
/-- what the class's reading leaves: the answer, the place; the text, where there is no fault -/
def RDc (b : Nat → Int32) (n tx : Nat) (x : Except FA PST) (r : Int32) (s : HS) : Prop := r.toInt = (resS x).1 ∧ (s.1 1 1).toInt = (resS x).2 ∧ (r.toInt = 0 → ∃ S : PST, x = .ok S ∧ S.2.2.1.1 = 0 ∧ DTc tx s S.2.2.2.1.1 ∧ DPc tx s S.2.2.2.1.2 ∧ DRc tx s S.2.2.2.2.1 ∧ ∃ p, p ≤ 408 ∧ DLc tx s p S.2.2.2.2.2)
theorem w_top (htx : txk tx) (hT : TKC b n σc) (c1 : (σc.1 1 1).toInt = -1) (c2 : (σc.1 1 2).toInt = 0) : ∀ (d N y : Nat) (S : PST) (s : HS), 401 - S.1 < d → d < N → y ≤ S.1 → TCs b n tx σc S s → Ok (f_X6_readInto_58 tx N 1 (nI y) s) (fun r s => frm (wP tx) wlP σc s ∧ RDc b n tx (topS (kdT b n) (vlT b n) (plI b n) (nmT b n) d S) r s) := by
  have lo := htx.lo
  intro d
  induction d with
  | zero => intro N y S s h; omega
  | succ d ih =>
    intro N y S s hd hN hy h
    obtain ⟨N, rfl⟩ : ∃ q, N = q + 1 := ⟨N - 1, by omega⟩
    have ht := h.1.2.1
    show Ok (b_X6_readInto_58 tx (f_X6_readInto_58 tx N) 1 (nI y) s) _
    unfold b_X6_readInto_58
    refine Ok.f (by decide) ?_
    show Ok _ (fun r s => frm (wP tx) wlP σc s ∧ RDc b n tx (if kdT b n S.1 = 0 then .ok S else tellS (kdT b n) (vlT b n) (plI b n) (nmT b n) S >>= fun s1 => topS (kdT b n) (vlT b n) (plI b n) (nmT b n) d s1) r s)
    by_cases c0 : kdT b n S.1 = 0
    · rw [if_pos c0]
      refine Ok.t ((h.1.kd 0 (by decide) rfl rfl).mpr c0) ?_
      obtain ⟨hR, hNm, hL, hc, hDT, hDP, hDR, ⟨p, hp, hpt, hDL⟩, hf1, hf2⟩ := h
      unfold f_X6_readInto_90 f_X6_readInto_120
      refine Ok.t (by rw [hf2]; exact c2) ?_
      refine Ok.i (fun e => ?_) (fun e => ?_)
      · have el : S.2.2.1.1 = 0 := by rw [← hL.1]; exact e
        have er : resS (.ok S) = (0, -1) := if_pos el
        refine Ok.ret ⟨hR.1, by rw [er, hf2]; exact c2, by rw [er, hf1]; exact c1, fun _ => ⟨S, rfl, el, hDT, hDP, hDR, p, ?_, hDL⟩⟩
        have := hR.2.2.2.2.2.2
        rw [hp, nIt (by omega)] at this
        omega
      · have el : S.2.2.1.1 ≠ 0 := by rw [← hL.1]; exact e
        have er : resS (.ok S) = S.2.2.1 := if_neg el
        refine Ok.bd (Ok.bd (Ok.ret ⟨(hR.1.I wP_1).I wP_1, ?_, ?_, fun h0 => ?_⟩))
        · rw [er, rI_k (by decide), rI_s]; exact hL.1
        · rw [er, rI_s, rI_k (by decide)]; exact hL.2 el
        · exfalso
          rw [rI_k (by decide), rI_s] at h0
          exact e h0
    · rw [if_neg c0]
      refine Ok.f (fun e => c0 ((h.1.kd 0 (by decide) rfl rfl).mp e)) (Ok.f (by rw [nIt (by omega)]; omega) ?_)
      obtain ⟨r, s1, er, h1⟩ := w_telling htx hT h
      refine Ok.cle er (Ok.bd ?_)
      rw [nI_1]
      cases ex : tellS (kdT b n) (vlT b n) (plI b n) (nmT b n) S with
      | error e =>
        rw [ex] at h1
        obtain ⟨rfl, hF⟩ := h1
        have he := okF_tell (kd := kdT b n) (vl := vlT b n) (pl := plI b n) (nm := nmT b n) (S := S) e ex
        obtain ⟨N1, rfl⟩ : ∃ q, N = q + 1 := ⟨N - 1, by omega⟩
        show Ok (b_X6_readInto_58 tx (f_X6_readInto_58 tx N1) 0 (nI (y + 1)) s1) _
        unfold b_X6_readInto_58
        refine Ok.t rfl ?_
        unfold f_X6_readInto_90 f_X6_readInto_120
        refine Ok.f (by rw [hF.1]; omega) (Ok.ret ⟨hF.2.2.1, hF.1, hF.2.1, fun h0 => ?_⟩)
        rw [hF.1] at h0
        omega
      | ok S1 =>
        rw [ex] at h1
        obtain ⟨rfl, h2, h3⟩ := h1
        exact ih N (y + 1) S1 s1 (by omega) (by omega) (by omega) h3
/-! the text told anew -/
def wClr (tx a k : Nat) : Bool := (a == tx && (k == 0 || k == 4 || k == 8 || k == 10 || k == 11)) || a == tx + 11 || a == tx + 12
theorem wEm_Clr {a k : Nat} (h : wClr tx a k = false) : wEm tx a k = false := by
  unfold wClr at h
  unfold wEm
  simp only [Bool.or_eq_false_iff, Bool.and_eq_false_iff, beq_eq_false_iff_ne] at h ⊢
  refine ⟨?_, h.1.2⟩
  rcases h.1.1 with h | h
  · exact Or.inl h
  · exact Or.inr h.1.1.2
def dfC (k : Nat) : List Int := if k = 2 then [-11, -6] else [0, -6]
theorem dfC_lay {k q : Nat} : layL q (lawO k none) = dfC k := by
  unfold lawO dfC
  by_cases c : k = 2
  · subst c; rfl
  · rw [if_neg c, if_neg c]; rfl
theorem w_clr (htx : txk tx) : ∀ (d k N : Nat) (s : HS), k + d = 4 → d < N → s.1 tx 8 = nI (2 * k) → (∀ j, j < k → s.1 (tx + 12) j = nI (2 * j) ∧ seg s (tx + 11) (2 * j) (dfC j)) → Okv (f_X10_clear_27 tx N (nI k) s) (fun s1 => s1.1 tx 8 = nI 8 ∧ (∀ j, j < 4 → s1.1 (tx + 12) j = nI (2 * j) ∧ seg s1 (tx + 11) (2 * j) (dfC j)) ∧ frm (fun a k => wEm tx a k || a == tx + 12) wl0 s s1) := by
  have lo := htx.lo
  intro d
  induction d with
  | zero =>
    intro k N s hk hN h8 hj
    obtain ⟨N, rfl⟩ : ∃ q, N = q + 1 := ⟨N - 1, by omega⟩
    obtain rfl : k = 4 := by omega
    show Okv (b_X10_clear_27 tx (f_X10_clear_27 tx N) (nI 4) s) _
    unfold b_X10_clear_27
    exact Okv.f (by decide) (Okv.ret ⟨h8, hj, frm.rf⟩)
  | succ d ih =>
    intro k N s hk hN h8 hj
    obtain ⟨N, rfl⟩ : ∃ q, N = q + 1 := ⟨N - 1, by omega⟩
    show Okv (b_X10_clear_27 tx (f_X10_clear_27 tx N) (nI k) s) _
    unfold b_X10_clear_27
    rw [nIt (by omega), Int.toNat_natCast, h8]
    refine Okv.t (by omega) (Okv.t (by omega) (Okv.bd ?_))
    generalize hs1 : hI s (tx + 12) k (nI (2 * k)) = s1
    have p1 : s1.1 tx 8 = nI (2 * k) := by rw [← hs1, rI_i (by omega)]; exact h8
    have f1 : frm (fun a k => wEm tx a k || a == tx + 12) wl0 s s1 := by rw [← hs1]; exact frm.rf.I (by simp)
    have go : ∀ v : Int32, dfC k = [v.toInt, -6] → Okv (f_X10_clear_54 tx (f_X10_clear_27 tx N) (nI k) v s1) (fun s1 => s1.1 tx 8 = nI 8 ∧ (∀ j, j < 4 → s1.1 (tx + 12) j = nI (2 * j) ∧ seg s1 (tx + 11) (2 * j) (dfC j)) ∧ frm (fun a k => wEm tx a k || a == tx + 12) wl0 s s1) := by
      intro v hv
      unfold f_X10_clear_54
      refine Okv.cve (e_emit htx p1 (by omega)) (Okv.cve (e_emit htx emS_8 (by omega)) (Okv.bd ?_))
      rw [nI_1]
      generalize hs3 : emS tx (2 * k + 1) (-6) (emS tx (2 * k) v s1) = s3
      have f3 : frm (wEm tx) wl0 s1 s3 := by rw [← hs3]; exact emS_fr.tr emS_fr
      have n12 : ∀ j, s3.1 (tx + 12) j = s1.1 (tx + 12) j := fun j => f3.1 _ _ (by unfold wEm; simp)
      refine (ih (k + 1) N s3 (by omega) (by omega) (by rw [← hs3, emS_8]; exact congrArg nI (by omega)) (fun j hj1 => ?_)).mono (fun s4 h4 => ⟨h4.1, h4.2.1, (f1.tr (f3.mono (fun a k e => by simp only [Bool.or_eq_false_iff] at e; exact e.1) (fun _ e => e))).tr h4.2.2⟩)
      by_cases e : j = k
      · subst e
        refine ⟨by rw [n12, ← hs1, rI_s], ?_⟩
        rw [hv]
        show seg s3 (tx + 11) (2 * j) ([v.toInt] ++ [-6])
        refine seg.app (seg.one ?_) (seg.one ?_)
        · rw [← hs3, emS_ne (by omega), emS_at]
        · rw [← hs3]; show ((emS tx (2 * j + 1) (-6) (emS tx (2 * j) v s1)).1 (tx + 11) (2 * j + 1)).toInt = -6; rw [emS_at]; rfl
      · have h5 := hj j (by omega)
        refine ⟨by rw [n12, ← hs1, rI_k e]; exact h5.1, h5.2.same (fun q q1 q2 => ?_)⟩
        have : (dfC j).length = 2 := by unfold dfC; split <;> rfl
        rw [← hs3, emS_ne (by omega), emS_ne (by omega), ← hs1, rI_i (by omega)]
    by_cases c : k = 2
    · refine Okv.t (by omega) (go (-11) (by unfold dfC; rw [if_pos c]; rfl))
    · refine Okv.f (by omega) (go 0 (by unfold dfC; rw [if_neg c]; rfl))
theorem w_readInto (htx : txk tx) (hC : CC σ) : Ok (f_X6_readInto tx σ) (fun r s => frm (fun a k => wP tx a k || wCut a k) (fun a => wlP a || wlCut a) σ s ∧ RDc (bC σ) (nC σ) tx (readS (kdT (bC σ) (nC σ)) (vlT (bC σ) (nC σ)) (plI (bC σ) (nC σ)) (nmT (bC σ) (nC σ))) r s) := by
  have lo := htx.lo
  unfold f_X6_readInto f_X10_clear
  refine Ok.cv (P := fun s1 => frm (wClr tx) wl0 σ s1 ∧ s1.1 tx 0 = nI 0 ∧ s1.1 tx 4 = nI 0 ∧ (s1.1 tx 10).toInt = 1 ∧ (s1.1 tx 11).toInt = 0 ∧ s1.1 tx 8 = nI 8 ∧ (∀ j, j < 4 → s1.1 (tx + 12) j = nI (2 * j) ∧ seg s1 (tx + 11) (2 * j) (dfC j))) ?_ (fun s1 h1 => ?_)
  · refine Okv.bd (Okv.bd (Okv.bd (Okv.bd (Okv.bd ?_))))
    rw [nI0]
    refine (w_clr htx 4 0 5000 _ rfl (by omega) (by rw [rI_s]) (fun j hj => absurd hj (by omega))).mono (fun s h => ?_)
    obtain ⟨h8, hl, hf⟩ := h
    have rd : ∀ k, k ≠ 8 → s.1 tx k = (hI (hI (hI (hI (hI σ tx 0 (nI 0)) tx 4 (nI 0)) tx 10 1) tx 11 (nI 0)) tx 8 (nI 0)).1 tx k := fun k hk => hf.1 tx k (by unfold wEm; simp [hk])
    refine ⟨?_, ?_, ?_, ?_, ?_, h8, hl⟩
    · refine (((((frm.rf.I ?_).I ?_).I ?_).I ?_).I ?_).tr (hf.mono (fun a k e => ?_) (fun _ e => e))
      · unfold wClr; simp
      · unfold wClr; simp
      · unfold wClr; simp
      · unfold wClr; simp
      · unfold wClr; simp
      · have e2 := wEm_Clr e
        unfold wClr at e
        simp only [Bool.or_eq_false_iff] at e
        show (wEm tx a k || a == tx + 12) = false
        rw [e2, e.2]; rfl
    · rw [rd 0 (by decide), rI_k (by decide), rI_k (by decide), rI_k (by decide), rI_k (by decide), rI_s]
    · rw [rd 4 (by decide), rI_k (by decide), rI_k (by decide), rI_k (by decide), rI_s]
    · rw [rd 10 (by decide), rI_k (by decide), rI_k (by decide), rI_s]; rfl
    · rw [rd 11 (by decide), rI_k (by decide), rI_s]; rfl
  · obtain ⟨f1, h0, h4, h10, h11, h8, hl⟩ := h1
    refine Ok.bd (Ok.bd (Ok.bd (Ok.bd (Ok.bd ?_))))
    generalize hs7 : hI (hI (hI (hI (hI s1 1 9 0) 1 2 0) 1 1 (-1)) 1 3 0) 1 4 (-1) = s7
    have f7 : frm (fun a _ => a == 1) wl0 s1 s7 := by rw [← hs7]; exact ((((frm.rf.I rfl).I rfl).I rfl).I rfl).I rfl
    have F7 : frm (wP tx) wlP σ s7 := by
      refine (f1.mono (fun a k e => ?_) (fun _ _ => rfl)).tr (f7.mono (fun a k e => ?_) (fun _ _ => rfl))
      · unfold wP at e
        unfold wClr
        simp only [Bool.or_eq_false_iff, beq_eq_false_iff_ne, ne_eq, Bool.and_eq_false_iff, decide_eq_false_iff_not] at e ⊢
        refine ⟨⟨Or.inl ?_, ?_⟩, ?_⟩ <;> omega
      · unfold wP at e
        simp only [Bool.or_eq_false_iff] at e
        exact e.1
    have hC7 : CC s7 := by
      unfold CC
      rw [F7.1 2 1 (wP_no lo (by decide) (by decide))]
      exact ⟨hC.1, fun k => by rw [F7.1 3 k (wP_no lo (by decide) (by decide))]; exact hC.2 k⟩
    have eb : bC s7 = bC σ := funext fun k => F7.1 3 k (wP_no lo (by decide) (by decide))
    have en : nC s7 = nC σ := by unfold nC; rw [F7.1 2 1 (wP_no lo (by decide) (by decide))]
    refine Ok.cv (w_X9_cut hC7) (fun s8 h8' => ?_)
    obtain ⟨f8, hT⟩ := h8'
    rw [eb, en] at hT
    refine Ok.bd ?_
    rw [rI_i (show (4 : Nat) ≠ 1 by decide)]
    refine Ok.bd ?_
    rw [nI0]
    have q8 : ∀ k, s8.1 1 k = s7.1 1 k := fun k => f8.1 1 k rfl
    have t8 : ∀ a k, 30 ≤ a → s8.1 a k = s1.1 a k := fun a k ha => by
      rw [f8.1 a k (by unfold wCut; simp; omega), f7.1 a k (by simp; omega)]
    have i8 : ∀ a k, 30 ≤ a → (hI (hI s8 1 5 (nI 0)) 1 6 (s8.1 4 (nI 0).toInt.toNat)).1 a k = s1.1 a k := fun a k ha => by
      rw [rI_i (by omega), rI_i (by omega)]; exact t8 a k ha
    have k0 : ((nI 0).toInt.toNat) = 0 := rfl
    have TC0 : TCs (bC σ) (nC σ) tx s8 (0, (0, fun _ => 0), (0, -1), dat0) (hI (hI s8 1 5 (nI 0)) 1 6 (s8.1 4 (nI 0).toInt.toNat)) := by
      refine ⟨⟨(frm.rf.I wP_1).I wP_1, by show (0 : Nat) ≤ 400; omega, fun p hp => absurd hp (by show ¬ p < 0; omega), ?_, ?_, ?_⟩, ⟨?_, by show (0 : Nat) ≤ 12; omega, fun i hi => absurd hi (by show ¬ i < 0; omega)⟩, ⟨?_, fun h => absurd rfl h⟩, rfl, ⟨?_, by show (0 : Nat) ≤ 7; omega, fun e he => absurd he (by show ¬ e < 0; omega)⟩, ⟨?_, by show (0 : Nat) ≤ 5; omega, fun e he => absurd he (by show ¬ e < 0; omega)⟩, ⟨?_, ?_⟩, ⟨8, ?_, by show 8 ≤ 8 + 0; omega, fun k hk => ⟨2 * k, ?_, ?_, ?_⟩⟩, ?_, ?_⟩
      · rw [rI_k (by decide), rI_s]
      · rw [rI_s, k0]
        exact (hT 0 (by omega) (fun p hp => absurd hp (by omega))).1
      · rw [i8 tx 8 lo, h8, nIt (by omega)]; omega
      · rw [rI_k (by decide), rI_k (by decide), q8, ← hs7, rI_k (by decide), rI_k (by decide), rI_k (by decide), rI_k (by decide), rI_s]; rfl
      · rw [rI_k (by decide), rI_k (by decide), q8, ← hs7, rI_k (by decide), rI_s]; rfl
      · rw [i8 tx 0 lo]; exact h0
      · rw [i8 tx 4 lo]; exact h4
      · rw [i8 tx 10 lo]; exact h10
      · rw [i8 tx 11 lo]; exact h11
      · rw [i8 tx 8 lo]; exact h8
      · rw [i8 _ _ (by omega)]; exact (hl k hk).1
      · show 2 * k + (layL (2 * k) (lawO k none)).length ≤ 8
        rw [dfC_lay]
        have : (dfC k).length = 2 := by unfold dfC; split <;> rfl
        omega
      · show seg _ _ _ (layL (2 * k) (lawO k none))
        rw [dfC_lay]
        exact (hl k hk).2.same (fun q _ _ => i8 _ _ (by omega))
      · rw [rI_k (by decide), rI_k (by decide)]
      · rw [rI_k (by decide), rI_k (by decide)]
    have c1 : (s8.1 1 1).toInt = -1 := by rw [q8, ← hs7, rI_k (by decide), rI_k (by decide), rI_s]; rfl
    have c2 : (s8.1 1 2).toInt = 0 := by rw [q8, ← hs7, rI_k (by decide), rI_k (by decide), rI_k (by decide), rI_s]; rfl
    refine (w_top htx hT c1 c2 402 5000 0 _ _ (by show 401 - 0 < 402; omega) (by omega) (by show (0 : Nat) ≤ 0; omega) TC0).mono (fun r s h => ⟨?_, h.2⟩)
    refine ((F7.mono (fun a k e => ?_) (fun a e => ?_)).tr (f8.mono (fun a k e => ?_) (fun a e => ?_))).tr (h.1.mono (fun a k e => ?_) (fun a e => ?_)) <;> (simp only [Bool.or_eq_false_iff] at e)
    · exact e.1
    · exact e.1
    · exact e.2
    · exact e.2
    · exact e.1
    · exact e.1
end RDC
