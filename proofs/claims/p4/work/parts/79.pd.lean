/-! numbers and names -/
def wNm (a k : Nat) : Bool := a == 1 && (k == 3 || k == 4 || k == 5 || k == 6 || k == 7)
def wNa (a k : Nat) : Bool := a == 1 && (k == 3 || k == 4 || k == 5 || k == 6 || k == 7 || k == 9)
theorem wNm_x {tx k : Nat} (h : 30 ≤ tx) : wNm tx k = false := wx_no (f := fun k => k == 3 || k == 4 || k == 5 || k == 6 || k == 7) h
theorem wTk_Nm {a k : Nat} (h : wNm a k = false) : wTk a k = false := by
  unfold wNm wTk at *
  cases e : (a == 1) with
  | false => rfl
  | true => rw [e] at h; simp at h ⊢; omega
theorem wNl_Nm {a k : Nat} (h : wNm a k = false) : wNl a k = false := by
  unfold wNm wNl at *
  cases e : (a == 1) with
  | false => rfl
  | true => rw [e] at h; simp at h ⊢; omega
theorem wTk_Na {a k : Nat} (h : wNa a k = false) : wTk a k = false := by
  unfold wNa wTk at *
  cases e : (a == 1) with
  | false => rfl
  | true => rw [e] at h; simp at h ⊢; omega
theorem wNl_Na {a k : Nat} (h : wNa a k = false) : wNl a k = false := by
  unfold wNa wNl at *
  cases e : (a == 1) with
  | false => rfl
  | true => rw [e] at h; simp at h ⊢; omega
/-- names told so far -/
def NMS (σ : HS) (nc : Nat) (ns : Nat → Int64) : Prop := σ.1 1 9 = nI nc ∧ nc ≤ 12 ∧ ∀ i, i < nc → σ.2.1 7 i = ns i
section RCN
variable {b : Nat → Int32} {n tx : Nat} {σc σ : HS}
theorem LTR.fr {w : Nat → Nat → Bool} {wl : Nat → Bool} {s : HS} {lt : FA} (h : LTR σ lt) (hf : frm w wl σ s) (h3 : w 1 3 = false) (h4 : w 1 4 = false) : LTR s lt := by
  unfold LTR
  rw [hf.1 1 3 h3, hf.1 1 4 h4]
  exact h
theorem NMS.fr {w : Nat → Nat → Bool} {wl : Nat → Bool} {s : HS} {nc : Nat} {ns : Nat → Int64} (h : NMS σ nc ns) (hf : frm w wl σ s) (h9 : w 1 9 = false) (h7 : wl 7 = false) : NMS s nc ns := by
  unfold NMS
  rw [hf.1 1 9 h9, hf.2.1 7 h7]
  exact h
theorem w_number {t : Nat} {x1 x2 : Int32} {lt : FA} (htx : 30 ≤ tx) (hT : TKC b n σc) (h : RC b n tx σc t σ) (hl : LTR σ lt) : Ok (f_X6_takeNumber x1 x2 σ) (PostC (FLT tx σc) (numS (kdT b n) (vlT b n) (plI b n) x1.toInt x2.toInt t lt) (fun a s => a.1 = t + 1 ∧ t < 400 ∧ kdT b n t = 2 ∧ a.2.1 = vlT b n t ∧ RC b n tx σc (t + 1) s ∧ LTR s a.2.2 ∧ (s.1 1 7).toInt = a.2.1 ∧ frm wNm wl0 σ s)) := by
  have ht := h.2.1
  have tk := RC.tk htx hT h
  -- the INT taken, behind what was noted
  have go : ∀ (s : HS) (lt1 : FA), RC b n tx σc t s → LTR s lt1 → frm wNl wl0 σ s → (kdT b n t = 2 → lt1 = (if vlT b n t < x1.toInt ∨ x2.toInt < vlT b n t then ltS (plI b n) t 5 lt else lt)) → Ok (f_X6_takeNumber_41 s) (PostC (FLT tx σc) (numS (kdT b n) (vlT b n) (plI b n) x1.toInt x2.toInt t lt) (fun a s => a.1 = t + 1 ∧ t < 400 ∧ kdT b n t = 2 ∧ a.2.1 = vlT b n t ∧ RC b n tx σc (t + 1) s ∧ LTR s a.2.2 ∧ (s.1 1 7).toInt = a.2.1 ∧ frm wNm wl0 σ s)) := by
    intro s lt1 hs hls hf e
    unfold f_X6_takeNumber_41
    refine PT ?_
    refine PostC.map (w_take (K0 := 2) (d := 21) htx hT (by decide) rfl rfl (by decide) (by decide) hs) (fun a s1 ea ha => ?_)
    obtain ⟨rfl, h4, hk, h1, h2, h3⟩ := ha
    refine ⟨_, rfl, rfl, h4, hk, rfl, h1, ?_, h2 hk, (hf.mono (fun _ _ => wNl_Nm) (fun _ e => e)).tr (h3.mono (fun _ _ => wTk_Nm) (fun _ e => e))⟩
    show LTR s1 (if vlT b n t < x1.toInt ∨ x2.toInt < vlT b n t then ltS (plI b n) t 5 lt else lt)
    rw [← e hk]
    exact hls.fr h3 rfl rfl
  have note : kdT b n t = 2 → (vlT b n t < x1.toInt ∨ x2.toInt < vlT b n t) → Ok (f_X6_takeNumber_36 σ) (PostC (FLT tx σc) (numS (kdT b n) (vlT b n) (plI b n) x1.toInt x2.toInt t lt) (fun a s => a.1 = t + 1 ∧ t < 400 ∧ kdT b n t = 2 ∧ a.2.1 = vlT b n t ∧ RC b n tx σc (t + 1) s ∧ LTR s a.2.2 ∧ (s.1 1 7).toInt = a.2.1 ∧ frm wNm wl0 σ s)) := by
    intro hk hv
    unfold f_X6_takeNumber_36
    refine Ok.cv (w_noteLater (x := 5) htx hT h hl (by decide)) (fun s hs => ?_)
    exact go s _ hs.1 hs.2.1 hs.2.2 (fun _ => by rw [if_pos hv]; rfl)
  unfold f_X6_takeNumber
  rw [h.2.2.2.1, nIt (by omega), Int.toNat_natCast]
  refine Ok.t (by omega) (Ok.bd ?_)
  refine Ok.i (fun c => ?_) (fun c => ?_)
  · have hk : kdT b n t = 2 := (h.kd 2 (by decide) rfl rfl).mp c
    have ev := tk.2.1 hk
    refine Ok.i (fun c1 => ?_) (fun c1 => ?_)
    · rw [lgc_lt, ev, Int32.toInt_toInt64] at c1
      exact note hk (Or.inl c1)
    · rw [lgc_lt, ev, Int32.toInt_toInt64] at c1
      refine Ok.i (fun c2 => ?_) (fun c2 => ?_)
      · rw [lgc_gt, ev, Int32.toInt_toInt64] at c2
        exact note hk (Or.inr c2)
      · rw [lgc_gt, ev, Int32.toInt_toInt64] at c2
        exact go σ lt h hl frm.rf (fun _ => by rw [if_neg (by omega)])
  · have hk : ¬ kdT b n t = 2 := fun e => c ((h.kd 2 (by decide) rfl rfl).mpr e)
    exact go σ lt h hl frm.rf (fun e => absurd e hk)
theorem hasN_s {nc : Nat} {ns : Nat → Int64} {v : Int64} : hasN (nc + 1) ns v = (hasN nc ns v || ns nc == v) := by
  unfold hasN
  rw [List.range_succ, List.any_append]
  simp
theorem ltS_idem {pl : Nat → Int} {t : Nat} {k : Int} {lt : FA} (hk : k ≠ 0) : ltS pl t k (ltS pl t k lt) = ltS pl t k lt := by
  unfold ltS
  by_cases c : lt.1 = 0
  · rw [if_pos c, if_neg hk]
  · rw [if_neg c, if_neg c]
theorem w_name {t nc : Nat} {ns : Nat → Int64} {lt : FA} (htx : 30 ≤ tx) (hT : TKC b n σc) (h : RC b n tx σc t σ) (hl : LTR σ lt) (hn : NMS σ nc ns) (h12 : nc < 12) : Ok (f_X6_takeName σ) (PostC (FLT tx σc) (nameS (kdT b n) (plI b n) (nmT b n) t nc ns lt) (fun a s => a.1 = t + 1 ∧ t < 400 ∧ RC b n tx σc (t + 1) s ∧ LTR s a.2 ∧ NMS s (nc + 1) (upN ns nc (nmT b n t)) ∧ frm wNa wlP σ s)) := by
  have ht := h.2.1
  have tk := RC.tk htx hT h
  generalize hQ : PostC (FLT tx σc) (nameS (kdT b n) (plI b n) (nmT b n) t nc ns lt) (fun a s => a.1 = t + 1 ∧ t < 400 ∧ RC b n tx σc (t + 1) s ∧ LTR s a.2 ∧ NMS s (nc + 1) (upN ns nc (nmT b n t)) ∧ frm wNa wlP σ s) = Q
  -- behind the loop
  have fin : ∀ (s : HS) (v : Int64) (lt1 : FA) (k : Int32 → HS → Option (Int32 × HS)), RC b n tx σc t s → LTR s lt1 → NMS s nc ns → frm wNl wl0 σ s → (kdT b n t = 1 → v = nmT b n t) → (kdT b n t = 1 → lt1 = (if hasN nc ns (nmT b n t) = true then ltS (plI b n) t 3 lt else lt)) → Ok (if (s.1 1 9).toInt < 12 then (if 0 ≤ (s.1 1 9).toInt ∧ (s.1 1 9).toInt < 12 then Bd (hL s 7 (s.1 1 9).toInt.toNat v) fun σ1 => Bd (hI σ1 1 9 ((σ1.1 1 9) + (1 : Int32))) fun σ2 => f_X6_takeName_86 σ2 else none) else f_X6_takeName_86 s) Q := by
    intro s v lt1 k hs hls hns hf ev e
    rw [hns.1, nIt (by omega), Int.toNat_natCast]
    refine Ok.t (by omega) (Ok.t (by omega) (Ok.bd ?_))
    rw [rL_1, hns.1, nI_1]
    refine Ok.bd ?_
    unfold f_X6_takeName_86
    generalize hs2 : hI (hL s 7 nc v) 1 9 (nI (nc + 1)) = s2
    have hf2 : frm (fun a k => a == 1 && k == 9) wlP s s2 := by rw [← hs2]; exact (frm.rf.L rfl).I rfl
    have hs2' : RC b n tx σc t s2 := hs.keep htx hf2 (fun a k e => w1_no (f := fun k => k == 9) e) (fun _ e => e) rfl rfl (wx_no (f := fun k => k == 9) htx)
    rw [← hQ]
    refine PT ?_
    refine PostC.map (w_take (K0 := 1) (d := 20) htx hT (by decide) rfl rfl (by decide) (by decide) hs2') (fun a s1 ea ha => ?_)
    obtain ⟨rfl, h4, hk, h1, h2, h3⟩ := ha
    refine ⟨_, rfl, rfl, h4, h1, ?_, ?_, ?_⟩
    · show LTR s1 (if hasN nc ns (nmT b n t) = true then ltS (plI b n) t 3 lt else lt)
      rw [← e hk]
      exact (hls.fr hf2 rfl rfl).fr h3 rfl rfl
    · refine ⟨?_, by omega, fun i hi => ?_⟩
      · rw [h3.1 1 9 rfl, ← hs2, rI_s]
      · rw [h3.2.1 7 rfl, ← hs2]
        show (hL s 7 nc v).2.1 7 i = upN ns nc (nmT b n t) i
        unfold upN
        by_cases c : i = nc
        · rw [c, rL_s, if_pos rfl]; exact ev hk
        · rw [rL_k c, if_neg c]; exact hns.2.2 i (by omega)
    · refine ((hf.mono (fun _ _ => wNl_Na) (fun _ _ => rfl)).tr (hf2.mono (fun a k e => ?_) (fun _ e => e))).tr (h3.mono (fun _ _ => wTk_Na) (fun _ _ => rfl))
      unfold wNa at e
      show (a == 1 && k == 9) = false
      cases e1 : (a == 1) with
      | false => rfl
      | true => rw [e1] at e; simp at e ⊢; omega
  have loop : ∀ (d i N : Nat) (s : HS) (v : Int64) (lt1 : FA), i + d = nc → d < N → RC b n tx σc t s → LTR s lt1 → NMS s nc ns → frm wNl wl0 σ s → (kdT b n t = 1 → v = nmT b n t) → (kdT b n t = 1 → lt1 = (if hasN i ns (nmT b n t) = true then ltS (plI b n) t 3 lt else lt)) → Ok (f_X6_takeName_15 N v (nI i) s) Q := by
    intro d
    induction d with
    | zero =>
      intro i N s v lt1 h1 hN hs hls hns hf ev e
      obtain ⟨N, rfl⟩ : ∃ q, N = q + 1 := ⟨N - 1, by omega⟩
      obtain rfl : i = nc := by omega
      show Ok (b_X6_takeName_15 (f_X6_takeName_15 N) v (nI i) s) Q
      unfold b_X6_takeName_15
      rw [show (nI i).toInt = (i : Int) from nIt (by omega), show (s.1 1 9).toInt = (i : Int) by rw [hns.1]; exact nIt (by omega)]
      refine Ok.f (by omega) ?_
      have := fin s v lt1 (fun _ _ => none) hs hls hns hf ev e
      rw [show (s.1 1 9).toInt = (i : Int) by rw [hns.1]; exact nIt (by omega)] at this
      exact this
    | succ d ih =>
      intro i N s v lt1 h1 hN hs hls hns hf ev e
      obtain ⟨N, rfl⟩ : ∃ q, N = q + 1 := ⟨N - 1, by omega⟩
      show Ok (b_X6_takeName_15 (f_X6_takeName_15 N) v (nI i) s) Q
      unfold b_X6_takeName_15
      have e9 : (s.1 1 9).toInt = (nc : Int) := by rw [hns.1]; exact nIt (by omega)
      rw [nIt (by omega), e9, Int.toNat_natCast]
      refine Ok.t (by omega) ?_
      refine Ok.i (fun c => ?_) (fun c => ?_)
      · have hk : kdT b n t = 1 := (hs.kd 1 (by decide) rfl rfl).mp c
        refine Ok.t (by omega) ?_
        rw [hns.2.2 i (by omega)]
        refine Ok.i (fun c1 => ?_) (fun c1 => ?_)
        · rw [lgc0] at c1
          refine Ok.cv (w_noteLater (x := 3) htx hT hs hls (by decide)) (fun s1 q => ?_)
          simp only [f_X6_takeName_48, Bd, nI_1]
          refine ih (i + 1) N s1 v _ (by omega) (by omega) q.1 q.2.1 (hns.fr q.2.2 rfl rfl) (hf.tr q.2.2) ev (fun _ => ?_)
          rw [hasN_s, show (ns i == nmT b n t) = true by rw [c1, ev hk]; simp, Bool.or_true, if_pos rfl, e hk]
          by_cases c2 : hasN i ns (nmT b n t) = true
          · rw [if_pos c2]; exact ltS_idem (by decide)
          · rw [if_neg c2]; rfl
        · rw [lgc0] at c1
          simp only [f_X6_takeName_48, Bd, nI_1]
          refine ih (i + 1) N s v lt1 (by omega) (by omega) hs hls hns hf ev (fun _ => ?_)
          rw [hasN_s, show (ns i == nmT b n t) = false by rw [← ev hk]; simpa using c1, Bool.or_false]
          exact e hk
      · have hk : ¬ kdT b n t = 1 := fun e => c ((hs.kd 1 (by decide) rfl rfl).mpr e)
        simp only [f_X6_takeName_48, Bd, nI_1]
        exact ih (i + 1) N s v lt1 (by omega) (by omega) hs hls hns hf ev (fun e => absurd e hk)
  unfold f_X6_takeName
  rw [h.2.2.2.1, nIt (by omega), Int.toNat_natCast]
  refine Ok.t (by omega) (Ok.bd ?_)
  rw [nI0]
  exact loop nc 0 5000 σ _ lt (by omega) (by omega) h hl hn frm.rf (fun e => tk.2.2 e) (fun _ => by
    rw [show hasN 0 ns (nmT b n t) = false from rfl, if_neg (by decide)])
end RCN
