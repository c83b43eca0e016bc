/-! the class's reading: what a call that may refuse answers -/
def PostC {α : Type} (F : FA → HS → Prop) (x : Except FA α) (K : α → HS → Prop) (r : Int32) (s : HS) : Prop := match x with
  | .error e => r = 0 ∧ F e s
  | .ok a => r = 1 ∧ K a s
theorem PostC.err {α : Type} {F : FA → HS → Prop} {x : Except FA α} {K : α → HS → Prop} {e : FA} {s : HS} (h : x = .error e) (hF : F e s) : PostC F x K 0 s := by subst h; exact ⟨rfl, hF⟩
theorem PostC.ok {α : Type} {F : FA → HS → Prop} {x : Except FA α} {K : α → HS → Prop} {a : α} {s : HS} (h : x = .ok a) (hK : K a s) : PostC F x K 1 s := by subst h; exact ⟨rfl, hK⟩
theorem PB {α β : Type} {F : FA → HS → Prop} {x : Except FA α} {y : α → Except FA β} {K : α → HS → Prop} {K' : β → HS → Prop} {f : Option (Int32 × HS)} {g : HS → Option (Int32 × HS)} (h : Ok f (PostC F x K)) (k : ∀ a s, x = .ok a → K a s → Ok (g s) (PostC F (y a) K')) : Ok (Cl f fun r s => if r.toInt = 0 then some (0, s) else g s) (PostC F (x >>= y) K') := by
  obtain ⟨r, s, rfl, h⟩ := h
  cases x with
  | error e =>
    obtain ⟨rfl, h⟩ := h
    exact ⟨0, s, rfl, rfl, h⟩
  | ok a =>
    obtain ⟨rfl, h⟩ := h
    exact k a s rfl h
theorem PT {α : Type} {F : FA → HS → Prop} {x : Except FA α} {K : α → HS → Prop} {f : Option (Int32 × HS)} (h : Ok f (PostC F x K)) : Ok (Cl f fun r s => if 0 ≤ r.toInt ∧ r.toInt ≤ 1 then some (r, s) else none) (PostC F x K) := by
  obtain ⟨r, s, rfl, h⟩ := h
  cases x with
  | error e =>
    obtain ⟨rfl, h⟩ := h
    exact ⟨0, s, rfl, rfl, h⟩
  | ok a =>
    obtain ⟨rfl, h⟩ := h
    exact ⟨1, s, rfl, rfl, h⟩
theorem PostC.map {α β : Type} {F : FA → HS → Prop} {x : Except FA α} {K : α → HS → Prop} {K' : β → HS → Prop} {y : α → Except FA β} {f : Option (Int32 × HS)} (h : Ok f (PostC F x K)) (k : ∀ a s, x = .ok a → K a s → ∃ b, y a = .ok b ∧ K' b s) : Ok f (PostC F (x >>= y) K') := by
  obtain ⟨r, s, rfl, h⟩ := h
  cases x with
  | error e =>
    obtain ⟨rfl, h⟩ := h
    exact ⟨0, s, rfl, rfl, h⟩
  | ok a =>
    obtain ⟨rfl, h⟩ := h
    obtain ⟨b, e, h2⟩ := k a s rfl h
    refine ⟨1, s, rfl, ?_⟩
    show PostC F (y a) K' 1 s
    rw [e]
    exact ⟨rfl, h2⟩
def vK (k : Nat) : Bool := decide (k ≤ 10) || k == 13 || k == 15 || decide (20 ≤ k)
theorem ck_inj : ∀ k, k < 40 → ∀ j, j < 40 → vK k = true → vK j = true → ckind (k : Nat) = ckind (j : Nat) → k = j := by decide +kernel
theorem sgn_vK (c : Int) : ∃ k : Nat, k < 40 ∧ vK k = true ∧ sgn c = k := by
  unfold sgn
  repeat' split
  · exact ⟨4, by decide, rfl, rfl⟩
  · exact ⟨5, by decide, rfl, rfl⟩
  · exact ⟨6, by decide, rfl, rfl⟩
  · exact ⟨7, by decide, rfl, rfl⟩
  · exact ⟨8, by decide, rfl, rfl⟩
  · exact ⟨9, by decide, rfl, rfl⟩
  · exact ⟨10, by decide, rfl, rfl⟩
  · exact ⟨15, by decide, rfl, rfl⟩
  · exact ⟨13, by decide, rfl, rfl⟩
  · exact ⟨3, by decide, rfl, rfl⟩
theorem kd_vK (b : Nat → Int32) (n t : Nat) : ∃ k : Nat, k < 40 ∧ vK k = true ∧ kdT b n t = k := by
  unfold kdT tkK
  split
  · exact ⟨0, by decide, rfl, rfl⟩
  · split
    · split
      · exact ⟨3, by decide, rfl, rfl⟩
      · split
        · rename_i h
          refine ⟨20 + kwF keyL (wv b (plT b n t) (rn isLt b n (plT b n t) - plT b n t)), by omega, ?_, by omega⟩
          unfold vK
          rw [decide_eq_true (show 20 ≤ 20 + kwF keyL (wv b (plT b n t) (rn isLt b n (plT b n t) - plT b n t)) by omega)]
          simp
        · exact ⟨1, by decide, rfl, rfl⟩
    · split
      · split
        · exact ⟨3, by decide, rfl, rfl⟩
        · exact ⟨2, by decide, rfl, rfl⟩
      · exact sgn_vK _
theorem ck_eq {b : Nat → Int32} {n t : Nat} (K : Nat) (h40 : K < 40) (hK : vK K = true) : ckind (kdT b n t) = ckind K ↔ kdT b n t = K := by
  obtain ⟨k, h1, h2, h3⟩ := kd_vK b n t
  rw [h3]
  exact ⟨fun h => by rw [ck_inj k h1 K h40 h2 hK h], fun h => by rw [h]⟩
theorem lgc_lt {x y : Int64} : (lg_cmp x y).toInt < 0 ↔ x.toInt < y.toInt := by
  unfold lg_cmp
  by_cases h : x > y
  · rw [if_pos h]
    have := Int64.lt_iff_toInt_lt.mp h
    exact ⟨fun h => absurd h (by decide), fun h => by omega⟩
  · rw [if_neg h]
    have h2 : ¬ y.toInt < x.toInt := fun e => h (Int64.lt_iff_toInt_lt.mpr e)
    by_cases e : x = y
    · rw [if_pos e, e]
      exact ⟨fun h => absurd h (by decide), fun h => by omega⟩
    · rw [if_neg e]
      have h3 : x.toInt ≠ y.toInt := fun h => e (Int64.toInt_inj.mp h)
      exact ⟨fun _ => by omega, fun _ => by decide⟩
theorem lgc_gt {x y : Int64} : 0 < (lg_cmp x y).toInt ↔ y.toInt < x.toInt := by
  unfold lg_cmp
  by_cases h : x > y
  · rw [if_pos h]
    have := Int64.lt_iff_toInt_lt.mp h
    exact ⟨fun _ => this, fun _ => by decide⟩
  · rw [if_neg h]
    have h2 : ¬ y.toInt < x.toInt := fun e => h (Int64.lt_iff_toInt_lt.mpr e)
    by_cases e : x = y
    · rw [if_pos e]
      exact ⟨fun h => absurd h (by decide), fun h => absurd h h2⟩
    · rw [if_neg e]
      exact ⟨fun h => absurd h (by decide), fun h => absurd h h2⟩
/-! the state while the class reads -/
def wP (tx a _k : Nat) : Bool := a == 1 || (decide (tx ≤ a) && decide (a ≤ tx + 12))
def wlP (a : Nat) : Bool := a == 7
def wl0 (_a : Nat) : Bool := false
theorem wP_no {tx a k : Nat} (h : 30 ≤ tx) (ha : a < 30) (h1 : a ≠ 1) : wP tx a k = false := by
  unfold wP
  simp only [Bool.or_eq_false_iff, beq_eq_false_iff_ne, ne_eq, Bool.and_eq_false_iff, decide_eq_false_iff_not]
  exact ⟨h1, Or.inl (by omega)⟩
theorem wP_tx {tx a k : Nat} (h1 : tx ≤ a) (h2 : a ≤ tx + 12) : wP tx a k = true := by
  unfold wP
  rw [decide_eq_true h1, decide_eq_true h2]
  simp
theorem wP_1 {tx k : Nat} : wP tx 1 k = true := rfl
section RCS
variable {b : Nat → Int32} {n tx : Nat} {σc σ : HS}
def RC (b : Nat → Int32) (n tx : Nat) (σc : HS) (t : Nat) (σ : HS) : Prop := frm (wP tx) wlP σc σ ∧ t ≤ 400 ∧ (∀ p, p < t → kdT b n p ≠ 0 ∧ kdT b n p ≠ 3) ∧ σ.1 1 5 = nI t ∧ (σ.1 1 6).toInt = ckind (kdT b n t) ∧ (0 ≤ (σ.1 tx 8).toInt ∧ (σ.1 tx 8).toInt ≤ 408)
def FLT (tx : Nat) (σc : HS) (e : FA) (s : HS) : Prop := (s.1 1 2).toInt = e.1 ∧ (s.1 1 1).toInt = e.2 ∧ frm (wP tx) wlP σc s ∧ (0 ≤ (s.1 tx 8).toInt ∧ (s.1 tx 8).toInt ≤ 408)
def plI (b : Nat → Int32) (n : Nat) (t : Nat) : Int := (plT b n t : Nat)
theorem RC.kd {t : Nat} (h : RC b n tx σc t σ) (K : Nat) (h40 : K < 40) (hK : vK K = true) {d : Int} (hd : d = ckind K) : (σ.1 1 6).toInt = d ↔ kdT b n t = K := by
  rw [h.2.2.2.2.1, hd]
  exact ck_eq K h40 hK
theorem RC.tk {t : Nat} (htx : 30 ≤ tx) (hT : TKC b n σc) (h : RC b n tx σc t σ) : (σ.1 5 t).toInt = plI b n t ∧ (kdT b n t = 2 → (σ.2.1 6 t).toInt = vlT b n t) ∧ (kdT b n t = 1 → σ.2.1 6 t = nmT b n t) := by
  have := hT t h.2.1 h.2.2.1
  rw [h.1.1 5 t (wP_no htx (by decide) (by decide)), h.1.2.1 6 rfl]
  exact this.2
def wTk (a k : Nat) : Bool := a == 1 && (k == 5 || k == 6 || k == 7)
theorem w_refuse {t : Nat} {x : Int32} (htx : 30 ≤ tx) (hT : TKC b n σc) (h : RC b n tx σc t σ) : Ok (f_X6_refuse x σ) (fun r s => r = 0 ∧ FLT tx σc (x.toInt, plI b n t) s) := by
  have ht := h.2.1
  unfold f_X6_refuse
  refine Ok.bd ?_
  have a5 : (hI σ 1 2 x).1 1 5 = nI t := by rw [rI_k (by decide)]; exact h.2.2.2.1
  rw [a5, nIt (by omega), Int.toNat_natCast]
  refine Ok.t (by omega) (Ok.bd (Ok.ret ⟨rfl, ?_, ?_, ?_, ?_⟩))
  · rw [rI_k (by decide), rI_s]
  · rw [rI_s, rI_i (by decide)]; exact (RC.tk htx hT h).1
  · exact (h.1.I wP_1).I wP_1
  · rw [rI_i (by omega), rI_i (by omega)]; exact h.2.2.2.2.2
theorem w_take {t : Nat} {K0 : Nat} {d : Int32} (htx : 30 ≤ tx) (hT : TKC b n σc) (h40 : K0 < 40) (hK : vK K0 = true) (hd : d.toInt = ckind K0) (h0 : K0 ≠ 0) (h3 : K0 ≠ 3) (h : RC b n tx σc t σ) : Ok (f_X6_take d σ) (PostC (FLT tx σc) (tkS (kdT b n) (plI b n) K0 t) (fun t1 s => t1 = t + 1 ∧ t < 400 ∧ kdT b n t = K0 ∧ RC b n tx σc (t + 1) s ∧ (kdT b n t = 2 → (s.1 1 7).toInt = vlT b n t) ∧ frm wTk wl0 σ s)) := by
  have ht := h.2.1
  have tk := RC.tk htx hT h
  unfold f_X6_take
  refine Ok.i (fun c => ?_) (fun c => ?_)
  · have ck : kdT b n t = K0 := (h.kd K0 h40 hK hd).mp c
    rw [h.2.2.2.1, nIt (by omega)]
    refine Ok.f (by omega) ?_
    refine Ok.i (fun c1 => ?_) (fun c1 => ?_)
    · refine Ok.t (by omega) (Ok.bd ?_)
      rw [rI_k (show (5 : Nat) ≠ 7 by decide), h.2.2.2.1, nI_1]
      refine Ok.bd ?_
      rw [rI_s, nIt (by omega)]
      refine Ok.t (by omega) (Ok.bd (Ok.ret ?_))
      rw [Int.toNat_natCast, Int.toNat_natCast, rI_i (show (4 : Nat) ≠ 1 by decide), rI_i (show (4 : Nat) ≠ 1 by decide)]
      refine PostC.ok (a := t + 1) ?_ ⟨rfl, by omega, ck, ⟨((h.1.I wP_1).I wP_1).I wP_1, by omega, ?_, ?_, ?_, ?_⟩, ?_, ?_⟩
      · unfold tkS advS; rw [if_pos ck, if_neg (by omega)]
      · intro p hp
        by_cases e : p = t
        · rw [e, ck]; exact ⟨by omega, by omega⟩
        · exact h.2.2.1 p (by omega)
      · rw [rI_k (by decide), rI_s]
      · rw [rI_s, h.1.1 4 (t + 1) (wP_no htx (by decide) (by decide))]
        exact (hT (t + 1) (by omega) (fun p hp => by
          by_cases e : p = t
          · rw [e, ck]; exact ⟨by omega, by omega⟩
          · exact h.2.2.1 p (by omega))).1
      · rw [rI_i (by omega), rI_i (by omega), rI_i (by omega)]; exact h.2.2.2.2.2
      · intro h2
        rw [rI_k (by decide), rI_k (by decide), rI_s]
        have e := tk.2.1 h2
        have hv : 0 ≤ vlT b n t ∧ vlT b n t ≤ 9999 := vl_rg h2
        rw [i32_l2i (by rw [e]; omega), e]
      · exact (((frm.rf).I rfl).I rfl).I rfl
    · have e4 : t = 400 := by omega
      unfold f_X6_take_31
      refine PT ?_
      refine (w_refuse htx hT h (x := 2)).mono (fun r s hq => ?_)
      obtain ⟨rfl, hF⟩ := hq
      refine PostC.err ?_ hF
      unfold tkS advS; rw [if_pos ck, if_pos e4]; rfl
  · have ck : ¬ kdT b n t = K0 := fun e => c ((h.kd K0 h40 hK hd).mpr e)
    refine PT ?_
    refine (w_refuse htx hT h (x := 1)).mono (fun r s hq => ?_)
    obtain ⟨rfl, hF⟩ := hq
    refine PostC.err ?_ hF
    unfold tkS; rw [if_neg ck]; rfl
/-! later faults -/
def LTR (σ : HS) (lt : FA) : Prop := (σ.1 1 3).toInt = lt.1 ∧ (lt.1 ≠ 0 → (σ.1 1 4).toInt = lt.2)
def wNl (a k : Nat) : Bool := a == 1 && (k == 3 || k == 4)
theorem RC.keep {t : Nat} {s : HS} {w : Nat → Nat → Bool} {wl : Nat → Bool} (h : RC b n tx σc t σ) (htx : 30 ≤ tx) (hf : frm w wl σ s) (hw : ∀ a k, wP tx a k = false → w a k = false) (hl : ∀ a, wlP a = false → wl a = false) (h5 : w 1 5 = false) (h6 : w 1 6 = false) (h8 : w tx 8 = false) : RC b n tx σc t s := ⟨h.1.tr (hf.mono hw hl), h.2.1, h.2.2.1, by rw [hf.1 1 5 h5]; exact h.2.2.2.1, by rw [hf.1 1 6 h6]; exact h.2.2.2.2.1, by rw [hf.1 tx 8 h8]; exact h.2.2.2.2.2⟩
theorem w1_no {tx a k : Nat} {f : Nat → Bool} (h : wP tx a k = false) : (a == 1 && f k) = false := by
  unfold wP at h
  simp only [Bool.or_eq_false_iff] at h
  rw [h.1]; rfl
theorem wx_no {tx k : Nat} {f : Nat → Bool} (h : 30 ≤ tx) : (tx == 1 && f k) = false := by
  rw [show (tx == 1) = false from by simp; omega]; rfl
theorem wNl_no {tx a k : Nat} (h : wP tx a k = false) : wNl a k = false := w1_no (f := fun k => k == 3 || k == 4) h
theorem wNl_x {tx k : Nat} (h : 30 ≤ tx) : wNl tx k = false := wx_no (f := fun k => k == 3 || k == 4) h
theorem w_noteLater {t : Nat} {x : Int32} {lt : FA} (htx : 30 ≤ tx) (hT : TKC b n σc) (h : RC b n tx σc t σ) (hl : LTR σ lt) (hx : x.toInt ≠ 0) : Okv (f_X6_noteLater x σ) (fun s => RC b n tx σc t s ∧ LTR s (ltS (plI b n) t x.toInt lt) ∧ frm wNl wl0 σ s) := by
  have ht := h.2.1
  unfold f_X6_noteLater
  refine Okv.i (fun c => ?_) (fun c => ?_)
  · refine Okv.bd ?_
    have a5 : (hI σ 1 3 x).1 1 5 = nI t := by rw [rI_k (by decide)]; exact h.2.2.2.1
    rw [a5, nIt (by omega), Int.toNat_natCast]
    refine Okv.t (by omega) (Okv.bd (Okv.ret ?_))
    have hf : frm wNl wl0 σ (hI (hI σ 1 3 x) 1 4 ((hI σ 1 3 x).1 5 t)) := (frm.rf.I rfl).I rfl
    refine ⟨h.keep htx hf (fun a k e => wNl_no e) (fun _ _ => rfl) rfl rfl (wNl_x htx), ?_, hf⟩
    unfold ltS
    rw [if_pos (by rw [← hl.1]; exact c)]
    refine ⟨?_, fun _ => ?_⟩
    · rw [rI_k (by decide), rI_s]
    · rw [rI_s, rI_i (by decide)]; exact (RC.tk htx hT h).1
  · refine Okv.ret ⟨h, ?_, frm.rf⟩
    unfold ltS
    rw [if_neg (by rw [← hl.1]; exact c)]
    exact hl
end RCS
