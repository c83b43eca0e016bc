/-! the class's laws, its statements, its reading -/
section STE
variable {b : Nat → Int32} {n tx : Nat} {σc σ : HS}
def wLw (tx k0 a k : Nat) : Bool := wX tx a k || (a == tx + 12 && k == k0)
theorem wX_Lw {k0 a k : Nat} (h : wLw tx k0 a k = false) : wX tx a k = false := by unfold wLw at h; simp only [Bool.or_eq_false_iff] at h; exact h.1
/-- what a told law leaves -/
def KL (b : Nat → Int32) (n tx : Nat) (σc : HS) (t p k0 : Nat) (σ : HS) (a : Nat × LAWT) (s : HS) : Prop := t < a.1 ∧ RC b n tx σc a.1 s ∧ s.1 tx 8 = nI (p + (layL p a.2).length) ∧ seg s (tx + 11) p (layL p a.2) ∧ (∀ q, q < p → s.1 (tx + 11) q = σ.1 (tx + 11) q) ∧ p + (layL p a.2).length ≤ 8 + a.1 ∧ s.1 (tx + 12) k0 = nI p ∧ frm (wLw tx k0) wl0 σ s
theorem w_ifs (htx : txk tx) (hT : TKC b n σc) {t p : Nat} : ∀ (m N y t1 : Nat) (brs : List (COD × COD × COD)) (s : HS), y + m = 4 → m < N → t < t1 → RC b n tx σc t1 s → CD tx σ p (layB p brs) s → p + (layB p brs).length + 1 ≤ 8 + t1 → Ok (f_X6_tellingLaw_33 tx N (nI y) s) (PostC (FLT tx σc) (ifsS (kdT b n) (vlT b n) (plI b n) m brs t1) (fun a s => t < a.1 ∧ RC b n tx σc a.1 s ∧ CD tx σ p (layL p a.2) s ∧ p + (layL p a.2).length ≤ 8 + a.1)) := by
  have lo := htx.lo
  have fin : ∀ (t1 : Nat) (brs : List (COD × COD × COD)) (s : HS), t < t1 → ¬ kdT b n t1 = 28 → RC b n tx σc t1 s → CD tx σ p (layB p brs) s → p + (layB p brs).length + 1 ≤ 8 + t1 → Ok (f_X6_tellingLaw_63 tx s) (PostC (FLT tx σc) (lastS (kdT b n) (vlT b n) (plI b n) brs t1) (fun a s => t < a.1 ∧ RC b n tx σc a.1 s ∧ CD tx σ p (layL p a.2) s ∧ p + (layL p a.2).length ≤ 8 + a.1)) := by
    intro t1 brs s htt hk hR hD hp
    unfold f_X6_tellingLaw_63 lastS
    refine Ok.f (fun c => hk ((hR.kd 28 (by decide) rfl rfl).mp c)) ?_
    refine PB (w_exS htx hT hR hD.2.1 (by omega)) (fun a s2 _ h2 => ?_)
    have d2 := hD.add h2.cd
    have l2 := h2.2.2.2.2.1
    have r2 := h2.2.1
    have n2 : (layB p brs ++ enc a.2).length = (layB p brs).length + a.2.length := by rw [List.length_append, enc_len]
    have t2 := r2.2.1
    refine Ok.cve (e_emit htx d2.2.1 (by omega)) ?_
    have d3 := d2.em (x := -6) (v := -6) rfl
    have r3 := r2.em htx (emS_fr (p := p + (layB p brs ++ enc a.2).length) (x := -6)) (by rw [emS_8, nIt (by omega)]; omega)
    refine PT ?_
    refine PostC.map (w_take (K0 := 4) (d := 59) lo hT (by decide) rfl rfl (by decide) (by decide) r3) (fun t3 s4 _ h4 => ?_)
    obtain ⟨rfl, -, -, r4, -, f4⟩ := h4
    refine ⟨_, rfl, by have := h2.1; simp only; omega, r4, d3.tk lo f4, ?_⟩
    show p + (layB p brs ++ enc a.2 ++ [-6]).length ≤ 8 + (a.1 + 1)
    rw [List.length_append, n2]
    simp only [List.length_singleton]
    omega
  intro m
  induction m with
  | zero =>
    intro N y t1 brs s hy hN htt hR hD hp
    obtain ⟨N, rfl⟩ : ∃ q, N = q + 1 := ⟨N - 1, by omega⟩
    show Ok (b_X6_tellingLaw_33 tx (f_X6_tellingLaw_33 tx N) (nI y) s) (PostC _ (if kdT b n t1 = 28 then .error (2, plI b n t1) else _) _)
    unfold b_X6_tellingLaw_33
    by_cases c : kdT b n t1 = 28
    · rw [if_pos c]
      refine Ok.t ((hR.kd 28 (by decide) rfl rfl).mpr c) (Ok.f (by rw [nIt (by omega)]; omega) ?_)
      unfold f_X6_tellingLaw_63
      refine Ok.t ((hR.kd 28 (by decide) rfl rfl).mpr c) (PT ?_)
      refine (w_refuse lo hT hR (x := 2)).mono (fun r s hq => ?_)
      obtain ⟨rfl, hF⟩ := hq
      exact PostC.err rfl hF
    · rw [if_neg c]
      exact Ok.f (fun e => c ((hR.kd 28 (by decide) rfl rfl).mp e)) (fin t1 brs s htt c hR hD hp)
  | succ m ih =>
    intro N y t1 brs s hy hN htt hR hD hp
    obtain ⟨N, rfl⟩ : ∃ q, N = q + 1 := ⟨N - 1, by omega⟩
    show Ok (b_X6_tellingLaw_33 tx (f_X6_tellingLaw_33 tx N) (nI y) s) (PostC _ (if kdT b n t1 = 28 then _ else _) _)
    unfold b_X6_tellingLaw_33
    by_cases c : kdT b n t1 = 28
    · rw [if_pos c]
      refine Ok.t ((hR.kd 28 (by decide) rfl rfl).mpr c) (Ok.t (by rw [nIt (by omega)]; omega) ?_)
      refine PB (w_cond htx hT hR hD.2.1 (by omega)) (fun a s2 _ h2 => ?_)
      obtain ⟨a1, a2, a3, a4⟩ := h2
      have d2 := hD.add a3
      rw [← layB_snoc] at d2
      refine Ok.bd ?_
      rw [nI_1]
      refine ih N (y + 1) a.1 (brs ++ [a.2]) s2 (by omega) (by omega) (by omega) a2 d2 ?_
      rw [layB_snoc, List.length_append, layO_len]
      omega
    · rw [if_neg c]
      exact Ok.f (fun e => c ((hR.kd 28 (by decide) rfl rfl).mp e)) (fin t1 brs s htt c hR hD hp)
theorem w_law {t p k0 : Nat} {x2 : Int32} (htx : txk tx) (hT : TKC b n σc) (h : RC b n tx σc t σ) (hp : σ.1 tx 8 = nI p) (hpt : p ≤ 8 + t) (hk : k0 < 4) (hx : x2.toInt = (k0 : Int) + 2) : Ok (f_X6_tellingLaw tx x2 σ) (PostC (FLT tx σc) (lawS (kdT b n) (vlT b n) (plI b n) (22 + k0 : Nat) t) (KL b n tx σc t p k0 σ)) := by
  have lo := htx.lo
  have ht := h.2.1
  have ek : (x2 - 2).toInt = (k0 : Int) := by rw [i32_sub (by rw [hx, show (2 : Int32).toInt = 2 from rfl]; omega), hx, show (2 : Int32).toInt = 2 from rfl]; omega
  unfold f_X6_tellingLaw lawS
  rw [ek, Int.toNat_natCast, hp]
  refine Ok.t (by omega) (Ok.bd ?_)
  generalize hs1 : hI σ (tx + 12) k0 (nI p) = s1
  have r1 : RC b n tx σc t s1 := by rw [← hs1]; exact h.wr lo (by omega) (by omega) (Or.inl (by omega))
  have p1 : s1.1 tx 8 = nI p := by rw [← hs1, rI_i (by omega)]; exact hp
  refine PB (w_take (K0 := 22 + k0) (d := x2) lo hT (by omega) (by unfold vK; rw [decide_eq_true (show 20 ≤ 22 + k0 by omega)]; simp) (by rw [hx]; unfold ckind; rw [if_pos (by omega)]; omega) (by omega) (by omega) r1) (fun t2 s2 _ h2 => ?_)
  obtain ⟨rfl, -, -, r2, -, f2⟩ := h2
  have d2 := (CD.nil p1).tk lo f2
  refine PB (w_take (K0 := 5) (d := 61) lo hT (by decide) rfl rfl (by decide) (by decide) r2) (fun t3 s3 _ h3 => ?_)
  obtain ⟨rfl, -, -, r3, -, f3⟩ := h3
  have d3 := d2.tk lo f3
  rw [nI0]
  refine (w_ifs (t := t) (σ := s1) (p := p) htx hT 4 5000 0 (t + 1 + 1) [] s3 rfl (by omega) (by omega) r3 d3 (by show p + 0 + 1 ≤ _; omega)).mono (fun r s hq => ?_)
  revert hq
  cases ifsS (kdT b n) (vlT b n) (plI b n) 4 [] (t + 1 + 1) with
  | error e => exact fun hq => hq
  | ok a =>
    rintro ⟨h1, h2, h3, h4, h5⟩
    refine ⟨h1, h2, h3, h4.2.1, h4.2.2.1, fun q hq => ?_, h5, ?_, ?_⟩
    · rw [h4.2.2.2 q hq, ← hs1, rI_i (by omega)]
    · rw [h4.1.1 (tx + 12) k0 (by unfold wX; simp), ← hs1, rI_s]
    · have : frm (wLw tx k0) wl0 σ s1 := by rw [← hs1]; exact frm.rf.I (by unfold wLw; simp)
      exact this.tr (h4.1.mono (fun _ _ => wX_Lw) (fun _ e => e))
/-! what the class's text holds -/
def lawO (k : Nat) (o : Option LAWT) : LAWT := o.getD ([], if k = 2 then [(1, 1)] else [(0, 0)])
def LWC (tx : Nat) (s : HS) (p k : Nat) (L : LAWT) : Prop := ∃ q, s.1 (tx + 12) k = nI q ∧ q + (layL q L).length ≤ p ∧ seg s (tx + 11) q (layL q L)
def DTc (tx : Nat) (s : HS) (d : Nat × (Nat → Int) × (Nat → Int) × (Nat → Int)) : Prop := s.1 tx 0 = nI d.1 ∧ d.1 ≤ 7 ∧ ∀ e, e < d.1 → (s.1 (tx + 1) e).toInt = d.2.1 e ∧ (s.1 (tx + 2) e).toInt = d.2.2.1 e ∧ (s.1 (tx + 3) e).toInt = d.2.2.2 e
def DPc (tx : Nat) (s : HS) (d : Nat × (Nat → Nat) × (Nat → Nat → Int)) : Prop := s.1 tx 4 = nI d.1 ∧ d.1 ≤ 5 ∧ ∀ p, p < d.1 → s.1 (tx + 10) p = nI (d.2.1 p) ∧ (1 ≤ d.2.1 p ∧ d.2.1 p ≤ 8) ∧ ∀ i, i < d.2.1 p → (s.1 (tx + 5 + p) i).toInt = d.2.2 p i
def DRc (tx : Nat) (s : HS) (d : Int × Int) : Prop := (s.1 tx 10).toInt = d.1 ∧ (s.1 tx 11).toInt = d.2
def DLc (tx : Nat) (s : HS) (p : Nat) (d : Nat → Option LAWT) : Prop := ∀ k, k < 4 → LWC tx s p k (lawO k (d k))
/-- between two statements -/
def TCs (b : Nat → Int32) (n tx : Nat) (σc : HS) (S : PST) (s : HS) : Prop := RC b n tx σc S.1 s ∧ NMS s S.2.1.1 S.2.1.2 ∧ LTR s S.2.2.1 ∧ (S.2.1.1 = S.2.2.2.1.1.1 + S.2.2.2.1.2.1) ∧ DTc tx s S.2.2.2.1.1 ∧ DPc tx s S.2.2.2.1.2 ∧ DRc tx s S.2.2.2.2.1 ∧ (∃ p, s.1 tx 8 = nI p ∧ p ≤ 8 + S.1 ∧ DLc tx s p S.2.2.2.2.2) ∧ s.1 1 1 = σc.1 1 1 ∧ s.1 1 2 = σc.1 1 2
theorem DTc.fr {w : Nat → Nat → Bool} {wl : Nat → Bool} {s : HS} {d : Nat × (Nat → Int) × (Nat → Int) × (Nat → Int)} (h : DTc tx σ d) (hf : frm w wl σ s) (h0 : w tx 0 = false) (h1 : ∀ e, w (tx + 1) e = false) (h2 : ∀ e, w (tx + 2) e = false) (h3 : ∀ e, w (tx + 3) e = false) : DTc tx s d := ⟨by rw [hf.1 _ _ h0]; exact h.1, h.2.1, fun e he => by rw [hf.1 _ _ (h1 e), hf.1 _ _ (h2 e), hf.1 _ _ (h3 e)]; exact h.2.2 e he⟩
theorem DPc.fr {w : Nat → Nat → Bool} {wl : Nat → Bool} {s : HS} {d : Nat × (Nat → Nat) × (Nat → Nat → Int)} (h : DPc tx σ d) (hf : frm w wl σ s) (h4 : w tx 4 = false) (h10 : ∀ e, w (tx + 10) e = false) (h5 : ∀ p e, p < 5 → w (tx + 5 + p) e = false) : DPc tx s d := ⟨by rw [hf.1 _ _ h4]; exact h.1, h.2.1, fun p hp => ⟨by rw [hf.1 _ _ (h10 p)]; exact (h.2.2 p hp).1, (h.2.2 p hp).2.1, fun i hi => by rw [hf.1 _ _ (h5 p i (by have := h.2.1; omega))]; exact (h.2.2 p hp).2.2 i hi⟩⟩
theorem DRc.fr {w : Nat → Nat → Bool} {wl : Nat → Bool} {s : HS} {d : Int × Int} (h : DRc tx σ d) (hf : frm w wl σ s) (h10 : w tx 10 = false) (h11 : w tx 11 = false) : DRc tx s d := ⟨by rw [hf.1 _ _ h10]; exact h.1, by rw [hf.1 _ _ h11]; exact h.2⟩
theorem DLc.fr {w : Nat → Nat → Bool} {wl : Nat → Bool} {s : HS} {p : Nat} {d : Nat → Option LAWT} (h : DLc tx σ p d) (hf : frm w wl σ s) (h11 : ∀ e, w (tx + 11) e = false) (h12 : ∀ e, w (tx + 12) e = false) : DLc tx s p d := fun k hk => by
  obtain ⟨q, a, c, e⟩ := h k hk
  exact ⟨q, by rw [hf.1 _ _ (h12 k)]; exact a, c, e.same (fun x _ _ => hf.1 _ _ (h11 x))⟩
theorem w_telling {S : PST} (htx : txk tx) (hT : TKC b n σc) (h : TCs b n tx σc S σ) : Ok (f_X6_telling tx σ) (PostC (FLT tx σc) (tellS (kdT b n) (vlT b n) (plI b n) (nmT b n) S) (fun S1 s => S.1 < S1.1 ∧ TCs b n tx σc S1 s)) := by
  have lo := htx.lo
  obtain ⟨hR, hN, hL, hc, hDT, hDP, hDR, ⟨p, hp, hpt, hDL⟩, hf1, hf2⟩ := h
  unfold f_X6_telling tellS
  by_cases c20 : kdT b n S.1 = 20
  · rw [if_pos c20]
    refine Ok.t ((hR.kd 20 (by decide) rfl rfl).mpr c20) (PT ?_)
    refine PostC.map (w_thing htx hT hR hL hN (fun h7 => by have := hDP.2.1; omega) hDT.1 hDT.2.1) (fun a s _ h1 => ?_)
    obtain ⟨a1, a2, a3, a4, a5, a6, a7, a8, a9, a10⟩ := h1
    refine ⟨_, rfl, a1, a2, a4, a3, by show S.2.1.1 + 1 = S.2.2.2.1.1.1 + 1 + S.2.2.2.1.2.1; omega, ?_, ?_, ?_, ⟨p, ?_, by omega, ?_⟩, ?_, ?_⟩
    · refine ⟨a6, by show S.2.2.2.1.1.1 + 1 ≤ 7; omega, fun e he => ?_⟩
      have he : e < S.2.2.2.1.1.1 + 1 := he
      show _ = upI _ _ _ e ∧ _ = upI _ _ _ e ∧ _ = upI _ _ _ e
      unfold upI
      by_cases c : e = S.2.2.2.1.1.1
      · rw [c, if_pos rfl, if_pos rfl, if_pos rfl]; exact ⟨a7, a8, a9⟩
      · rw [if_neg c, if_neg c, if_neg c]
        have wn : ∀ d, (d = 1 ∨ d = 2 ∨ d = 3) → wTh tx S.2.2.2.1.1.1 (tx + d) e = false := fun d hd => by
          unfold wTh
          rw [wRd_x (by omega)]
          simp only [Bool.false_or, Bool.or_eq_false_iff, Bool.and_eq_false_iff, beq_eq_false_iff_ne]
          exact ⟨Or.inl (by omega), Or.inr c⟩
        rw [a10.1 _ _ (wn 1 (by omega)), a10.1 _ _ (wn 2 (by omega)), a10.1 _ _ (wn 3 (by omega))]
        exact hDT.2.2 e (by omega)
    · refine hDP.fr a10 ?_ (fun e => ?_) (fun p e hp => ?_) <;> (unfold wTh; rw [wRd_x (by omega)]; simp <;> omega)
    · refine hDR.fr a10 ?_ ?_ <;> (unfold wTh; rw [wRd_x (by omega)]; simp)
    · rw [a10.1 tx 8 (by unfold wTh; rw [wRd_x (by omega)]; simp)]; exact hp
    · refine hDL.fr a10 (fun e => ?_) (fun e => ?_) <;> (unfold wTh; rw [wRd_x (by omega)]; simp)
    · rw [a10.1 1 1 (by unfold wTh wRd; simp; omega)]; exact hf1
    · rw [a10.1 1 2 (by unfold wTh wRd; simp; omega)]; exact hf2
  rw [if_neg c20]
  refine Ok.f (fun c => c20 ((hR.kd 20 (by decide) rfl rfl).mp c)) ?_
  by_cases c21 : kdT b n S.1 = 21
  · rw [if_pos c21]
    refine Ok.t ((hR.kd 21 (by decide) rfl rfl).mpr c21) (PT ?_)
    refine PostC.map (w_pattern htx hT hR hL hN (fun h7 => by have := hDT.2.1; omega) hDP.1 hDP.2.1) (fun a s _ h1 => ?_)
    obtain ⟨a0, a1, a2, a3, a4, a5, a6, a7, a8, a10⟩ := h1
    have wf : ∀ (a k : Nat), 30 ≤ a → (a = tx → k ≠ 4) → a ≠ tx + 5 + S.2.2.2.1.2.1 → (a = tx + 10 → k ≠ S.2.2.2.1.2.1) → wPt tx S.2.2.2.1.2.1 a k = false := fun a k h1 h2 h3 h4 => by
      unfold wPt
      rw [wRd_x h1]
      simp only [Bool.false_or, Bool.or_eq_false_iff, Bool.and_eq_false_iff, beq_eq_false_iff_ne]
      refine ⟨⟨?_, h3⟩, ?_⟩
      · by_cases e : a = tx
        · exact Or.inr (h2 e)
        · exact Or.inl e
      · by_cases e : a = tx + 10
        · exact Or.inr (h4 e)
        · exact Or.inl e
    refine ⟨_, rfl, a1, a2, a4, a3, by show S.2.1.1 + 1 = S.2.2.2.1.1.1 + (S.2.2.2.1.2.1 + 1); omega, ?_, ?_, ?_, ⟨p, ?_, by omega, ?_⟩, ?_, ?_⟩
    · exact hDT.fr a10 (wf _ _ lo (by omega) (by omega) (by omega)) (fun e => wf _ _ (by omega) (by omega) (by omega) (by omega)) (fun e => wf _ _ (by omega) (by omega) (by omega) (by omega)) (fun e => wf _ _ (by omega) (by omega) (by omega) (by omega))
    · refine ⟨a5, by show S.2.2.2.1.2.1 + 1 ≤ 5; omega, fun e he => ?_⟩
      have he : e < S.2.2.2.1.2.1 + 1 := he
      by_cases c : e = S.2.2.2.1.2.1
      · subst c
        show _ = nI (if _ = _ then a.2.1 else _) ∧ (1 ≤ (if _ = _ then a.2.1 else _) ∧ (if _ = _ then a.2.1 else _) ≤ 8) ∧ ∀ i, i < (if _ = _ then a.2.1 else _) → _ = (if _ = _ then a.2.2.1 else _) i
        rw [if_pos rfl, if_pos rfl]
        exact ⟨a6, a7, a8⟩
      · show _ = nI (if _ = _ then a.2.1 else _) ∧ (1 ≤ (if _ = _ then a.2.1 else _) ∧ (if _ = _ then a.2.1 else _) ≤ 8) ∧ ∀ i, i < (if _ = _ then a.2.1 else _) → _ = (if _ = _ then a.2.2.1 else _) i
        rw [if_neg c, if_neg c, a10.1 _ _ (wf (tx + 10) e (by omega) (by omega) (by omega) (by omega))]
        have := hDP.2.2 e (by omega)
        refine ⟨this.1, this.2.1, fun i hi => ?_⟩
        rw [a10.1 _ _ (wf (tx + 5 + e) i (by omega) (by omega) (by omega) (by have := hDP.2.1; omega))]
        exact this.2.2 i hi
    · exact hDR.fr a10 (wf _ _ lo (by omega) (by omega) (by omega)) (wf _ _ lo (by omega) (by omega) (by omega))
    · rw [a10.1 tx 8 (wf _ _ lo (by omega) (by omega) (by omega))]; exact hp
    · exact hDL.fr a10 (fun e => wf _ _ (by omega) (by omega) (by omega) (by omega)) (fun e => wf _ _ (by omega) (by omega) (by omega) (by omega))
    · rw [a10.1 1 1 (by unfold wPt wRd; simp; omega)]; exact hf1
    · rw [a10.1 1 2 (by unfold wPt wRd; simp; omega)]; exact hf2
  rw [if_neg c21]
  refine Ok.f (fun c => c21 ((hR.kd 21 (by decide) rfl rfl).mp c)) ?_
  obtain ⟨kk, k1, k2, k3⟩ := kd_vK b n S.1
  have ckk : (σ.1 1 6).toInt = ckind (kk : Nat) := by rw [hR.2.2.2.2.1, k3]
  have vt : ∀ k, k < 40 → (vK k && k != 20 && k != 21) = true → ((2 ≤ ckind (k : Nat) ∧ ckind (k : Nat) ≤ 5) ↔ (22 ≤ k ∧ k ≤ 25)) := by decide +kernel
  have vv := vt kk k1 (by rw [k2]; simp; omega)
  -- a statement of one number, or none
  have t53 : ¬ (22 ≤ kdT b n S.1 ∧ kdT b n S.1 ≤ 25) → Ok (f_X6_telling_53 tx σ) (PostC (FLT tx σc) (if 22 ≤ kdT b n S.1 ∧ kdT b n S.1 ≤ 25 then lawS (kdT b n) (vlT b n) (plI b n) (kdT b n S.1) S.1 >>= fun a => .ok (a.1, S.2.1, S.2.2.1, upLw S.2.2.2 (kdT b n S.1 - 22).toNat a.2) else if kdT b n S.1 = 26 then oneS (kdT b n) (vlT b n) (plI b n) 26 99 S.1 S.2.2.1 >>= fun a => .ok (a.1, S.2.1, a.2.2, (S.2.2.2.1, (a.2.1, S.2.2.2.2.1.2), S.2.2.2.2.2)) else if kdT b n S.1 = 27 then oneS (kdT b n) (vlT b n) (plI b n) 27 9999 S.1 S.2.2.1 >>= fun a => .ok (a.1, S.2.1, a.2.2, (S.2.2.2.1, (S.2.2.2.2.1.1, a.2.1), S.2.2.2.2.2)) else .error (1, plI b n S.1)) (fun S1 s => S.1 < S1.1 ∧ TCs b n tx σc S1 s)) := by
    intro hv
    rw [if_neg hv]
    have wf : ∀ (j a k : Nat), 30 ≤ a → (a = tx → k ≠ j) → wOn tx j a k = false := fun j a k h1 h2 => by
      unfold wOn
      rw [show wNm a k = false from wNm_x h1]
      simp only [Bool.false_or, Bool.and_eq_false_iff, beq_eq_false_iff_ne]
      by_cases e : a = tx
      · exact Or.inr (h2 e)
      · exact Or.inl e
    unfold f_X6_telling_53
    by_cases c26 : kdT b n S.1 = 26
    · rw [if_pos c26]
      refine Ok.t ((hR.kd 26 (by decide) rfl rfl).mpr c26) ?_
      refine PostC.map (w_one (j := 10) (K0 := 26) (d := 6) (x2 := 99) (f85 := f_X6_telling_85 tx) (f86 := f_X6_telling_86 tx) (fun _ => rfl) (fun _ _ => rfl) htx hT (by decide) rfl rfl (by decide) (by decide) (by decide) hR hL) (fun a s _ h1 => ?_)
      obtain ⟨a1, a2, a3, a4, a10⟩ := h1
      refine ⟨_, rfl, a1, a2, hN.fr a10 (by unfold wOn wNm; simp <;> omega) rfl, a3, hc, ?_, ?_, ⟨a4, ?_⟩, ⟨p, ?_, by omega, ?_⟩, ?_, ?_⟩
      · exact hDT.fr a10 (wf _ _ _ lo (by omega)) (fun e => wf _ _ _ (by omega) (by omega)) (fun e => wf _ _ _ (by omega) (by omega)) (fun e => wf _ _ _ (by omega) (by omega))
      · exact hDP.fr a10 (wf _ _ _ lo (by omega)) (fun e => wf _ _ _ (by omega) (by omega)) (fun p e _ => wf _ _ _ (by omega) (by omega))
      · rw [a10.1 tx 11 (wf _ _ _ lo (by omega))]; exact hDR.2
      · rw [a10.1 tx 8 (wf _ _ _ lo (by omega))]; exact hp
      · exact hDL.fr a10 (fun e => wf _ _ _ (by omega) (by omega)) (fun e => wf _ _ _ (by omega) (by omega))
      · rw [a10.1 1 1 (by unfold wOn wNm; simp <;> omega)]; exact hf1
      · rw [a10.1 1 2 (by unfold wOn wNm; simp <;> omega)]; exact hf2
    rw [if_neg c26]
    refine Ok.f (fun c => c26 ((hR.kd 26 (by decide) rfl rfl).mp c)) ?_
    by_cases c27 : kdT b n S.1 = 27
    · rw [if_pos c27]
      refine Ok.t ((hR.kd 27 (by decide) rfl rfl).mpr c27) ?_
      refine PostC.map (w_one (j := 11) (K0 := 27) (d := 7) (x2 := 9999) (f85 := f_X6_telling_147 tx) (f86 := f_X6_telling_148 tx) (fun _ => rfl) (fun _ _ => rfl) htx hT (by decide) rfl rfl (by decide) (by decide) (by decide) hR hL) (fun a s _ h1 => ?_)
      obtain ⟨a1, a2, a3, a4, a10⟩ := h1
      refine ⟨_, rfl, a1, a2, hN.fr a10 (by unfold wOn wNm; simp <;> omega) rfl, a3, hc, ?_, ?_, ⟨?_, a4⟩, ⟨p, ?_, by omega, ?_⟩, ?_, ?_⟩
      · exact hDT.fr a10 (wf _ _ _ lo (by omega)) (fun e => wf _ _ _ (by omega) (by omega)) (fun e => wf _ _ _ (by omega) (by omega)) (fun e => wf _ _ _ (by omega) (by omega))
      · exact hDP.fr a10 (wf _ _ _ lo (by omega)) (fun e => wf _ _ _ (by omega) (by omega)) (fun p e _ => wf _ _ _ (by omega) (by omega))
      · rw [a10.1 tx 10 (wf _ _ _ lo (by omega))]; exact hDR.1
      · rw [a10.1 tx 8 (wf _ _ _ lo (by omega))]; exact hp
      · exact hDL.fr a10 (fun e => wf _ _ _ (by omega) (by omega)) (fun e => wf _ _ _ (by omega) (by omega))
      · rw [a10.1 1 1 (by unfold wOn wNm; simp <;> omega)]; exact hf1
      · rw [a10.1 1 2 (by unfold wOn wNm; simp <;> omega)]; exact hf2
    rw [if_neg c27]
    refine Ok.f (fun c => c27 ((hR.kd 27 (by decide) rfl rfl).mp c)) (PT ?_)
    refine (w_refuse lo hT hR (x := 1)).mono (fun r s hq => ?_)
    obtain ⟨rfl, hF⟩ := hq
    exact PostC.err rfl hF
  refine Ok.i (fun c1 => t53 (by omega)) (fun c1 => ?_)
  refine Ok.i (fun c2 => t53 (by omega)) (fun c2 => ?_)
  have hk := vv.mp (by omega)
  rw [if_pos (by omega)]
  obtain ⟨k0, rfl⟩ : ∃ k0, kk = 22 + k0 := ⟨kk - 22, by omega⟩
  have ck : (σ.1 1 6).toInt = (k0 : Int) + 2 := by rw [ckk]; unfold ckind; rw [if_pos (by omega)]; omega
  refine PT ?_
  have hw := w_law (k0 := k0) htx hT hR hp hpt (by omega) ck
  rw [k3]
  refine PostC.map hw (fun a s _ h1 => ?_)
  obtain ⟨a1, a2, a3, a4, a5, a6, a7, a10⟩ := h1
  have wf : ∀ (a k : Nat), 30 ≤ a → (a = tx → k ≠ 8) → a ≠ tx + 11 → (a = tx + 12 → k ≠ k0) → wLw tx k0 a k = false := fun a k h1 h2 h3 h4 => by
    unfold wLw wX
    simp only [Bool.or_eq_false_iff, Bool.and_eq_false_iff, beq_eq_false_iff_ne]
    refine ⟨⟨⟨Or.inl (by omega), ?_⟩, h3⟩, ?_⟩
    · by_cases e : a = tx
      · exact Or.inr (h2 e)
      · exact Or.inl e
    · by_cases e : a = tx + 12
      · exact Or.inr (h4 e)
      · exact Or.inl e
  have w1 : ∀ k, (k = 1 ∨ k = 2 ∨ k = 3 ∨ k = 4 ∨ k = 9) → wLw tx k0 1 k = false := fun k hk => by
    unfold wLw wX
    rcases hk with rfl | rfl | rfl | rfl | rfl <;> simp <;> omega
  refine ⟨_, rfl, a1, a2, hN.fr a10 (w1 9 (by omega)) rfl, hL.fr a10 (w1 3 (by omega)) (w1 4 (by omega)), hc, ?_, ?_, ?_, ⟨p + (layL p a.2).length, a3, a6, ?_⟩, ?_, ?_⟩
  · exact hDT.fr a10 (wf _ _ lo (by omega) (by omega) (by omega)) (fun e => wf _ _ (by omega) (by omega) (by omega) (by omega)) (fun e => wf _ _ (by omega) (by omega) (by omega) (by omega)) (fun e => wf _ _ (by omega) (by omega) (by omega) (by omega))
  · exact hDP.fr a10 (wf _ _ lo (by omega) (by omega) (by omega)) (fun e => wf _ _ (by omega) (by omega) (by omega) (by omega)) (fun p e _ => wf _ _ (by omega) (by omega) (by omega) (by omega))
  · exact hDR.fr a10 (wf _ _ lo (by omega) (by omega) (by omega)) (wf _ _ lo (by omega) (by omega) (by omega))
  · intro k hk4
    show LWC tx s _ k (lawO k (if k = (((22 + k0 : Nat) : Int) - 22).toNat then some a.2 else S.2.2.2.2.2 k))
    rw [show (((22 + k0 : Nat) : Int) - 22).toNat = k0 by omega]
    by_cases e : k = k0
    · rw [if_pos e, e]
      exact ⟨p, a7, Nat.le_refl _, a4⟩
    · rw [if_neg e]
      obtain ⟨q, q1, q2, q3⟩ := hDL k hk4
      exact ⟨q, by rw [a10.1 _ _ (wf (tx + 12) k (by omega) (by omega) (by omega) (fun _ => e))]; exact q1, by omega, q3.same (fun x _ h => a5 x (by omega))⟩
  · rw [a10.1 1 1 (w1 1 (by omega))]; exact hf1
  · rw [a10.1 1 2 (w1 2 (by omega))]; exact hf2
end STE
