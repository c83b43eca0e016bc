/-! the reference's statements -/
section MST
variable {b : Nat → Int32} {n sd : Nat} {σc σ s : HS}
def DTm (sd : Nat) (s : HS) (d : Nat × (Nat → Int) × (Nat → Int) × (Nat → Int)) : Prop := s.1 245 sd = nI d.1 ∧ d.1 ≤ 7 ∧ ∀ e, e < d.1 → (s.1 246 (7 * sd + e)).toInt = d.2.1 e ∧ (s.1 247 (7 * sd + e)).toInt = d.2.2.1 e ∧ (s.1 248 (7 * sd + e)).toInt = d.2.2.2 e
def DPm (sd : Nat) (s : HS) (d : Nat × (Nat → Nat) × (Nat → Nat → Int)) : Prop := s.1 249 sd = nI d.1 ∧ d.1 ≤ 5 ∧ ∀ p, p < d.1 → s.1 250 (5 * sd + p) = nI (d.2.1 p) ∧ (1 ≤ d.2.1 p ∧ d.2.1 p ≤ 8) ∧ ∀ i, i < d.2.1 p → (s.1 251 (8 * (5 * sd + p) + i)).toInt = d.2.2 p i
def DRm (sd : Nat) (s : HS) (d : Int × Int) : Prop := (s.1 252 sd).toInt = d.1 ∧ (s.1 253 sd).toInt = d.2
def LOm (sd : Nat) (s : HS) (hi P k : Nat) : Option LAWT → Prop
  | none => s.1 254 (4 * sd + k) = 0 ∧ s.1 255 (4 * sd + k) = 0
  | some L => ∃ p0, s.1 254 (4 * sd + k) = nI p0 ∧ s.1 255 (4 * sd + k) = nI (p0 + L.1.length + 1) ∧ 130 * sd ≤ p0 ∧ p0 + L.1.length + 1 ≤ P ∧ LWm s (420 * sd) hi p0 L
def DLm (sd : Nat) (s : HS) (hi P : Nat) (d : Nat → Option LAWT) : Prop := ∀ k, k < 4 → LOm sd s hi P k (d k)
theorem DTm.fr {w : Nat → Nat → Bool} {wl : Nat → Bool} {d : Nat × (Nat → Int) × (Nat → Int) × (Nat → Int)} (h : DTm sd σ d) (hf : frm w wl σ s) (hw : ∀ a k, 245 ≤ a → a ≤ 248 → w a k = false) : DTm sd s d := ⟨by rw [hf.1 _ _ (hw _ _ (by omega) (by omega))]; exact h.1, h.2.1, fun e he => by rw [hf.1 _ _ (hw 246 _ (by omega) (by omega)), hf.1 _ _ (hw 247 _ (by omega) (by omega)), hf.1 _ _ (hw 248 _ (by omega) (by omega))]; exact h.2.2 e he⟩
theorem DPm.fr {w : Nat → Nat → Bool} {wl : Nat → Bool} {d : Nat × (Nat → Nat) × (Nat → Nat → Int)} (h : DPm sd σ d) (hf : frm w wl σ s) (hw : ∀ a k, 249 ≤ a → a ≤ 251 → w a k = false) : DPm sd s d := ⟨by rw [hf.1 _ _ (hw _ _ (by omega) (by omega))]; exact h.1, h.2.1, fun p hp => ⟨by rw [hf.1 _ _ (hw 250 _ (by omega) (by omega))]; exact (h.2.2 p hp).1, (h.2.2 p hp).2.1, fun i hi => by rw [hf.1 _ _ (hw 251 _ (by omega) (by omega))]; exact (h.2.2 p hp).2.2 i hi⟩⟩
theorem DRm.fr {w : Nat → Nat → Bool} {wl : Nat → Bool} {d : Int × Int} (h : DRm sd σ d) (hf : frm w wl σ s) (hw : ∀ a k, 252 ≤ a → a ≤ 253 → w a k = false) : DRm sd s d := ⟨by rw [hf.1 _ _ (hw _ _ (by omega) (by omega))]; exact h.1, by rw [hf.1 _ _ (hw _ _ (by omega) (by omega))]; exact h.2⟩
theorem LWm.mono {lo hi hi' p : Nat} {L : LAWT} {s' : HS} (h : LWm s lo hi p L) (hh : hi ≤ hi') (e : ∀ a k, (a = 261 ∨ a = 262) → lo ≤ k → k < hi → s'.1 a k = s.1 a k) (e2 : ∀ a k, 256 ≤ a → a ≤ 260 → p ≤ k → k < p + L.1.length + 1 → s'.1 a k = s.1 a k) : LWm s' lo hi' p L := ⟨fun i hi => (h.1 i hi).mono hh (fun k h1 h2 => ⟨e 261 k (by omega) h1 h2, e 262 k (by omega) h1 h2⟩) (fun a h1 h2 => e2 a _ h1 h2 (by omega) (by omega)), h.2.mono hh (fun k h1 h2 => ⟨e 261 k (by omega) h1 h2, e 262 k (by omega) h1 h2⟩) (fun a h1 h2 => e2 a _ h1 h2 (by omega) (by omega))⟩
theorem codeAt.lo {lo lo' hi : Nat} {p q : Int32} {c : COD} (h : codeAt s lo hi p q c) (hl : lo' ≤ lo) : codeAt s lo' hi p q c := by
  obtain ⟨q0, a1, a2⟩ := h
  exact ⟨q0, by omega, a2⟩
theorem LWm.lo {lo lo' hi p : Nat} {L : LAWT} (h : LWm s lo hi p L) (hl : lo' ≤ lo) : LWm s lo' hi p L := ⟨fun i hi => ⟨(h.1 i hi).1, (h.1 i hi).2.1.lo hl, (h.1 i hi).2.2.1.lo hl, (h.1 i hi).2.2.2.lo hl⟩, h.2.1, h.2.2.lo hl⟩
theorem LOm.mono {hi hi' P P' k : Nat} {o : Option LAWT} {s' : HS} (h : LOm sd s hi P k o) (hh : hi ≤ hi') (hP : P ≤ P') (e4 : ∀ a, 254 ≤ a → a ≤ 255 → s'.1 a (4 * sd + k) = s.1 a (4 * sd + k)) (e : ∀ a k, (a = 261 ∨ a = 262) → 420 * sd ≤ k → k < hi → s'.1 a k = s.1 a k) (e2 : ∀ a k, 256 ≤ a → a ≤ 260 → 130 * sd ≤ k → k < P → s'.1 a k = s.1 a k) : LOm sd s' hi' P' k o := by
  cases o with
  | none => exact ⟨by rw [e4 254 (by omega) (by omega)]; exact h.1, by rw [e4 255 (by omega) (by omega)]; exact h.2⟩
  | some L =>
    obtain ⟨p0, a1, a2, a3, a4, a5⟩ := h
    exact ⟨p0, by rw [e4 254 (by omega) (by omega)]; exact a1, by rw [e4 255 (by omega) (by omega)]; exact a2, a3, by omega, a5.mono hh e (fun a k h1 h2 h3 h4 => e2 a k h1 h2 (by omega) (by omega))⟩
theorem DLm.fr {w : Nat → Nat → Bool} {wl : Nat → Bool} {hi P : Nat} {d : Nat → Option LAWT} (h : DLm sd σ hi P d) (hf : frm w wl σ s) (hw : ∀ a k, 254 ≤ a → a ≤ 262 → w a k = false) : DLm sd s hi P d := fun k hk => (h k hk).mono (Nat.le_refl _) (Nat.le_refl _) (fun a h1 h2 => hf.1 _ _ (hw _ _ (by omega) (by omega))) (fun a k h1 _ _ => hf.1 _ _ (hw _ _ (by omega) (by omega))) (fun a k h1 h2 _ _ => hf.1 _ _ (hw _ _ (by omega) (by omega)))
/-- between two statements -/
def TMs (b : Nat → Int32) (n sd : Nat) (σc : HS) (S : PST) (s : HS) : Prop := RZ b n sd σc S.1 s ∧ NMM s S.2.1.1 S.2.1.2 ∧ LTM b n S.1 s S.2.2.1 ∧ (S.2.1.1 = S.2.2.2.1.1.1 + S.2.2.2.1.2.1) ∧ DTm sd s S.2.2.2.1.1 ∧ DPm sd s S.2.2.2.1.2 ∧ DRm sd s S.2.2.2.2.1 ∧ (∃ p q, s.1 236 33 = nI p ∧ 130 * sd ≤ p ∧ 4 * p ≤ 520 * sd + S.1 ∧ s.1 236 39 = nI q ∧ 420 * sd ≤ q ∧ q ≤ 420 * sd + S.1 ∧ DLm sd s q p S.2.2.2.2.2) ∧ s.1 236 12 = 0 ∧ s.1 236 19 = nI sd
theorem PostM.map {α β : Type} {F : FA → HS → Prop} {x : Except FA α} {K : α → HS → Prop} {K' : β → HS → Prop} {y : α → Except FA β} {f : Option HS} (h : Okv f (PostM F x K)) (k : ∀ a s, x = .ok a → K a s → ∃ b, y a = .ok b ∧ K' b s) : Okv f (PostM F (x >>= y) K') := by
  obtain ⟨s, rfl, h⟩ := h
  refine ⟨s, rfl, ?_⟩
  cases x with
  | error e => exact h
  | ok a =>
    obtain ⟨b, e, h2⟩ := k a s rfl h
    show PostM F (y a) K' s
    rw [e]
    exact h2
theorem mr_told1 {S : PST} {sd : Nat} {w : Nat → Nat → Bool} {S1 : PST} {s0 s1 : HS} (h : TMs b n sd σc S s0) (hf : frm w wlPm s0 s1) (hw : ∀ k, k = 12 ∨ k = 19 ∨ k = 33 ∨ k = 39 → w 236 k = false) (hd : ∀ a k, 254 ≤ a → a ≤ 262 → w a k = false) (hS : S.1 ≤ S1.1) (hR : RZ b n sd σc S1.1 s1) (hN : NMM s1 S1.2.1.1 S1.2.1.2) (hL : LTM b n S1.1 s1 S1.2.2.1) (hc : S1.2.1.1 = S1.2.2.2.1.1.1 + S1.2.2.2.1.2.1) (hT : DTm sd s1 S1.2.2.2.1.1) (hP : DPm sd s1 S1.2.2.2.1.2) (hDR : DRm sd s1 S1.2.2.2.2.1) (hl : S1.2.2.2.2.2 = S.2.2.2.2.2) : TMs b n sd σc S1 s1 := by
  obtain ⟨-, -, -, -, -, -, -, ⟨p, q, a1, a2, a3, a4, a5, a6, a7⟩, a8, a9⟩ := h
  refine ⟨hR, hN, hL, hc, hT, hP, hDR, ⟨p, q, by rw [hf.1 _ _ (hw 33 (by omega))]; exact a1, a2, by omega, by rw [hf.1 _ _ (hw 39 (by omega))]; exact a4, a5, by omega, ?_⟩, by rw [hf.1 _ _ (hw 12 (by omega))]; exact a8, by rw [hf.1 _ _ (hw 19 (by omega))]; exact a9⟩
  rw [hl]
  exact a7.fr hf hd
theorem mr_tellOne {S : PST} (hT : TKA b n σc) (hsd : sd ≤ 1) (hk0 : kdT b n S.1 ≠ 0) (h : TMs b n sd σc S σ) : Okv (f_X12_tellOne σ) (PostM (FLM sd σc) (tellS (kdT b n) (vlT b n) (plI b n) (nmT b n) S) (fun S1 s => S.1 < S1.1 ∧ TMs b n sd σc S1 s)) := by
  have h0 := h
  obtain ⟨hR, hN, hL, hc, hDT, hDP, hDR, ⟨p, q, e33, hp1, hp2, e39, hq1, hq2, hDL⟩, e12, hside⟩ := h
  have ht := hR.2.1
  have tk := RZ.tk hT hR
  have pl0 : S.1 < S.1 + 1 := by omega
  have fg : ∀ {s1 : HS}, s1 = hI σ 236 11 (nI (S.1 + 1)) → frm wGo wl0 σ s1 := fun e => by rw [e]; exact frm.rf.I rfl
  have hLg : ∀ {s1 : HS}, s1 = hI σ 236 11 (nI (S.1 + 1)) → LTM b n (S.1 + 1) s1 S.2.2.1 := fun e => (hL.up hk0).eq (by rw [e, rI_k (by decide)]) (by rw [e, rI_k (by decide)])
  unfold f_X12_tellOne tellS
  rw [hR.2.2.2.1, nIt (by omega), Int.toNat_natCast, tk.1]
  refine Okv.t (by omega) ?_
  by_cases c20 : kdT b n S.1 = 20
  · refine Okv.t c20 ?_
    rw [if_pos c20, hside, nIt (by omega), Int.toNat_natCast, hDT.1]
    refine Okv.t (by omega) ?_
    have et : thingS (kdT b n) (vlT b n) (plI b n) (nmT b n) S.2.2.2.1.1.1 S.1 S.2.1.1 S.2.1.2 S.2.2.1 = ((if S.2.2.2.1.1.1 < 7 then advS (plI b n) S.1 else .error (2, plI b n S.1)) >>= fun t1 => nameS (kdT b n) (plI b n) (nmT b n) t1 S.2.1.1 S.2.1.2 S.2.2.1 >>= fun a => numS (kdT b n) (vlT b n) (plI b n) 1 9 a.1 a.2 >>= fun b1 => numS (kdT b n) (vlT b n) (plI b n) 0 9 b1.1 b1.2.2 >>= fun c => numS (kdT b n) (vlT b n) (plI b n) 0 9 c.1 c.2.2 >>= fun d => tkS (kdT b n) (plI b n) 4 d.1 >>= fun t2 => .ok (t2, (b1.2.1, c.2.1, d.2.1), d.2.2)) := by
      unfold thingS
      by_cases c : S.2.2.2.1.1.1 < 7
      · rw [if_pos c, if_pos c]
        unfold tkS
        rw [if_pos c20]
      · rw [if_neg c, if_neg c]; rfl
    rw [et]
    refine PostM.map (MB (mr_room (k := S.2.2.2.1.1.1) (most := 7) (x2 := 7) hT hR hk0 rfl hDT.2.1 (by omega)) (fun e s1 hF => Okv.f (by rw [hF.1]; have := hF.2.1; omega) (Okv.ret hF)) (fun t1 s1 ex h1 => ?_)) (fun a s2 _ h2 => ?_) (K := fun (a : Nat × (Int × Int × Int) × FA) s => S.1 + 1 < a.1 ∧ RZ b n sd σc a.1 s ∧ LTM b n a.1 s a.2.2 ∧ NMM s (S.2.1.1 + 1) (upN S.2.1.2 S.2.1.1 (nmT b n (S.1 + 1))) ∧ s.1 245 sd = nI (S.2.2.2.1.1.1 + 1) ∧ (s.1 246 (7 * sd + S.2.2.2.1.1.1)).toInt = a.2.1.1 ∧ (s.1 247 (7 * sd + S.2.2.2.1.1.1)).toInt = a.2.1.2.1 ∧ (s.1 248 (7 * sd + S.2.2.2.1.1.1)).toInt = a.2.1.2.2 ∧ frm (wThm sd S.2.2.2.1.1.1) wlPm σ s ∧ S.2.2.2.1.1.1 < 7)
    · obtain ⟨rfl, h4, r1, e1⟩ := h1
      have h7 : S.2.2.2.1.1.1 < 7 := by
        by_cases c : S.2.2.2.1.1.1 < 7
        · exact c
        · rw [if_neg c] at ex; exact absurd ex (by simp)
      refine Okv.t r1.2.2.2.2 (Okv.cv (mr_thing hT hsd r1 (hLg e1) (hN.fr (fg e1) rfl rfl) (by have := hDP.2.1; omega) (by rw [e1, rI_k (by decide)]; exact hside) (by rw [e1, rI_i (by decide)]; exact hDT.1) h7) (fun s2 h2 => Okv.ret ?_))
      revert h2
      show PostM _ _ _ s2 → PostM _ (nameS (kdT b n) (plI b n) (nmT b n) (S.1 + 1) S.2.1.1 S.2.1.2 S.2.2.1 >>= _) _ s2
      generalize (nameS (kdT b n) (plI b n) (nmT b n) (S.1 + 1) S.2.1.1 S.2.1.2 S.2.2.1 >>= fun a => numS (kdT b n) (vlT b n) (plI b n) 1 9 a.1 a.2 >>= fun b1 => numS (kdT b n) (vlT b n) (plI b n) 0 9 b1.1 b1.2.2 >>= fun c => numS (kdT b n) (vlT b n) (plI b n) 0 9 c.1 c.2.2 >>= fun d => tkS (kdT b n) (plI b n) 4 d.1 >>= fun t2 => Except.ok (t2, (b1.2.1, c.2.1, d.2.1), d.2.2)) = X
      cases X with
      | error e => exact fun h2 => h2
      | ok a =>
        rintro ⟨a1, a2, a3, a4, a5, a6, a7, a8, a9⟩
        exact ⟨a1, a2, a3, a4, a5, a6, a7, a8, (by rw [e1]; exact frm.rf.I (by unfold wThm; simp) : frm (wThm sd S.2.2.2.1.1.1) wlPm σ s1).tr a9, h7⟩
    · obtain ⟨a1, a2, a3, a4, a5, a6, a7, a8, a9, h7⟩ := h2
      refine ⟨_, rfl, by show S.1 < a.1; omega, mr_told1 h0 a9 (fun k hk => ?_) (fun x k h1 h2 => ?_) (by show S.1 ≤ a.1; omega) a2 a4 a3 (by show S.2.1.1 + 1 = S.2.2.2.1.1.1 + 1 + S.2.2.2.1.2.1; omega) ⟨a5, by show S.2.2.2.1.1.1 + 1 ≤ 7; omega, fun e he => ?_⟩ (hDP.fr a9 (fun x k h1 h2 => ?_)) (hDR.fr a9 (fun x k h1 h2 => ?_)) rfl⟩
      · unfold wThm; rcases hk with rfl | rfl | rfl | rfl <;> simp
      · unfold wThm; simp; omega
      · have he : e < S.2.2.2.1.1.1 + 1 := he
        show _ = upI _ _ _ e ∧ _ = upI _ _ _ e ∧ _ = upI _ _ _ e
        unfold upI
        by_cases c : e = S.2.2.2.1.1.1
        · rw [c, if_pos rfl, if_pos rfl, if_pos rfl]; exact ⟨a6, a7, a8⟩
        · rw [if_neg c, if_neg c, if_neg c]
          have wn : ∀ x, 246 ≤ x → x ≤ 248 → wThm sd S.2.2.2.1.1.1 x (7 * sd + e) = false := fun x h1 h2 => by unfold wThm; simp; omega
          rw [a9.1 _ _ (wn 246 (by omega) (by omega)), a9.1 _ _ (wn 247 (by omega) (by omega)), a9.1 _ _ (wn 248 (by omega) (by omega))]
          exact hDT.2.2 e (by omega)
      · unfold wThm; simp; omega
      · unfold wThm; simp; omega
  refine Okv.f c20 ?_
  rw [if_neg c20]
  by_cases c21 : kdT b n S.1 = 21
  · refine Okv.t c21 ?_
    rw [if_pos c21, hside, nIt (by omega), Int.toNat_natCast, hDP.1]
    refine Okv.t (by omega) ?_
    have et : patS (kdT b n) (vlT b n) (plI b n) (nmT b n) S.2.2.2.1.2.1 S.1 S.2.1.1 S.2.1.2 S.2.2.1 = ((if S.2.2.2.1.2.1 < 5 then advS (plI b n) S.1 else .error (2, plI b n S.1)) >>= fun t1 => nameS (kdT b n) (plI b n) (nmT b n) t1 S.2.1.1 S.2.1.2 S.2.2.1 >>= fun a => numS (kdT b n) (vlT b n) (plI b n) 0 9 a.1 a.2 >>= fun b1 => htsS (kdT b n) (vlT b n) (plI b n) 1 (upI (fun _ => 0) 0 b1.2.1) b1.1 b1.2.2 7) := by
      unfold patS
      by_cases c : S.2.2.2.1.2.1 < 5
      · rw [if_pos c, if_pos c]
        unfold tkS
        rw [if_pos c21]
      · rw [if_neg c, if_neg c]; rfl
    rw [et]
    refine PostM.map (MB (mr_room (k := S.2.2.2.1.2.1) (most := 5) (x2 := 5) hT hR hk0 rfl hDP.2.1 (by omega)) (fun e s1 hF => Okv.f (by rw [hF.1]; have := hF.2.1; omega) (Okv.ret hF)) (fun t1 s1 ex h1 => ?_)) (fun a s2 _ h2 => ?_) (K := fun (a : Nat × Nat × (Nat → Int) × FA) s => KPm b n sd σc (S.1 + 1) S.2.2.2.1.2.1 (S.2.1.1 + 1) (upN S.2.1.2 S.2.1.1 (nmT b n (S.1 + 1))) σ a s ∧ S.2.2.2.1.2.1 < 5)
    · obtain ⟨rfl, h4, r1, e1⟩ := h1
      have h7 : S.2.2.2.1.2.1 < 5 := by
        by_cases c : S.2.2.2.1.2.1 < 5
        · exact c
        · rw [if_neg c] at ex; exact absurd ex (by simp)
      refine Okv.t r1.2.2.2.2 (Okv.cv (mr_pattern hT hsd r1 (hLg e1) (hN.fr (fg e1) rfl rfl) (by have := hDT.2.1; omega) (by rw [e1, rI_k (by decide)]; exact hside) (by rw [e1, rI_i (by decide)]; exact hDP.1) h7) (fun s2 h2 => Okv.ret ?_))
      revert h2
      show PostM _ _ _ s2 → PostM _ (nameS (kdT b n) (plI b n) (nmT b n) (S.1 + 1) S.2.1.1 S.2.1.2 S.2.2.1 >>= _) _ s2
      generalize (nameS (kdT b n) (plI b n) (nmT b n) (S.1 + 1) S.2.1.1 S.2.1.2 S.2.2.1 >>= fun a => numS (kdT b n) (vlT b n) (plI b n) 0 9 a.1 a.2 >>= fun b1 => htsS (kdT b n) (vlT b n) (plI b n) 1 (upI (fun _ => 0) 0 b1.2.1) b1.1 b1.2.2 7) = X
      cases X with
      | error e => exact fun h2 => h2
      | ok a =>
        rintro ⟨a1, a2, a3, a4, a5, a6, a7, a8, a9⟩
        exact ⟨⟨a1, a2, a3, a4, a5, a6, a7, a8, (by rw [e1]; exact frm.rf.I (by unfold wPtm; simp) : frm (wPtm sd S.2.2.2.1.2.1) wlPm σ s1).tr a9⟩, h7⟩
    · obtain ⟨⟨a1, a2, a3, a4, a5, a6, a7, a8, a9⟩, h7⟩ := h2
      refine ⟨_, rfl, by show S.1 < a.1; omega, mr_told1 h0 a9 (fun k hk => ?_) (fun x k h1 h2 => ?_) (by show S.1 ≤ a.1; omega) a2 a4 a3 (by show S.2.1.1 + 1 = S.2.2.2.1.1.1 + (S.2.2.2.1.2.1 + 1); omega) (hDT.fr a9 (fun x k h1 h2 => ?_)) ⟨a5, by show S.2.2.2.1.2.1 + 1 ≤ 5; omega, fun e he => ?_⟩ (hDR.fr a9 (fun x k h1 h2 => ?_)) rfl⟩
      · unfold wPtm; rcases hk with rfl | rfl | rfl | rfl <;> simp
      · unfold wPtm; simp; omega
      · unfold wPtm; simp; omega
      · have he : e < S.2.2.2.1.2.1 + 1 := he
        by_cases c : e = S.2.2.2.1.2.1
        · subst c
          show _ = nI (if _ = _ then a.2.1 else _) ∧ (1 ≤ (if _ = _ then a.2.1 else _) ∧ (if _ = _ then a.2.1 else _) ≤ 8) ∧ ∀ i, i < (if _ = _ then a.2.1 else _) → _ = (if _ = _ then a.2.2.1 else _) i
          rw [if_pos rfl, if_pos rfl]
          exact ⟨a6, a7, a8⟩
        · show _ = nI (if _ = _ then a.2.1 else _) ∧ (1 ≤ (if _ = _ then a.2.1 else _) ∧ (if _ = _ then a.2.1 else _) ≤ 8) ∧ ∀ i, i < (if _ = _ then a.2.1 else _) → _ = (if _ = _ then a.2.2.1 else _) i
          rw [if_neg c, if_neg c, a9.1 250 _ (by unfold wPtm; simp; omega)]
          have := hDP.2.2 e (by omega)
          refine ⟨this.1, this.2.1, fun i hi => ?_⟩
          rw [a9.1 251 _ (by unfold wPtm; simp; omega)]
          exact this.2.2 i hi
      · unfold wPtm; simp; omega
  refine Okv.f c21 ?_
  rw [if_neg c21]
  have nmG : ∀ k, k = 12 ∨ k = 19 ∨ k = 33 ∨ k = 39 → wNmm 236 k = false := fun k hk => by unfold wNmm; rcases hk with rfl | rfl | rfl | rfl <;> rfl
  have nmO : ∀ a k, a ≠ 236 → wNmm a k = false := fun a k ha => by unfold wNmm; simp [ha]
  have tnum : ∀ {x : Int32} {most : Int}, x.toInt = most → (advS (plI b n) S.1 >>= fun t1 => numS (kdT b n) (vlT b n) (plI b n) (0 : Int32).toInt x.toInt t1 S.2.2.1 >>= fun a => tkS (kdT b n) (plI b n) 4 a.1 >>= fun t2 => Except.ok (t2, a.2)) = (advS (plI b n) S.1 >>= fun t1 => numS (kdT b n) (vlT b n) (plI b n) 0 most t1 S.2.2.1 >>= fun a => tkS (kdT b n) (plI b n) 4 a.1 >>= fun t2 => Except.ok (t2, a.2)) := fun hx => by rw [hx]; rfl
  by_cases c26 : kdT b n S.1 = 26
  · refine Okv.t c26 ?_
    rw [if_neg (show ¬ (22 ≤ kdT b n S.1 ∧ kdT b n S.1 ≤ 25) by omega), if_pos c26, hside, nIt (by omega), Int.toNat_natCast]
    have et : oneS (kdT b n) (vlT b n) (plI b n) 26 99 S.1 S.2.2.1 = (advS (plI b n) S.1 >>= fun t1 => numS (kdT b n) (vlT b n) (plI b n) 0 99 t1 S.2.2.1 >>= fun a => tkS (kdT b n) (plI b n) 4 a.1 >>= fun t2 => .ok (t2, a.2)) := by
      unfold oneS tkS
      rw [if_pos c26]
    rw [et]
    have mt := mr_told (x1 := 0) (x2 := 99) hT hR hk0 hL
    rw [tnum (x := 99) (most := 99) rfl] at mt
    refine MBl mt (fun r e s1 hF => Okv.t (by omega) (tl_w hF (a := 252) (k := sd) (by unfold wPm; simp) (by decide) (fun s hF => Okv.ret hF))) (fun r a s1 _ h1 => ?_)
    obtain ⟨a1, a2, a3, a4, a5⟩ := h1
    refine Okv.t (by omega) (Okv.bd (Okv.ret ?_))
    have f2 : frm (fun a k => wNmm a k || a == 252) wlPm σ (hI s1 252 sd r) := (a5.mono (fun _ _ e => by simp only [Bool.or_eq_false_iff] at e; exact e.1) (fun _ _ => rfl)).I (by simp)
    have wo : ∀ a k, a ≠ 236 → a ≠ 252 → (wNmm a k || a == 252) = false := fun a k h1 h2 => by rw [nmO a k h1]; simp [h2]
    refine ⟨by show S.1 < a.1; exact a1, mr_told1 h0 f2 (fun k hk => by simp only [nmG k hk]; rfl) (fun x k h1 h2 => wo x k (by omega) (by omega)) (by show S.1 ≤ a.1; omega) (a2.wr (by unfold wPm; simp) (Or.inl (by decide))) ((hN.fr a5 rfl rfl).wr (by decide)) (a3.wr (by decide)) hc (hDT.fr f2 (fun x k h1 h2 => wo x k (by omega) (by omega))) (hDP.fr f2 (fun x k h1 h2 => wo x k (by omega) (by omega))) ⟨?_, ?_⟩ rfl⟩
    · rw [rI_s]; exact a4
    · rw [rI_i (by decide), a5.1 _ _ (nmO _ _ (by decide))]; exact hDR.2
  refine Okv.f c26 ?_
  by_cases c27 : kdT b n S.1 = 27
  · refine Okv.t c27 ?_
    rw [if_neg (show ¬ (22 ≤ kdT b n S.1 ∧ kdT b n S.1 ≤ 25) by omega), if_neg c26, if_pos c27, hside, nIt (by omega), Int.toNat_natCast]
    have et : oneS (kdT b n) (vlT b n) (plI b n) 27 9999 S.1 S.2.2.1 = (advS (plI b n) S.1 >>= fun t1 => numS (kdT b n) (vlT b n) (plI b n) 0 9999 t1 S.2.2.1 >>= fun a => tkS (kdT b n) (plI b n) 4 a.1 >>= fun t2 => .ok (t2, a.2)) := by
      unfold oneS tkS
      rw [if_pos c27]
    rw [et]
    have mt := mr_told (x1 := 0) (x2 := 9999) hT hR hk0 hL
    rw [tnum (x := 9999) (most := 9999) rfl] at mt
    refine MBl mt (fun r e s1 hF => Okv.t (by omega) (tl_w hF (a := 253) (k := sd) (by unfold wPm; simp) (by decide) (fun s hF => Okv.ret hF))) (fun r a s1 _ h1 => ?_)
    obtain ⟨a1, a2, a3, a4, a5⟩ := h1
    refine Okv.t (by omega) (Okv.bd (Okv.ret ?_))
    have f2 : frm (fun a k => wNmm a k || a == 253) wlPm σ (hI s1 253 sd r) := (a5.mono (fun _ _ e => by simp only [Bool.or_eq_false_iff] at e; exact e.1) (fun _ _ => rfl)).I (by simp)
    have wo : ∀ a k, a ≠ 236 → a ≠ 253 → (wNmm a k || a == 253) = false := fun a k h1 h2 => by rw [nmO a k h1]; simp [h2]
    refine ⟨by show S.1 < a.1; exact a1, mr_told1 h0 f2 (fun k hk => by simp only [nmG k hk]; rfl) (fun x k h1 h2 => wo x k (by omega) (by omega)) (by show S.1 ≤ a.1; omega) (a2.wr (by unfold wPm; simp) (Or.inl (by decide))) ((hN.fr a5 rfl rfl).wr (by decide)) (a3.wr (by decide)) hc (hDT.fr f2 (fun x k h1 h2 => wo x k (by omega) (by omega))) (hDP.fr f2 (fun x k h1 h2 => wo x k (by omega) (by omega))) ⟨?_, ?_⟩ rfl⟩
    · rw [rI_i (by decide), a5.1 _ _ (nmO _ _ (by decide))]; exact hDR.1
    · rw [rI_s]; exact a4
  refine Okv.f c27 (Okv.t (by omega) (Okv.bd ?_))
  obtain ⟨kk, k40, -, hkk⟩ := kd_vK b n S.1
  have e239 : σ.1 239 S.1 = nI kk := Int32.toInt_inj.mp (by rw [tk.1, hkk, nIt (by omega)])
  have zt : (σ.1 239 S.1 - 22).toInt = kdT b n S.1 - 22 := by
    have e22 : (22 : Int32).toInt = 22 := rfl
    rw [i32_sub (by rw [tk.1, e22]; omega), tk.1, e22]
  have bad : ∀ y1, ¬ (22 ≤ kdT b n S.1 ∧ kdT b n S.1 ≤ 25) → Okv (f_X12_tellOne_183 y1 σ) (PostM (FLM sd σc) (if 22 ≤ kdT b n S.1 ∧ kdT b n S.1 ≤ 25 then lawS (kdT b n) (vlT b n) (plI b n) (kdT b n S.1) S.1 >>= fun a => .ok (a.1, S.2.1, S.2.2.1, upLw S.2.2.2 (kdT b n S.1 - 22).toNat a.2) else if kdT b n S.1 = 26 then oneS (kdT b n) (vlT b n) (plI b n) 26 99 S.1 S.2.2.1 >>= fun a => .ok (a.1, S.2.1, a.2.2, (S.2.2.2.1, (a.2.1, S.2.2.2.2.1.2), S.2.2.2.2.2)) else if kdT b n S.1 = 27 then oneS (kdT b n) (vlT b n) (plI b n) 27 9999 S.1 S.2.2.1 >>= fun a => .ok (a.1, S.2.1, a.2.2, (S.2.2.2.1, (S.2.2.2.2.1.1, a.2.1), S.2.2.2.2.2)) else .error (1, plI b n S.1)) (fun S1 s => S.1 < S1.1 ∧ TMs b n sd σc S1 s)) := by
    intro y1 hn
    rw [if_neg hn, if_neg c26, if_neg c27]
    unfold f_X12_tellOne_183 f_X12_tellOne_188
    exact Okv.cv (mr_fail (x := 1) hT hR (by decide)) (fun s1 hF => Okv.t (by rw [hF.1]; exact hF.2.1) (Okv.ret hF))
  refine Okv.i (fun e1 => bad _ (by rw [zt] at e1; omega)) (fun e1 => Okv.t (by omega) (Okv.i (fun e2 => bad _ (by omega)) (fun e2 => ?_)))
  rw [zt] at e1
  rw [if_pos (show 22 ≤ kdT b n S.1 ∧ kdT b n S.1 ≤ 25 by omega)]
  have ek : ((22 + (kk - 22) : Nat) : Int) = kdT b n S.1 := by rw [hkk]; omega
  have ez : σ.1 239 S.1 - 22 = nI (kk - 22) := by rw [e239]; exact nI_sub (a := 22) (b := kk) (by omega) (by omega)
  have en : (kdT b n S.1 - 22).toNat = kk - 22 := by rw [hkk]; omega
  rw [ez, en]
  refine PostM.map (mr_law (k := kk - 22) hT hsd hp1 hq1 (by omega) hside hR ek.symm e33 e39 e12 (by omega) (by omega)) (fun a s2 _ h2 => ?_)
  obtain ⟨a1, a2, a3, a4, a5, a6, a7, a8, q', a9, a10, a11, a12⟩ := h2
  have wo : ∀ a k, a < 254 → a ≠ 236 → wLw2 sd (kk - 22) p q a k = false := fun a k h1 h2 => by unfold wLw2 wLm wXm; simp; omega
  refine ⟨_, rfl, a1, a2, hN.fr a8 (by unfold wLw2 wLm wXm; simp) rfl, ?_, hc, hDT.fr a8 (fun x k h1 h2 => wo x k (by omega) (by omega)), hDP.fr a8 (fun x k h1 h2 => wo x k (by omega) (by omega)), hDR.fr a8 (fun x k h1 h2 => wo x k (by omega) (by omega)), ⟨p + a.2.1.length + 1, q', a3, by omega, a5, a9, by omega, a11, ?_⟩, a4, ?_⟩
  · have ht1 := a2.2.1
    refine ⟨by show (s2.1 236 15).toInt = S.2.2.1.1; rw [a8.1 236 15 (by unfold wLw2 wLm wXm; simp)]; exact hL.1, fun e => ?_⟩
    have e : S.2.2.1.1 ≠ 0 := e
    have hlt := hL.2 e
    refine ⟨by show (s2.1 236 16).toInt = S.2.2.1.2; rw [a8.1 236 16 (by unfold wLw2 wLm wXm; simp)]; exact hlt.1, ?_⟩
    show S.2.2.1.2 < plI b n a.1
    have up : ∀ d, S.1 + d ≤ a.1 → plI b n S.1 ≤ plI b n (S.1 + d) := by
      intro d
      induction d with
      | zero => intro _; exact Int.le_refl _
      | succ d ih =>
        intro hd
        have := ih (by omega)
        have := pl_lt (b := b) (n := n) (t := S.1 + d) (a2.2.2.1 (S.1 + d) (by omega))
        show plI b n S.1 ≤ plI b n (S.1 + d + 1)
        omega
    have := up (a.1 - S.1) (by omega)
    rw [show S.1 + (a.1 - S.1) = a.1 by omega] at this
    omega
  · intro k hk
    show LOm sd s2 q' (p + a.2.1.length + 1) k (if k = kk - 22 then some a.2 else S.2.2.2.2.2 k)
    by_cases c : k = kk - 22
    · rw [if_pos c]
      subst c
      exact ⟨p, a6, a7, hp1, by omega, a12.lo (by omega)⟩
    · rw [if_neg c]
      refine (hDL k hk).mono (by omega) (by omega) (fun x h1 h2 => ?_) (fun x j h1 h2 h3 => ?_) (fun x j h1 h2 h3 h4 => ?_)
      · exact a8.1 _ _ (by unfold wLw2 wLm wXm; simp; omega)
      · exact a8.1 _ _ (by unfold wLw2 wLm wXm; simp; omega)
      · exact a8.1 _ _ (by unfold wLw2 wLm wXm; simp; omega)
  · rw [a8.1 236 19 (by unfold wLw2 wLm wXm; simp)]; exact hside
end MST
