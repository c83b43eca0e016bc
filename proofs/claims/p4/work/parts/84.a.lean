/-! beats: what they do to a row (0 .. 6 where, 7 .. 13 lands in, 14 .. 20 catches, 21 beat, 22 tired, 23 dropped, 24 caught, 25 earned, 26 in use, 27 since, 28 by hand) -/
def TC (tx : Nat) (d : DAT) (s : HS) : Prop := DTc tx s d.1.1 ∧ DPc tx s d.1.2 ∧ DRc tx s d.2.1 ∧ ∃ p, p ≤ 408 ∧ DLc tx s p d.2.2
def TM (sd : Nat) (d : DAT) (s : HS) : Prop := s.1 236 18 = nI sd ∧ sd ≤ 1 ∧ DTm sd s d.1.1 ∧ DPm sd s d.1.2 ∧ DRm sd s d.2.1 ∧ ∃ p q, p ≤ 130 * sd + 130 ∧ q ≤ 420 * sd + 420 ∧ DLm sd s q p d.2.2
def varS (d : DAT) (ρ : Nat → Int32) (e : Nat) (up h : Int32) : Nat → Int32 := fun k => if k = 0 then Int32.ofInt (d.1.1.2.1 e) else if k = 1 then Int32.ofInt (d.1.1.2.2.1 e) else if k = 2 then h else if k = 3 then ρ 21 else if k = 4 then ρ 22 else if k = 5 then up else if k = 6 then nI e else if k = 7 then ρ 24 else ρ 21 &&& 1
def lawV (d : DAT) (k : Nat) (v : Nat → Int32) : Int32 := clampS k (lawR v (lawO k (d.2.2 k)).1 (lawO k (d.2.2 k)).2)
def hgtS (d : DAT) (ρ : Nat → Int32) : Int32 := if 0 ≤ (ρ 28).toInt then ρ 28 else if (ρ 26).toInt < 0 then 3 else Int32.ofInt (d.1.2.2.2 (ρ 26).toInt.toNat (((ρ 21).toInt - (ρ 27).toInt).toNat % d.1.2.2.1 (ρ 26).toInt.toNat))
def stirI (x y : Int32) : Int32 := (((x ^^^ y) * (1103515245 : Int32)) + (12345 : Int32)) ^^^ (((((x ^^^ y) * (1103515245 : Int32)) + (12345 : Int32)).toUInt32 >>> ((15 : Int32).toUInt32 &&& Int32.toUInt32 31)).toInt32)
def halfI (r : Int32) : Int32 := ((r.toUInt32 >>> ((1 : Int32).toUInt32 &&& Int32.toUInt32 31)).toInt32) - ((r.toUInt32 >>> ((1 : Int32).toUInt32 &&& Int32.toUInt32 31)).toInt32) / (100 : Int32) * (100 : Int32)
def lotI (seed w : Int32) : Int32 := halfI (stirI (stirI seed 125) w)
def upF (ρ : Nat → Int32) (i : Nat) (v : Int32) : Nat → Int32 := fun j => if j = i then v else ρ j
def upsS (T : Nat) (ρ : Nat → Int32) : Int32 := nI (cntB (upR ρ) T)
def dropS (T f : Nat) (ρ : Nat → Int32) : Nat → Int32 := fun i => if i < T ∧ i ≠ f ∧ lnR ρ 0 i = true then 2 else if i = 23 then ρ 23 + nI (cntB (fun e => decide (e ≠ f) && lnR ρ 0 e) T) else ρ i
def thrS (ρ : Nat → Int32) (e : Nat) (h tires pays : Int32) : Nat → Int32 := fun i => if i = 25 then ρ 25 + pays else if i = 24 then ρ 24 + 1 else if i = 14 + e then ρ (14 + e) + 1 else if i = 22 then hldI (ρ 22 + tires) 0 999 else if i = 7 + e then h else if i = e ∧ h.toInt = 0 then 1 else ρ i
def catS (d : DAT) (sd : Option Int32) (e : Nat) (ρ : Nat → Int32) : Nat → Int32 :=
  if (match sd with | none => false | some x => decide ((lotI x ((4 : Int32) * ρ 21)).toInt < (lawV d 1 (varS d ρ e (upsS d.1.1.1 ρ) (hgtS d ρ))).toInt)) = true then upF (upF ρ e 2) 23 (ρ 23 + 1)
  else thrS ρ e (hgtS d ρ) (lawV d 0 (varS d ρ e (upsS d.1.1.1 ρ) (hgtS d ρ))) (lawV d 3 (varS d ρ e (upsS d.1.1.1 ρ) 0))
def decS (T : Nat) (ρ : Nat → Int32) : Nat → Int32 := fun i => if 7 ≤ i ∧ i < 7 + T ∧ (ρ (i - 7)).toInt = 0 then ρ i - 1 else if i = 21 then ρ 21 + 1 else if i = 28 then -1 else ρ i
def resR (d : DAT) (ρ : Nat → Int32) : Nat → Int32 := upF ρ 22 (hldI (ρ 22 - Int32.ofInt d.2.1.1) 0 999)
def firS (T : Nat) (ρ : Nat → Int32) : Nat := ffB (lnR ρ 0) T 0
def midS (d : DAT) (sd : Option Int32) (ρ : Nat → Int32) : Nat → Int32 := if firS d.1.1.1 ρ < d.1.1.1 then catS d sd (firS d.1.1.1 ρ) (dropS d.1.1.1 (firS d.1.1.1 ρ) ρ) else resR d ρ
def beatS (d : DAT) (sd : Option Int32) (ρ : Nat → Int32) : Nat → Int32 := decS d.1.1.1 (midS d sd ρ)
def itS (d : DAT) (sd : Option Int32) : Nat → (Nat → Int32) → (Nat → Int32)
  | 0, ρ => ρ
  | n + 1, ρ => itS d sd n (beatS d sd ρ)
/-- a row as the class's Air at a, as the reference's row -/
def AR (a T : Nat) (ρ : Nat → Int32) (s : HS) : Prop := s.1 a 0 = nI T ∧ (∀ e, e < T → s.1 (a + 1) e = ρ e ∧ s.1 (a + 2) e = ρ (7 + e) ∧ s.1 (a + 3) e = ρ (14 + e)) ∧ (∀ k, 4 ≤ k → k ≤ 8 → s.1 a k = ρ (17 + k)) ∧ s.1 a 9 = (if ρ 26 = -2 then -1 else ρ 26) ∧ s.1 a 10 = ρ 27 ∧ s.1 a 11 = ρ 28
def RRm (ρ : Nat → Int32) (s : HS) : Prop := ∀ i, i < 29 → s.1 267 i = ρ i
/-- a row within its bounds -/
def RW (d : DAT) (b : Int) (ρ : Nat → Int32) : Prop := (∀ e, e < d.1.1.1 → (0 ≤ (ρ e).toInt ∧ (ρ e).toInt ≤ 2) ∧ ((ρ e).toInt = 0 → 0 ≤ (ρ (7 + e)).toInt ∧ (ρ (7 + e)).toInt ≤ 9)) ∧ (0 ≤ (ρ 21).toInt ∧ (ρ 21).toInt ≤ b) ∧ (0 ≤ (ρ 27).toInt ∧ (ρ 27).toInt ≤ (ρ 21).toInt) ∧ (ρ 26 = -2 ∨ 0 ≤ (ρ 26).toInt ∧ (ρ 26).toInt < d.1.2.1) ∧ (-1 ≤ (ρ 28).toInt ∧ (ρ 28).toInt ≤ 9) ∧ (0 ≤ (ρ 22).toInt ∧ (ρ 22).toInt ≤ 999)
section ROWS
variable {σ s : HS} {a T tx sd : Nat} {ρ ρ' : Nat → Int32} {d : DAT}
theorem AR.cg (h : AR a T ρ σ) (hT : T ≤ 7) (e : ∀ i, i < 29 → ρ i = ρ' i) : AR a T ρ' σ := by
  obtain ⟨h1, h2, h3, h4, h5, h6⟩ := h
  refine ⟨h1, fun k hk => ?_, fun k h8 h9 => ?_, ?_, ?_, ?_⟩
  · rw [← e k (by omega), ← e (7 + k) (by omega), ← e (14 + k) (by omega)]; exact h2 k hk
  · rw [← e _ (by omega)]; exact h3 k h8 h9
  · rw [← e 26 (by omega)]; exact h4
  · rw [← e 27 (by omega)]; exact h5
  · rw [← e 28 (by omega)]; exact h6
theorem AR.fr {w : Nat → Nat → Bool} {wl : Nat → Bool} (h : AR a T ρ σ) (hf : frm w wl σ s) (hw : ∀ i k, a ≤ i → i ≤ a + 3 → w i k = false) : AR a T ρ s := by
  obtain ⟨h1, h2, h3, h4, h5, h6⟩ := h
  refine ⟨?_, fun k hk => ?_, fun k h8 h9 => ?_, ?_, ?_, ?_⟩
  · rw [hf.1 _ _ (hw _ _ (by omega) (by omega))]; exact h1
  · rw [hf.1 _ _ (hw (a + 1) _ (by omega) (by omega)), hf.1 _ _ (hw (a + 2) _ (by omega) (by omega)), hf.1 _ _ (hw (a + 3) _ (by omega) (by omega))]; exact h2 k hk
  · rw [hf.1 _ _ (hw _ _ (by omega) (by omega))]; exact h3 k h8 h9
  · rw [hf.1 _ _ (hw _ _ (by omega) (by omega))]; exact h4
  · rw [hf.1 _ _ (hw _ _ (by omega) (by omega))]; exact h5
  · rw [hf.1 _ _ (hw _ _ (by omega) (by omega))]; exact h6
theorem upF_s {i : Nat} {v : Int32} : upF ρ i v i = v := if_pos rfl
theorem upF_n {i j : Nat} {v : Int32} (h : j ≠ i) : upF ρ i v j = ρ j := if_neg h
theorem AR.w {k : Nat} {v : Int32} (h : AR a T ρ σ) (hT : T ≤ 7) (hk : k < T) : AR a T (upF ρ k v) (hI σ (a + 1) k v) := by
  obtain ⟨h1, h2, h3, h4, h5, h6⟩ := h
  refine ⟨?_, fun e he => ?_, fun k h8 h9 => ?_, ?_, ?_, ?_⟩
  · rw [rI_i (by omega)]; exact h1
  · rw [rI_i (a := a + 2) (by omega), rI_i (a := a + 3) (by omega), upF_n (j := 7 + e) (by omega), upF_n (j := 14 + e) (by omega)]
    refine ⟨?_, (h2 e he).2⟩
    by_cases c : e = k
    · rw [c, rI_s, upF_s]
    · rw [rI_k c, upF_n c]; exact (h2 e he).1
  · rw [rI_i (by omega), upF_n (by omega)]; exact h3 k h8 h9
  · rw [rI_i (by omega), upF_n (by omega)]; exact h4
  · rw [rI_i (by omega), upF_n (by omega)]; exact h5
  · rw [rI_i (by omega), upF_n (by omega)]; exact h6
theorem AR.l {k : Nat} {v : Int32} (h : AR a T ρ σ) (hT : T ≤ 7) (hk : k < T) : AR a T (upF ρ (7 + k) v) (hI σ (a + 2) k v) := by
  obtain ⟨h1, h2, h3, h4, h5, h6⟩ := h
  refine ⟨?_, fun e he => ?_, fun k h8 h9 => ?_, ?_, ?_, ?_⟩
  · rw [rI_i (by omega)]; exact h1
  · rw [rI_i (a := a + 1) (by omega), rI_i (a := a + 3) (by omega), upF_n (j := e) (by omega), upF_n (j := 14 + e) (by omega)]
    refine ⟨(h2 e he).1, ?_, (h2 e he).2.2⟩
    by_cases c : e = k
    · rw [c, rI_s, upF_s]
    · rw [rI_k c, upF_n (by omega)]; exact (h2 e he).2.1
  · rw [rI_i (by omega), upF_n (by omega)]; exact h3 k h8 h9
  · rw [rI_i (by omega), upF_n (by omega)]; exact h4
  · rw [rI_i (by omega), upF_n (by omega)]; exact h5
  · rw [rI_i (by omega), upF_n (by omega)]; exact h6
theorem AR.c {k : Nat} {v : Int32} (h : AR a T ρ σ) (hT : T ≤ 7) (hk : k < T) : AR a T (upF ρ (14 + k) v) (hI σ (a + 3) k v) := by
  obtain ⟨h1, h2, h3, h4, h5, h6⟩ := h
  refine ⟨?_, fun e he => ?_, fun k h8 h9 => ?_, ?_, ?_, ?_⟩
  · rw [rI_i (by omega)]; exact h1
  · rw [rI_i (a := a + 1) (by omega), rI_i (a := a + 2) (by omega), upF_n (j := e) (by omega), upF_n (j := 7 + e) (by omega)]
    refine ⟨(h2 e he).1, (h2 e he).2.1, ?_⟩
    by_cases c : e = k
    · rw [c, rI_s, upF_s]
    · rw [rI_k c, upF_n (by omega)]; exact (h2 e he).2.2
  · rw [rI_i (by omega), upF_n (by omega)]; exact h3 k h8 h9
  · rw [rI_i (by omega), upF_n (by omega)]; exact h4
  · rw [rI_i (by omega), upF_n (by omega)]; exact h5
  · rw [rI_i (by omega), upF_n (by omega)]; exact h6
theorem AR.f {k : Nat} {v : Int32} (h : AR a T ρ σ) (hT : T ≤ 7) (h4 : 4 ≤ k) (h8 : k ≤ 8) : AR a T (upF ρ (17 + k) v) (hI σ a k v) := by
  obtain ⟨h1, h2, h3, h4', h5, h6⟩ := h
  refine ⟨?_, fun e he => ?_, fun j h8 h9 => ?_, ?_, ?_, ?_⟩
  · rw [rI_k (by omega)]; exact h1
  · rw [rI_i (by omega), rI_i (by omega), rI_i (by omega), upF_n (by omega), upF_n (by omega), upF_n (by omega)]; exact h2 e he
  · by_cases c : j = k
    · rw [c, rI_s, upF_s]
    · rw [rI_k c, upF_n (by omega)]; exact h3 j h8 h9
  · rw [rI_k (by omega), upF_n (by omega)]; exact h4'
  · rw [rI_k (by omega), upF_n (by omega)]; exact h5
  · rw [rI_k (by omega), upF_n (by omega)]; exact h6
theorem AR.sn {v : Int32} (h : AR a T ρ σ) (hT : T ≤ 7) : AR a T (upF ρ 27 v) (hI σ a 10 v) := by
  obtain ⟨h1, h2, h3, h4, h5, h6⟩ := h
  refine ⟨?_, fun e he => ?_, fun j h8 h9 => ?_, ?_, ?_, ?_⟩
  · rw [rI_k (by omega)]; exact h1
  · rw [rI_i (by omega), rI_i (by omega), rI_i (by omega), upF_n (by omega), upF_n (by omega), upF_n (by omega)]; exact h2 e he
  · rw [rI_k (by omega), upF_n (by omega)]; exact h3 j h8 h9
  · rw [rI_k (by omega), upF_n (by omega)]; exact h4
  · rw [rI_s, upF_s]
  · rw [rI_k (by omega), upF_n (by omega)]; exact h6
theorem AR.h {v : Int32} (h : AR a T ρ σ) (hT : T ≤ 7) : AR a T (upF ρ 28 v) (hI σ a 11 v) := by
  obtain ⟨h1, h2, h3, h4, h5, h6⟩ := h
  refine ⟨?_, fun e he => ?_, fun j h8 h9 => ?_, ?_, ?_, ?_⟩
  · rw [rI_k (by omega)]; exact h1
  · rw [rI_i (by omega), rI_i (by omega), rI_i (by omega), upF_n (by omega), upF_n (by omega), upF_n (by omega)]; exact h2 e he
  · rw [rI_k (by omega), upF_n (by omega)]; exact h3 j h8 h9
  · rw [rI_k (by omega), upF_n (by omega)]; exact h4
  · rw [rI_k (by omega), upF_n (by omega)]; exact h5
  · rw [rI_s, upF_s]
theorem AR.u {v : Int32} (h : AR a T ρ σ) (hT : T ≤ 7) (hv : 0 ≤ v.toInt) : AR a T (upF ρ 26 v) (hI σ a 9 v) := by
  obtain ⟨h1, h2, h3, h4, h5, h6⟩ := h
  refine ⟨?_, fun e he => ?_, fun j h8 h9 => ?_, ?_, ?_, ?_⟩
  · rw [rI_k (by omega)]; exact h1
  · rw [rI_i (by omega), rI_i (by omega), rI_i (by omega), upF_n (by omega), upF_n (by omega), upF_n (by omega)]; exact h2 e he
  · rw [rI_k (by omega), upF_n (by omega)]; exact h3 j h8 h9
  · rw [rI_s, upF_s, if_neg (fun e => by rw [e] at hv; exact absurd hv (by decide))]
  · rw [rI_k (by omega), upF_n (by omega)]; exact h5
  · rw [rI_k (by omega), upF_n (by omega)]; exact h6
theorem RRm.w {k : Nat} {v : Int32} (h : RRm ρ σ) : RRm (upF ρ k v) (hI σ 267 k v) := fun i hi => by
  by_cases c : i = k
  · rw [c, rI_s, upF_s]
  · rw [rI_k c, upF_n c]; exact h i hi
theorem RRm.cg (h : RRm ρ σ) (e : ∀ i, i < 29 → ρ i = ρ' i) : RRm ρ' σ := fun i hi => by rw [← e i hi]; exact h i hi
theorem RRm.fr {w : Nat → Nat → Bool} {wl : Nat → Bool} (h : RRm ρ σ) (hf : frm w wl σ s) (hw : ∀ k, w 267 k = false) : RRm ρ s := fun i hi => by rw [hf.1 _ _ (hw i)]; exact h i hi
theorem AR.up (h : AR a T ρ σ) {e : Nat} (he : e < T) : upA σ a e = upR ρ e := by unfold upA upR; rw [(h.2.1 e he).1]
theorem AR.ln (h : AR a T ρ σ) {e : Nat} (he : e < T) : lnA σ a e = lnR ρ 0 e := by unfold lnA lnR; rw [(h.2.1 e he).1, (h.2.1 e he).2.1]
theorem RRm.up (h : RRm ρ σ) {e : Nat} (he : e < 7) : upR (σ.1 267) e = upR ρ e := by unfold upR; rw [h e (by omega)]
theorem RRm.ln (h : RRm ρ σ) {e : Nat} {n : Int} (he : e < 7) : lnR (σ.1 267) n e = lnR ρ n e := by unfold lnR; rw [h e (by omega), h (7 + e) (by omega)]
theorem AR.cntUp (h : AR a T ρ σ) : cntB (upA σ a) T = cntB (upR ρ) T := cntB_cg (fun _ he => h.up he)
theorem AR.cntLn (h : AR a T ρ σ) : cntB (lnA σ a) T = cntB (lnR ρ 0) T := cntB_cg (fun _ he => h.ln he)
theorem AR.ff (h : AR a T ρ σ) : ffB (lnA σ a) T 0 = firS T ρ := ffB_cg (fun i _ hi => h.ln (by omega))
theorem RRm.cntUp (h : RRm ρ σ) (hT : T ≤ 7) : cntB (upR (σ.1 267)) T = cntB (upR ρ) T := cntB_cg (fun _ he => h.up (by omega))
theorem RRm.cntLn {n : Int} (h : RRm ρ σ) (hT : T ≤ 7) : cntB (lnR (σ.1 267) n) T = cntB (lnR ρ n) T := cntB_cg (fun _ he => h.ln (by omega))
theorem RRm.ff (h : RRm ρ σ) (hT : T ≤ 7) : ffB (lnR (σ.1 267) 0) T 0 = firS T ρ := ffB_cg (fun i _ hi => h.ln (by omega))
theorem TC.T7 (h : TC tx d σ) : d.1.1.1 ≤ 7 := h.1.2.1
theorem TM.T7 (h : TM sd d σ) : d.1.1.1 ≤ 7 := h.2.2.1.2.1
theorem TM.lv (h : TM sd d σ) : LVm sd d.1.1.1 σ := ⟨h.1, h.2.1, h.2.2.1.1, h.2.2.1.2.1⟩
theorem TC.fr {w : Nat → Nat → Bool} {wl : Nat → Bool} (h : TC tx d σ) (hf : frm w wl σ s) (hw : ∀ i k, tx ≤ i → i ≤ tx + 12 → w i k = false) : TC tx d s := by
  obtain ⟨h1, h2, h3, p, h4, h5⟩ := h
  refine ⟨⟨?_, h1.2.1, fun e he => ?_⟩, ⟨?_, h2.2.1, fun q hq => ⟨?_, (h2.2.2 q hq).2.1, fun i hi => ?_⟩⟩, ⟨?_, ?_⟩, p, h4, fun k hk => ?_⟩
  · rw [hf.1 _ _ (hw _ _ (by omega) (by omega))]; exact h1.1
  · rw [hf.1 _ _ (hw (tx + 1) _ (by omega) (by omega)), hf.1 _ _ (hw (tx + 2) _ (by omega) (by omega)), hf.1 _ _ (hw (tx + 3) _ (by omega) (by omega))]; exact h1.2.2 e he
  · rw [hf.1 _ _ (hw _ _ (by omega) (by omega))]; exact h2.1
  · rw [hf.1 _ _ (hw _ _ (by omega) (by omega))]; exact (h2.2.2 q hq).1
  · rw [hf.1 _ _ (hw _ _ (by omega) (by have := h2.2.1; omega))]; exact (h2.2.2 q hq).2.2 i hi
  · rw [hf.1 _ _ (hw _ _ (by omega) (by omega))]; exact h3.1
  · rw [hf.1 _ _ (hw _ _ (by omega) (by omega))]; exact h3.2
  · obtain ⟨q, e1, e2, e3⟩ := h5 k hk
    exact ⟨q, by rw [hf.1 _ _ (hw _ _ (by omega) (by omega))]; exact e1, e2, e3.same (fun j _ _ => hf.1 _ _ (hw _ _ (by omega) (by omega)))⟩
theorem TM.fr {w : Nat → Nat → Bool} {wl : Nat → Bool} (h : TM sd d σ) (hf : frm w wl σ s) (h18 : w 236 18 = false) (hw : ∀ i k, 245 ≤ i → i ≤ 262 → w i k = false) : TM sd d s := by
  obtain ⟨h0, h1, h2, h3, h4, p, q, h5, h6, h7⟩ := h
  refine ⟨by rw [hf.1 _ _ h18]; exact h0, h1, h2.fr hf (fun a k x y => hw a k (by omega) (by omega)), h3.fr hf (fun a k x y => hw a k (by omega) (by omega)), h4.fr hf (fun a k x y => hw a k (by omega) (by omega)), p, q, h5, h6, fun k hk => ?_⟩
  have h8 := h7 k hk
  cases ho : d.2.2 k with
  | none =>
    rw [ho] at h8
    exact ⟨by rw [hf.1 _ _ (hw 254 _ (by omega) (by omega))]; exact h8.1, by rw [hf.1 _ _ (hw 255 _ (by omega) (by omega))]; exact h8.2⟩
  | some L =>
    rw [ho] at h8
    obtain ⟨p0, a1, a2, a3, a4, a5, a6⟩ := h8
    refine ⟨p0, by rw [hf.1 _ _ (hw 254 _ (by omega) (by omega))]; exact a1, by rw [hf.1 _ _ (hw 255 _ (by omega) (by omega))]; exact a2, a3, a4, fun i hi => ?_, ?_⟩
    · exact (a5 i hi).mono (Nat.le_refl _) (fun k _ _ => ⟨hf.1 _ _ (hw 261 _ (by omega) (by omega)), hf.1 _ _ (hw 262 _ (by omega) (by omega))⟩) (fun a x y => hf.1 _ _ (hw a _ (by omega) (by omega)))
    · exact a6.mono (Nat.le_refl _) (fun k _ _ => ⟨hf.1 _ _ (hw 261 _ (by omega) (by omega)), hf.1 _ _ (hw 262 _ (by omega) (by omega))⟩) (fun a x y => hf.1 _ _ (hw a _ (by omega) (by omega)))
end ROWS
