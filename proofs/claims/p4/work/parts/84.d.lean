/-! the reference: a beat -/
section BEATM
variable {σ s : HS} {T sd : Nat} {ρ ρ' : Nat → Int32} {d : DAT} {b : Int} {x : Option Int32}
def wLk (a _k : Nat) : Bool := a == 264
def wLa (a k : Nat) : Bool := a == 264 || a == 265 || (a == 236 && k == 46)
def wBm (a k : Nat) : Bool := a == 264 || a == 265 || a == 267 || (a == 236 && (k == 46 || k == 51 || k == 52 || k == 53))
theorem wBm_La {a k : Nat} (h : wBm a k = false) : wLa a k = false := by
  unfold wBm at h; unfold wLa
  simp only [Bool.or_eq_false_iff, Bool.and_eq_false_iff] at h ⊢
  exact ⟨⟨h.1.1.1, h.1.1.2⟩, h.2.elim Or.inl (fun h => Or.inr h.1.1.1)⟩
theorem wLa_To {a k : Nat} (h : wLa a k = false) : wTo a k = false := by
  unfold wLa at h; unfold wTo
  simp only [Bool.or_eq_false_iff] at h ⊢
  exact ⟨h.1.2, h.2⟩
theorem wLa_Lk {a k : Nat} (h : wLa a k = false) : wLk a k = false := by
  unfold wLa at h; unfold wLk
  simp only [Bool.or_eq_false_iff] at h
  exact h.1.1
theorem nI_and1 {n : Nat} (h : n < 2 ^ 31) : nI n &&& 1 = nI (n % 2) := by
  apply Int32.toBitVec_inj.mp
  apply BitVec.eq_of_toNat_eq
  rw [Int32.toBitVec_and, BitVec.toNat_and, pk_tn (by omega), pk_tn (by omega)]
  show n &&& 1 = n % 2
  exact Nat.and_one_is_mod n
theorem and1 {y : Int32} (h : 0 ≤ y.toInt) : y - y / (2 : Int32) * (2 : Int32) = y &&& 1 := by
  obtain ⟨n, hn, e, e2⟩ := i32_nat h
  have h1 := i32_rem (x := y) (y := (2 : Int32)) h (by decide)
  refine Int32.toInt_inj.mp ?_
  rw [h1, e, nI_and1 hn, nI_toInt hn, nI_toInt (by omega)]
  show (n : Int) % 2 = ((n % 2 : Nat) : Int)
  omega
theorem e7s {e : Nat} (h : sd ≤ 1) : (7 : Int32) * nI sd + nI e = nI (7 * sd + e) := by
  have : (7 : Int32) * nI sd = nI (7 * sd) := by rcases (show sd = 0 ∨ sd = 1 by omega) with rfl | rfl <;> rfl
  rw [this, nI_add]
theorem e5s {e : Nat} (h : sd ≤ 1) : (5 : Int32) * nI sd + nI e = nI (5 * sd + e) := by
  have : (5 : Int32) * nI sd = nI (5 * sd) := by rcases (show sd = 0 ∨ sd = 1 by omega) with rfl | rfl <;> rfl
  rw [this, nI_add]
theorem w_looksAt {e : Nat} {h up : Int32} (hM : TM sd d σ) (hR : RRm ρ σ) (he : e < d.1.1.1) (hW : RW d b ρ) : Okv (f_X12_looksAt (nI e) h up σ) (fun s => (∀ k, k < 9 → s.1 264 k = varS d ρ e up h k) ∧ frm wLk wl0 σ s) := by
  have hT := hM.T7
  obtain ⟨h0, h1, h2, -⟩ := hM
  have t1 := h2.2.2 e he
  unfold f_X12_looksAt
  rw [h0, e7s h1, nIt (by omega), Int.toNat_natCast]
  refine Okv.t (by omega) (Okv.bd ?_)
  rw [rI_i (show (236 : Nat) ≠ 264 by decide), h0, e7s h1, nIt (by omega), Int.toNat_natCast]
  refine Okv.t (by omega) (Okv.bd (Okv.bd (Okv.bd (Okv.bd ?_))))
  refine Okv.bd (Okv.bd (Okv.bd (Okv.bd (Okv.ret ?_))))
  refine ⟨fun k hk => ?_, ((((((((frm.rf.I rfl).I rfl).I rfl).I rfl).I rfl).I rfl).I rfl).I rfl).I rfl⟩
  have n : (267 : Nat) ≠ 264 := by decide
  unfold varS
  rcases (show k = 0 ∨ k = 1 ∨ k = 2 ∨ k = 3 ∨ k = 4 ∨ k = 5 ∨ k = 6 ∨ k = 7 ∨ k = 8 by omega) with rfl | rfl | rfl | rfl | rfl | rfl | rfl | rfl | rfl
  · rw [rI_k (by decide), rI_k (by decide), rI_k (by decide), rI_k (by decide), rI_k (by decide), rI_k (by decide), rI_k (by decide), rI_k (by decide), rI_s]
    exact ofI t1.1
  · rw [rI_k (by decide), rI_k (by decide), rI_k (by decide), rI_k (by decide), rI_k (by decide), rI_k (by decide), rI_k (by decide), rI_s, rI_i (show (247 : Nat) ≠ 264 by decide)]
    exact ofI t1.2.1
  · rw [rI_k (by decide), rI_k (by decide), rI_k (by decide), rI_k (by decide), rI_k (by decide), rI_k (by decide), rI_s]; rfl
  · rw [rI_k (by decide), rI_k (by decide), rI_k (by decide), rI_k (by decide), rI_k (by decide), rI_s, rI_i n, rI_i n, rI_i n, hR 21 (by decide)]; rfl
  · rw [rI_k (by decide), rI_k (by decide), rI_k (by decide), rI_k (by decide), rI_s, rI_i n, rI_i n, rI_i n, rI_i n, hR 22 (by decide)]; rfl
  · rw [rI_k (by decide), rI_k (by decide), rI_k (by decide), rI_s]; rfl
  · rw [rI_k (by decide), rI_k (by decide), rI_s]; rfl
  · rw [rI_k (by decide), rI_s, rI_i n, rI_i n, rI_i n, rI_i n, rI_i n, rI_i n, rI_i n, hR 24 (by decide)]; rfl
  · rw [rI_s, rI_i n, rI_i n, rI_i n, rI_i n, rI_i n, rI_i n, rI_i n, rI_i n, hR 21 (by decide), and1 hW.2.1.1]; rfl
theorem w_law4 {e k : Nat} {up h pl : Int32} (hM : TM sd d σ) (hD : DOK d) (hk : k < 4) (hv : ∀ k, k < 9 → σ.1 264 k = varS d ρ e up h k) (hp : pl = if k = 2 then σ.1 264 1 else 0) : Ok (f_X12_lawTells (nI k) pl σ) (fun r s => clampS k r = lawV d k (varS d ρ e up h) ∧ frm wTo wl0 σ s) := by
  obtain ⟨h0, h1, -, -, -, P, q, h5, h6, h7⟩ := hM
  refine (w_lawTells (k := k) (P := P) (hi := q) (o := d.2.2 k) h0 h1 hk (by omega) (by omega) (h7 k hk) (fun L hL => hD.2.2.2 k L hL)).mono (fun r s hq => ⟨?_, hq.2⟩)
  rw [hq.1]
  unfold lawV
  congr 1
  cases ho : d.2.2 k with
  | some L =>
    show lawR (σ.1 264) L.1 L.2 = lawR (varS d ρ e up h) L.1 L.2
    exact lawR_cong hv (hD.2.2.2 k L ho)
  | none =>
    show pl = lawR (varS d ρ e up h) [] (if k = 2 then [(1, 1)] else [(0, 0)])
    rw [hp]
    by_cases c : k = 2
    · rw [if_pos c, if_pos c, hv 1 (by decide)]; rfl
    · rw [if_neg c, if_neg c]; rfl
theorem TM.la (h : TM sd d σ) (hf : frm wLa wl0 σ s) : TM sd d s := h.fr hf (by decide) (fun i k h1 h2 => by unfold wLa; simp; omega)
theorem RRm.la (h : RRm ρ σ) (hf : frm wLa wl0 σ s) : RRm ρ s := h.fr hf (fun _ => rfl)
theorem w_tiresBy {e : Nat} {up h : Int32} (hM : TM sd d σ) (hD : DOK d) (hR : RRm ρ σ) (he : e < d.1.1.1) (hW : RW d b ρ) : Ok (f_X12_tiresBy (nI e) h up σ) (fun r s => r = lawV d 0 (varS d ρ e up h) ∧ frm wLa wl0 σ s) := by
  unfold f_X12_tiresBy
  refine Ok.cv (w_looksAt hM hR he hW) (fun s1 h1 => ?_)
  obtain ⟨v1, f1⟩ := h1
  have F1 : frm wLa wl0 σ s1 := f1.mono (fun _ _ => wLa_Lk) (fun _ e => e)
  rw [show f_X12_lawTells 0 0 s1 = f_X12_lawTells (nI 0) 0 s1 by rw [nI_0]]
  refine Ok.cl (w_law4 (k := 0) (hM.la F1) hD (by decide) v1 rfl) (fun r s3 h3 => Ok.cle e_held (Ok.ret ⟨?_, F1.tr (h3.2.mono (fun _ _ => wLa_To) (fun _ e => e))⟩))
  rw [← h3.1]; rfl
theorem w_dropsBy {e : Nat} {up h : Int32} (hM : TM sd d σ) (hD : DOK d) (hR : RRm ρ σ) (he : e < d.1.1.1) (hW : RW d b ρ) : Ok (f_X12_dropsBy (nI e) h up σ) (fun r s => r = lawV d 1 (varS d ρ e up h) ∧ frm wLa wl0 σ s) := by
  unfold f_X12_dropsBy
  refine Ok.cv (w_looksAt hM hR he hW) (fun s1 h1 => ?_)
  obtain ⟨v1, f1⟩ := h1
  have F1 : frm wLa wl0 σ s1 := f1.mono (fun _ _ => wLa_Lk) (fun _ e => e)
  rw [show f_X12_lawTells 1 0 s1 = f_X12_lawTells (nI 1) 0 s1 from rfl]
  refine Ok.cl (w_law4 (k := 1) (hM.la F1) hD (by decide) v1 rfl) (fun r s3 h3 => Ok.cle e_held (Ok.ret ⟨?_, F1.tr (h3.2.mono (fun _ _ => wLa_To) (fun _ e => e))⟩))
  rw [← h3.1]; rfl
theorem w_forceOf {e : Nat} {up : Int32} (hM : TM sd d σ) (hD : DOK d) (hR : RRm ρ σ) (he : e < d.1.1.1) (hW : RW d b ρ) : Ok (f_X12_forceOf (nI e) up σ) (fun r s => r = lawV d 2 (varS d ρ e up 0) ∧ frm wLa wl0 σ s) := by
  unfold f_X12_forceOf
  refine Ok.cv (w_looksAt hM hR he hW) (fun s1 h1 => ?_)
  obtain ⟨v1, f1⟩ := h1
  have F1 : frm wLa wl0 σ s1 := f1.mono (fun _ _ => wLa_Lk) (fun _ e => e)
  rw [show f_X12_lawTells 2 (s1.1 264 1) s1 = f_X12_lawTells (nI 2) (s1.1 264 1) s1 from rfl]
  refine Ok.cl (w_law4 (k := 2) (hM.la F1) hD (by decide) v1 rfl) (fun r s3 h3 => Ok.cle e_held (Ok.ret ⟨?_, F1.tr (h3.2.mono (fun _ _ => wLa_To) (fun _ e => e))⟩))
  rw [← h3.1]; rfl
theorem w_paysOf {e : Nat} {up : Int32} (hM : TM sd d σ) (hD : DOK d) (hR : RRm ρ σ) (he : e < d.1.1.1) (hW : RW d b ρ) : Ok (f_X12_paysOf (nI e) up σ) (fun r s => r = lawV d 3 (varS d ρ e up 0) ∧ frm wLa wl0 σ s) := by
  unfold f_X12_paysOf
  refine Ok.cv (w_looksAt hM hR he hW) (fun s1 h1 => ?_)
  obtain ⟨v1, f1⟩ := h1
  have F1 : frm wLa wl0 σ s1 := f1.mono (fun _ _ => wLa_Lk) (fun _ e => e)
  rw [show f_X12_lawTells 3 0 s1 = f_X12_lawTells (nI 3) 0 s1 from rfl]
  refine Ok.cl (w_law4 (k := 3) (hM.la F1) hD (by decide) v1 rfl) (fun r s3 h3 => Ok.cle e_held (Ok.ret ⟨?_, F1.tr (h3.2.mono (fun _ _ => wLa_To) (fun _ e => e))⟩))
  rw [← h3.1]; rfl
theorem e_lengthOf {p : Nat} (hM : TM sd d σ) (hp : p < d.1.2.1) : f_X12_lengthOf (nI p) σ = some (nI (d.1.2.2.1 p), σ) := by
  obtain ⟨h0, h1, -, ⟨p1, p2, p3⟩, -⟩ := hM
  unfold f_X12_lengthOf
  rw [h0, e5s h1, nIt (by omega), if_pos (by omega), Int.toNat_natCast, (p3 p hp).1]
theorem e_heightAt {p m : Nat} (hM : TM sd d σ) (hp : p < d.1.2.1) (hm : m ≤ 100000) : f_X12_heightAt (nI p) (nI m) σ = some (Int32.ofInt (d.1.2.2.2 p (m % d.1.2.2.1 p)), σ) := by
  have hM' := hM
  obtain ⟨h0, h1, -, ⟨p1, p2, p3⟩, -⟩ := hM'
  obtain ⟨q1, q2, q3⟩ := p3 p hp
  have hi : m % d.1.2.2.1 p < d.1.2.2.1 p := Nat.mod_lt _ (by omega)
  have ez : nI m - nI m / nI (d.1.2.2.1 p) * nI (d.1.2.2.1 p) = nI (m % d.1.2.2.1 p) := pk_rem (by omega) (by omega) (by omega)
  have e8 : (8 : Int32) * nI (5 * sd + p) + nI (m % d.1.2.2.1 p) = nI (8 * (5 * sd + p) + m % d.1.2.2.1 p) := by
    have e0 : (8 : Int32) * nI (5 * sd + p) = nI (8 * (5 * sd + p)) := by
      refine Int32.toInt_inj.mp ?_
      have e9 : (8 : Int32).toInt = 8 := rfl
      rw [i32_mul (by rw [nIt (by omega), e9]; omega), nIt (by omega), nIt (by omega), e9]; omega
    rw [e0, nI_add]
  unfold f_X12_heightAt
  rw [e_lengthOf hM hp]
  simp only [Cl]
  rw [nIt (n := d.1.2.2.1 p) (by omega), if_neg (by omega), h0, e5s h1, ez, e8, nIt (by omega), if_pos (by omega), Int.toNat_natCast, ofI (q3 _ hi)]
theorem e_heightNow (hM : TM sd d σ) (hR : RRm ρ σ) (hW : RW d b ρ) (hb : b ≤ 100000) : f_X12_heightNow σ = some (hgtS d ρ, σ) := by
  obtain ⟨w1, w2, w3, w4, w5, w6⟩ := hW
  have p2 := hM.2.2.2.1.2.1
  unfold f_X12_heightNow hgtS
  rw [hR 28 (by decide), hR 26 (by decide), hR 21 (by decide), hR 27 (by decide)]
  by_cases c : (ρ 28).toInt < 0
  · rw [if_pos c, if_neg (show ¬ 0 ≤ (ρ 28).toInt by omega)]
    by_cases c2 : (ρ 26).toInt < 0
    · rw [if_pos c2, if_pos c2]
    · have w4' : 0 ≤ (ρ 26).toInt ∧ (ρ 26).toInt < d.1.2.1 := by
        rcases w4 with w4 | w4
        · rw [w4] at c2; exact absurd (show (-2 : Int32).toInt < 0 by decide) c2
        · exact w4
      rw [if_neg c2, if_neg c2]
      have ex : (ρ 21 - ρ 27).toInt = (ρ 21).toInt - (ρ 27).toInt := i32_sub (by omega)
      have e1 : ρ 26 = nI (ρ 26).toInt.toNat := nI_tn w4'.1 (by omega)
      have e2 : ρ 21 - ρ 27 = nI ((ρ 21).toInt - (ρ 27).toInt).toNat := by
        refine Int32.toInt_inj.mp ?_
        rw [ex]
        clear ex
        rw [nIt (by omega)]; omega
      clear ex
      rw [e2]
      generalize hm : ((ρ 21).toInt - (ρ 27).toInt).toNat = m
      have hm2 : m ≤ 100000 := by omega
      have hp : (ρ 26).toInt.toNat < d.1.2.1 := by omega
      generalize (ρ 26).toInt.toNat = p at e1 hp
      rw [e1, e_heightAt hM hp hm2]; rfl
  · rw [if_neg c, if_pos (show 0 ≤ (ρ 28).toInt by omega)]
theorem e_lotNow {y w : Int32} (h1 : σ.1 236 49 = y) (h2 : σ.1 267 21 = w) : f_X12_lotNow σ = some (lotI y ((4 : Int32) * w), σ) := by
  unfold f_X12_lotNow f_X12_mixed
  rw [h1]
  simp only [Bd, Cl]
  rw [h2]; rfl
theorem drop_same {f i : Nat} (hf : f < 7) : dropS (f + 1) f ρ i = dropS f f ρ i := by
  unfold dropS
  by_cases c : i < f ∧ i ≠ f ∧ lnR ρ 0 i = true
  · rw [if_pos c, if_pos ⟨by omega, c.2⟩]
  · rw [if_neg c, if_neg (fun h => c ⟨by omega, h.2⟩)]
    by_cases c2 : i = 23
    · rw [if_pos c2, if_pos c2]
      show _ + nI (if (decide (f ≠ f) && lnR ρ 0 f) = true then _ else _) = _
      rw [if_neg (by simp)]
    · rw [if_neg c2, if_neg c2]
/-- whether others land -/
def othS (T f : Nat) (ρ : Nat → Int32) : Nat := cntB (fun e => decide (e ≠ f) && lnR ρ 0 e) T
theorem w_dropsOthers {f : Nat} (hM : TM sd d σ) (hR : RRm ρ σ) (hf : f < d.1.1.1) (h51 : σ.1 236 51 = nI f) (h52 : σ.1 236 52 = 0) : Okv (f_X12_dropsOthers σ) (fun s => RRm (dropS d.1.1.1 f ρ) s ∧ s.1 236 52 = (if othS d.1.1.1 f ρ = 0 then 0 else 1) ∧ frm (fun a k => a == 267 || (a == 236 && k == 52)) wl0 σ s) := by
  have hT := hM.T7
  have loop : ∀ (dd k N : Nat) (s : HS), k + dd = d.1.1.1 → dd < N → RRm (dropS k f ρ) s → s.1 236 52 = (if othS k f ρ = 0 then 0 else 1) → frm (fun a k => a == 267 || (a == 236 && k == 52)) wl0 σ s → Okv (f_X12_dropsOthers_2 N (nI k) s) (fun s => RRm (dropS d.1.1.1 f ρ) s ∧ s.1 236 52 = (if othS d.1.1.1 f ρ = 0 then 0 else 1) ∧ frm (fun a k => a == 267 || (a == 236 && k == 52)) wl0 σ s) := by
    intro dd
    induction dd with
    | zero =>
      intro k N s hk hN hR' h5 hfr
      obtain ⟨N, rfl⟩ : ∃ q, N = q + 1 := ⟨N - 1, by omega⟩
      have ek : k = d.1.1.1 := by omega
      rw [ek] at hR' h5 ⊢
      have L : LVm sd d.1.1.1 s := (hM.fr hfr (by decide) (fun i k h1 h2 => by simp; omega)).lv
      show Okv (b_X12_dropsOthers_2 (f_X12_dropsOthers_2 N) (nI d.1.1.1) s) _
      unfold b_X12_dropsOthers_2
      rw [L.tt, nIt (n := d.1.1.1) (by omega)]
      exact Okv.t L.sd0 (Okv.f (by omega) (Okv.ret ⟨hR', h5, hfr⟩))
    | succ dd ih =>
      intro k N s hk hN hR' h5 hfr
      obtain ⟨N, rfl⟩ : ∃ q, N = q + 1 := ⟨N - 1, by omega⟩
      have L : LVm sd d.1.1.1 s := (hM.fr hfr (by decide) (fun i k h1 h2 => by simp; omega)).lv
      have e51 : s.1 236 51 = nI f := by rw [hfr.1 236 51 rfl]; exact h51
      have oc : othS (k + 1) f ρ = if (decide (k ≠ f) && lnR ρ 0 k) = true then othS k f ρ + 1 else othS k f ρ := rfl
      show Okv (b_X12_dropsOthers_2 (f_X12_dropsOthers_2 N) (nI k) s) _
      unfold b_X12_dropsOthers_2 f_X12_dropsOthers_58
      rw [L.tt, e51, nIt (n := k) (by omega), nIt (n := f) (by omega), Int.toNat_natCast]
      refine Okv.t L.sd0 (Okv.t (by omega) ?_)
      by_cases ck : k = f
      · refine Okv.t (by omega) (Okv.bd ?_)
        rw [nI_1]
        refine ih (k + 1) N s (by omega) (by omega) (hR'.cg (fun i hi => ?_)) ?_ hfr
        · rw [ck]; exact (drop_same (by omega)).symm
        · have oc0 : othS (k + 1) f ρ = othS k f ρ := by rw [oc]; exact if_neg (by simp [ck])
          rw [oc0]; exact h5
      · refine Okv.f (by omega) (Okv.cle (e_doesLand (by omega)) ?_)
        have el : lnR (s.1 267) (0 : Int32).toInt k = lnR ρ 0 k := by
          rw [i0_eq, hR'.ln (by omega)]
          unfold lnR dropS
          rw [if_neg (by omega), if_neg (by omega), if_neg (by omega), if_neg (by omega)]
        have st := drop_step (ρ := ρ) (k := k) (f := f) (by omega) ck
        rw [el]
        by_cases c2 : lnR ρ 0 k = true
        · rw [if_pos c2]
          refine Okv.f i1_ne (Okv.t (by omega) (Okv.bd (Okv.bd (Okv.bd (Okv.bd ?_)))))
          rw [nI_1]
          refine ih (k + 1) N _ (by omega) (by omega) (fun i hi => ?_) ?_ (((hfr.I rfl).I rfl).I rfl)
          · rw [st i, if_pos c2, rI_i (by decide), rI_k (show (23 : Nat) ≠ k by omega), hR' 23 (by decide)]
            exact (hR'.w (k := k) (v := 2)).w (k := 23) i hi
          · have oc0 : othS (k + 1) f ρ = othS k f ρ + 1 := by rw [oc]; exact if_pos (by simp [ck, c2])
            rw [rI_s, oc0, if_neg (by omega)]
        · rw [if_neg c2]
          refine Okv.t i0_eq (Okv.bd ?_)
          rw [nI_1]
          refine ih (k + 1) N s (by omega) (by omega) (hR'.cg (fun i hi => ?_)) ?_ hfr
          · rw [st i, if_neg c2]
          · have oc0 : othS (k + 1) f ρ = othS k f ρ := by rw [oc]; exact if_neg (by simp [c2])
            rw [oc0]; exact h5
  unfold f_X12_dropsOthers
  rw [nI0]
  refine loop d.1.1.1 0 5000 σ (by omega) (by omega) (hR.cg (fun i hi => ?_)) (by rw [h52]; rfl) frm.rf
  unfold dropS
  rw [if_neg (by omega)]
  by_cases c : i = 23
  · rw [if_pos c, c]
    show ρ 23 = ρ 23 + nI 0
    rw [nI_0, Int32.add_zero]
  · rw [if_neg c]
def SDm (x : Option Int32) (s : HS) : Prop := (x = none ∧ s.1 236 50 = 1) ∨ (x = some (s.1 236 49) ∧ s.1 236 50 = 0)
theorem w_isThrown {e : Nat} {h t p : Int32} (hR : RRm ρ σ) (he : e < 7) : Okv (f_X12_isThrown (nI e) h t p σ) (fun s => RRm (thrS ρ e h t p) s ∧ frm (fun a _ => a == 267) wl0 σ s) := by
  unfold f_X12_isThrown
  refine Okv.bd (Okv.bd ?_)
  rw [rI_k (show (24 : Nat) ≠ 25 by decide), hR 25 (by decide), hR 24 (by decide)]
  have R2 := (hR.w (k := 25) (v := ρ 25 + p)).w (k := 24) (v := ρ 24 + 1)
  generalize hs2 : hI (hI σ 267 25 (ρ 25 + p)) 267 24 (ρ 24 + 1) = s2 at R2
  have f2 : frm (fun a _ => a == 267) wl0 σ s2 := by rw [← hs2]; exact (frm.rf.I rfl).I rfl
  rw [n14_add, nIt (n := 14 + e) (by omega), Int.toNat_natCast]
  refine Okv.t (by omega) (Okv.t (by omega) (Okv.bd ?_))
  rw [R2 (14 + e) (by omega), upF_n (by omega), upF_n (by omega)]
  have R3 := R2.w (k := 14 + e) (v := ρ (14 + e) + 1)
  generalize hs3 : hI s2 267 (14 + e) (ρ (14 + e) + 1) = s3 at R3
  have f3 : frm (fun a _ => a == 267) wl0 s2 s3 := by rw [← hs3]; exact frm.rf.I rfl
  refine Okv.cle e_held (Okv.bd ?_)
  rw [R3 22 (by decide), upF_n (by omega), upF_n (by omega), upF_n (by omega)]
  have R4 := R3.w (k := 22) (v := hldI (ρ 22 + t) 0 999)
  generalize hs4 : hI s3 267 22 (hldI (ρ 22 + t) 0 999) = s4 at R4
  have f4 : frm (fun a _ => a == 267) wl0 s3 s4 := by rw [← hs4]; exact frm.rf.I rfl
  have fin : ∀ (τ : HS) (ρ1 : Nat → Int32), RRm ρ1 τ → frm (fun a _ => a == 267) wl0 σ τ → (∀ i, i < 29 → upF ρ1 (7 + e) h i = thrS ρ e h t p i) → Okv (f_X12_isThrown_70 (nI e) h τ) (fun s => RRm (thrS ρ e h t p) s ∧ frm (fun a _ => a == 267) wl0 σ s) := by
    intro τ ρ1 h1 h2 h3
    unfold f_X12_isThrown_70
    rw [n7_add, nIt (n := 7 + e) (by omega), Int.toNat_natCast]
    exact Okv.t (by omega) (Okv.bd (Okv.ret ⟨(h1.w (k := 7 + e) (v := h)).cg h3, h2.I rfl⟩))
  have F4 := (f2.tr f3).tr f4
  by_cases c : h.toInt = 0
  · rw [nIt (n := e) (by omega), Int.toNat_natCast]
    refine Okv.t c (Okv.t (by omega) (Okv.bd (fin _ _ (R4.w (k := e) (v := 1)) (F4.I rfl) (fun i hi => ?_))))
    unfold thrS upF
    simp only [c, and_true]
    repeat' split
    all_goals first | rfl | omega | (subst_vars; rfl) | (exfalso; omega)
  · refine Okv.f c (fin _ _ R4 F4 (fun i hi => ?_))
    unfold thrS upF
    simp only [c, and_false, if_false]
    repeat' split
    all_goals first | rfl | omega | (subst_vars; rfl) | (exfalso; omega)
theorem w_catches {e : Nat} (hM : TM sd d σ) (hD : DOK d) (hR : RRm ρ σ) (he : e < d.1.1.1) (hW : RW d b ρ) (hb : b ≤ 100000) (hx : SDm x σ) : Okv (f_X12_catches (nI e) σ) (fun s => RRm (catS d x e ρ) s ∧ s.1 236 53 = lawV d 2 (varS d ρ e (upsS d.1.1.1 ρ) 0) ∧ s.1 236 51 = σ.1 236 51 ∧ s.1 236 52 = σ.1 236 52 ∧ frm wBm wl0 σ s) := by
  have hT := hM.T7
  unfold f_X12_catches catS
  refine Okv.cle (e_heightNow hM hR hW hb) (Okv.cle (e_thingsSo hM.lv) (Okv.cle e_bits ?_))
  rw [pcM_cnt (by omega)]
  have eu : nI (cntB (fun e => decide ((σ.1 267 e).toInt = (0 : Int32).toInt)) d.1.1.1) = upsS d.1.1.1 ρ := by
    unfold upsS
    rw [← hR.cntUp hT]; rfl
  rw [eu]
  generalize hup : upsS d.1.1.1 ρ = up
  generalize hhg : hgtS d ρ = h
  refine Okv.cl (w_tiresBy hM hD hR he hW) (fun r8 s7 h7 => ?_)
  obtain ⟨rfl, f7⟩ := h7
  refine Okv.cl (w_paysOf (hM.la f7) hD (hR.la f7) he hW) (fun r10 s9 h9 => ?_)
  obtain ⟨rfl, f9⟩ := h9
  have F9 := f7.tr f9
  refine Okv.cl (w_forceOf (hM.la F9) hD (hR.la F9) he hW) (fun r12 s11 h11 => ?_)
  obtain ⟨rfl, f11⟩ := h11
  have F11 := F9.tr f11
  refine Okv.bd ?_
  generalize hfo : lawV d 2 (varS d ρ e up 0) = fo
  generalize hs13 : hI s11 236 53 fo = s13
  have f13 : frm (fun a k => a == 236 && k == 53) wl0 s11 s13 := by rw [← hs13]; exact frm.rf.I rfl
  have e53 : s13.1 236 53 = fo := by rw [← hs13, rI_s]
  have M13 : TM sd d s13 := (hM.la F11).fr f13 (by decide) (fun i k h1 h2 => by simp; omega)
  have R13 : RRm ρ s13 := (hR.la F11).fr f13 (fun _ => rfl)
  have G13 : frm wBm wl0 σ s13 := (F11.mono (fun _ _ => wBm_La) (fun _ e => e)).tr (f13.mono (fun a k e => by
    unfold wBm at e
    simp only [Bool.or_eq_false_iff, Bool.and_eq_false_iff] at e ⊢
    exact e.2.elim Or.inl (fun e => Or.inr e.2)) (fun _ e => e))
  have k13 : ∀ k, k ≠ 46 → k ≠ 53 → s13.1 236 k = σ.1 236 k := fun k h1 h2 => by
    rw [f13.1 236 k (by simp [h2]), F11.1 236 k (by unfold wLa; simp [h1])]
  rw [k13 50 (by decide) (by decide)]
  have fin : ∀ τ : HS, RRm ρ τ → frm wBm wl0 σ τ → τ.1 236 53 = fo → τ.1 236 51 = σ.1 236 51 → τ.1 236 52 = σ.1 236 52 → Okv (f_X12_catches_81 (nI e) h (lawV d 0 (varS d ρ e up h)) (lawV d 3 (varS d ρ e up 0)) τ) (fun s => RRm (thrS ρ e h (lawV d 0 (varS d ρ e up h)) (lawV d 3 (varS d ρ e up 0))) s ∧ s.1 236 53 = fo ∧ s.1 236 51 = σ.1 236 51 ∧ s.1 236 52 = σ.1 236 52 ∧ frm wBm wl0 σ s) := by
    intro τ h1 h2 h3 h4 h5
    unfold f_X12_catches_81
    refine Okv.cv (w_isThrown h1 (by omega)) (fun s hs => Okv.ret ⟨hs.1, ?_, ?_, ?_, h2.tr (hs.2.mono (fun a k e => by
      unfold wBm at e
      simp only [Bool.or_eq_false_iff] at e
      exact e.1.2) (fun _ e => e))⟩)
    · rw [hs.2.1 236 53 rfl]; exact h3
    · rw [hs.2.1 236 51 rfl]; exact h4
    · rw [hs.2.1 236 52 rfl]; exact h5
  rcases hx with ⟨rfl, h50⟩ | ⟨rfl, h50⟩
  · rw [h50, if_neg (show ¬ (false : Bool) = true by decide)]
    exact Okv.f i1_ne (fin s13 R13 G13 e53 (k13 51 (by decide) (by decide)) (k13 52 (by decide) (by decide)))
  · rw [h50]
    refine Okv.t i0_eq (Okv.cle (e_lotNow (k13 49 (by decide) (by decide)) (R13 21 (by decide))) (Okv.cl (w_dropsBy M13 hD R13 he hW) (fun r17 s16 h16 => ?_)))
    obtain ⟨rfl, f16⟩ := h16
    have G16 : frm wBm wl0 σ s16 := G13.tr (f16.mono (fun _ _ => wBm_La) (fun _ e => e))
    have R16 : RRm ρ s16 := R13.la f16
    have k16 : ∀ k, k ≠ 46 → s16.1 236 k = s13.1 236 k := fun k h1 => by rw [f16.1 236 k (by unfold wLa; simp [h1])]
    have d53 : s16.1 236 53 = fo := by rw [k16 53 (by decide)]; exact e53
    have d51 : s16.1 236 51 = σ.1 236 51 := by rw [k16 51 (by decide)]; exact k13 51 (by decide) (by decide)
    have d52 : s16.1 236 52 = σ.1 236 52 := by rw [k16 52 (by decide)]; exact k13 52 (by decide) (by decide)
    show Okv _ (fun s => RRm (if decide ((lotI (σ.1 236 49) ((4 : Int32) * ρ 21)).toInt < (lawV d 1 (varS d ρ e up h)).toInt) = true then _ else _) s ∧ _)
    by_cases c : (lotI (σ.1 236 49) ((4 : Int32) * ρ 21)).toInt < (lawV d 1 (varS d ρ e up h)).toInt
    · rw [if_pos (decide_eq_true c), nIt (n := e) (by omega), Int.toNat_natCast]
      refine Okv.t c (Okv.t (by omega) (Okv.bd (Okv.bd (Okv.ret ⟨?_, ?_, ?_, ?_, (G16.I rfl).I rfl⟩))))
      · rw [rI_k (show (23 : Nat) ≠ e by omega), R16 23 (by decide)]
        exact (R16.w (k := e) (v := 2)).w (k := 23)
      · rw [rI_i (by decide), rI_i (by decide)]; exact d53
      · rw [rI_i (by decide), rI_i (by decide)]; exact d51
      · rw [rI_i (by decide), rI_i (by decide)]; exact d52
    · have cn : ¬ decide ((lotI (σ.1 236 49) ((4 : Int32) * ρ 21)).toInt < (lawV d 1 (varS d ρ e up h)).toInt) = true := by rw [decide_eq_false c]; decide
      rw [if_neg cn]
      exact Okv.f c (fin s16 R16 G16 d53 d51 d52)
theorem w_decM (hM : TM sd d σ) (hR : RRm ρ σ) : Okv (f_X12_beatGoes_71 σ) (fun s => RRm (decS d.1.1.1 ρ) s ∧ frm (fun a _ => a == 267) wl0 σ s) := by
  have hT := hM.T7
  have loop : ∀ (dd k N : Nat) (s : HS), k + dd = d.1.1.1 → dd < N → RRm (decU k ρ) s → frm (fun a _ => a == 267) wl0 σ s → Okv (f_X12_beatGoes_73 N (nI k) s) (fun s => RRm (decS d.1.1.1 ρ) s ∧ frm (fun a _ => a == 267) wl0 σ s) := by
    intro dd
    induction dd with
    | zero =>
      intro k N s hk hN hR' hfr
      obtain ⟨N, rfl⟩ : ∃ q, N = q + 1 := ⟨N - 1, by omega⟩
      have ek : k = d.1.1.1 := by omega
      have L : LVm sd d.1.1.1 s := (hM.fr hfr (by decide) (fun i k h1 h2 => by simp; omega)).lv
      show Okv (b_X12_beatGoes_73 (f_X12_beatGoes_73 N) (nI k) s) _
      unfold b_X12_beatGoes_73
      rw [L.tt, nIt (n := k) (by omega)]
      refine Okv.t L.sd0 (Okv.f (by omega) (Okv.bd (Okv.bd (Okv.ret ⟨?_, (hfr.I rfl).I rfl⟩))))
      rw [hR' 21 (by decide)]
      refine ((hR'.w (k := 21)).w (k := 28)).cg (fun i hi => ?_)
      unfold upF decS decU
      rw [ek]
      repeat' split
      all_goals first | rfl | omega | (subst_vars; rfl) | (exfalso; omega)
    | succ dd ih =>
      intro k N s hk hN hR' hfr
      obtain ⟨N, rfl⟩ : ∃ q, N = q + 1 := ⟨N - 1, by omega⟩
      have L : LVm sd d.1.1.1 s := (hM.fr hfr (by decide) (fun i k h1 h2 => by simp; omega)).lv
      show Okv (b_X12_beatGoes_73 (f_X12_beatGoes_73 N) (nI k) s) _
      unfold b_X12_beatGoes_73 f_X12_beatGoes_108
      rw [L.tt, n7_add, nIt (n := k) (by omega), nIt (n := 7 + k) (by omega), Int.toNat_natCast, Int.toNat_natCast]
      refine Okv.t L.sd0 (Okv.t (by omega) (Okv.t (by omega) ?_))
      have eu : s.1 267 k = ρ k := by
        rw [hR' k (by omega)]
        unfold decU
        rw [if_neg (by omega)]
      rw [eu]
      by_cases c : (ρ k).toInt = 0
      · refine Okv.t c (Okv.t (by omega) (Okv.t (by omega) (Okv.bd (Okv.bd ?_))))
        rw [nI_1, hR' (7 + k) (by omega)]
        refine ih (k + 1) N _ (by omega) (by omega) ((hR'.w (k := 7 + k)).cg (fun i hi => ?_)) (hfr.I rfl)
        unfold upF decU
        by_cases ci : i = 7 + k
        · subst ci
          rw [if_pos rfl, if_neg (by omega), if_pos ⟨by omega, by omega, by rw [Nat.add_sub_cancel_left]; exact c⟩]
        · rw [if_neg ci]
          by_cases c3 : 7 ≤ i ∧ i < 7 + k ∧ (ρ (i - 7)).toInt = 0
          · rw [if_pos c3, if_pos ⟨c3.1, by omega, c3.2.2⟩]
          · rw [if_neg c3, if_neg (fun h => c3 ⟨h.1, by omega, h.2.2⟩)]
      · refine Okv.f c (Okv.bd ?_)
        rw [nI_1]
        refine ih (k + 1) N s (by omega) (by omega) (hR'.cg (fun i hi => ?_)) hfr
        unfold decU
        by_cases c3 : 7 ≤ i ∧ i < 7 + k ∧ (ρ (i - 7)).toInt = 0
        · rw [if_pos c3, if_pos ⟨c3.1, by omega, c3.2.2⟩]
        · rw [if_neg c3, if_neg (fun h => c3 ⟨h.1, by
            by_cases e : i = 7 + k
            · exfalso
              rw [e, Nat.add_sub_cancel_left] at h
              exact c h.2.2
            · omega, h.2.2⟩)]
  unfold f_X12_beatGoes_71
  rw [nI0]
  refine loop d.1.1.1 0 5000 σ (by omega) (by omega) (hR.cg (fun i hi => ?_)) frm.rf
  unfold decU
  rw [if_neg (by omega)]
/-- what is in force in a beat -/
def forS (d : DAT) (ρ : Nat → Int32) : Int32 := if firS d.1.1.1 ρ < d.1.1.1 then lawV d 2 (varS d (dropS d.1.1.1 (firS d.1.1.1 ρ) ρ) (firS d.1.1.1 ρ) (upsS d.1.1.1 (dropS d.1.1.1 (firS d.1.1.1 ρ) ρ)) 0) else 0
def cauS (T : Nat) (ρ : Nat → Int32) : Int32 := if firS T ρ < T then nI (firS T ρ) else -2
def twoS (T : Nat) (ρ : Nat → Int32) : Int32 := if firS T ρ < T then (if othS T (firS T ρ) ρ = 0 then 0 else 1) else 0
/-- what a beat of the reference leaves -/
def BGm (d : DAT) (x : Option Int32) (ρ : Nat → Int32) (σ s : HS) : Prop := RRm (beatS d x ρ) s ∧ s.1 236 51 = cauS d.1.1.1 ρ ∧ s.1 236 52 = twoS d.1.1.1 ρ ∧ s.1 236 53 = forS d ρ ∧ frm wBm wl0 σ s
theorem w_beatGoes (hM : TM sd d σ) (hD : DOK d) (hR : RRm ρ σ) (hW : RW d b ρ) (hb : b ≤ 100000) (hx : SDm x σ) : Okv (f_X12_beatGoes σ) (BGm d x ρ σ) := by
  have hT := hM.T7
  unfold f_X12_beatGoes
  refine Okv.cle (e_catchesNow hM.lv) ?_
  unfold firI
  rw [hR.ff hT]
  refine Okv.bd (Okv.bd (Okv.bd ?_))
  have e236 : ∀ k, k ≠ 51 → k ≠ 52 → k ≠ 53 → ∀ v, (hI (hI (hI σ 236 51 v) 236 52 0) 236 53 0).1 236 k = σ.1 236 k := fun k h1 h2 h3 v => by rw [rI_k h3, rI_k h2, rI_k h1]
  have wm : ∀ a k, ((fun a _ => a == 267) : Nat → Nat → Bool) a k = true → wBm a k = true := fun a k e => by unfold wBm; simp at e; simp [e]
  have up7 : ∀ {y z : HS}, frm (fun a _ => a == 267) wl0 y z → frm wBm wl0 y z := fun hf => hf.mono (fun a k e => by
    cases h : (a == 267) with
    | false => rfl
    | true => rw [wm a k h] at e; exact absurd e (by decide)) (fun _ e => e)
  by_cases c : firS d.1.1.1 ρ < d.1.1.1
  · rw [if_pos c]
    unfold BGm beatS midS cauS twoS forS
    rw [if_pos c, if_pos c, if_pos c, if_pos c]
    generalize hff : firS d.1.1.1 ρ = f at c
    generalize hs5 : hI (hI (hI σ 236 51 (nI f)) 236 52 0) 236 53 0 = s5
    have F5 : frm wBm wl0 σ s5 := by rw [← hs5]; exact ((frm.rf.I rfl).I rfl).I rfl
    have f5 : frm (fun a k => a == 236 && (k == 51 || k == 52 || k == 53)) wl0 σ s5 := by rw [← hs5]; exact ((frm.rf.I rfl).I rfl).I rfl
    have M5 : TM sd d s5 := hM.fr f5 (by decide) (fun i k h1 h2 => by simp; omega)
    have R5 : RRm ρ s5 := hR.fr f5 (fun _ => rfl)
    have e51 : s5.1 236 51 = nI f := by rw [← hs5, rI_k (by decide), rI_k (by decide), rI_s]
    have e52 : s5.1 236 52 = 0 := by rw [← hs5, rI_k (by decide), rI_s]
    rw [e51, nIt (by omega)]
    refine Okv.f (by omega) (Okv.cv (w_dropsOthers M5 R5 c e51 e52) (fun s6 h6 => ?_))
    obtain ⟨R6, t6, f6⟩ := h6
    have F6 : frm wBm wl0 σ s6 := F5.tr (f6.mono (fun a k e => by
      unfold wBm at e
      simp only [Bool.or_eq_false_iff, Bool.and_eq_false_iff] at e ⊢
      exact ⟨e.1.2, e.2.elim Or.inl (fun e => Or.inr e.1.2)⟩) (fun _ e => e))
    have M6 : TM sd d s6 := M5.fr f6 (by decide) (fun i k h1 h2 => by simp; omega)
    have g51 : s6.1 236 51 = nI f := by rw [f6.1 236 51 rfl]; exact e51
    have x6 : SDm x s6 := by
      have a49 : s6.1 236 49 = σ.1 236 49 := by rw [f6.1 236 49 rfl, f5.1 236 49 rfl]
      have a50 : s6.1 236 50 = σ.1 236 50 := by rw [f6.1 236 50 rfl, f5.1 236 50 rfl]
      unfold SDm
      rw [a49, a50]; exact hx
    rw [g51]
    refine Okv.cv (w_catches M6 hD R6 c (hW.drop hT) hb x6) (fun s8 h8 => ?_)
    obtain ⟨R8, y53, y51, y52, f8⟩ := h8
    have F8 := F6.tr f8
    have M8 : TM sd d s8 := hM.fr F8 (by decide) (fun i k h1 h2 => by unfold wBm; simp; omega)
    refine (w_decM M8 R8).mono (fun s9 h9 => ⟨h9.1, ?_, ?_, ?_, F8.tr (up7 h9.2)⟩)
    · rw [h9.2.1 236 51 rfl, y51]; exact g51
    · rw [h9.2.1 236 52 rfl, y52]; exact t6
    · rw [h9.2.1 236 53 rfl]; exact y53
  · rw [if_neg c]
    unfold BGm beatS midS cauS twoS forS
    rw [if_neg c, if_neg c, if_neg c, if_neg c]
    generalize hs5 : hI (hI (hI σ 236 51 (-2)) 236 52 0) 236 53 0 = s5
    have F5 : frm wBm wl0 σ s5 := by rw [← hs5]; exact ((frm.rf.I rfl).I rfl).I rfl
    have f5 : frm (fun a k => a == 236 && (k == 51 || k == 52 || k == 53)) wl0 σ s5 := by rw [← hs5]; exact ((frm.rf.I rfl).I rfl).I rfl
    have M5 : TM sd d s5 := hM.fr f5 (by decide) (fun i k h1 h2 => by simp; omega)
    have R5 : RRm ρ s5 := hR.fr f5 (fun _ => rfl)
    have e51 : s5.1 236 51 = -2 := by rw [← hs5, rI_k (by decide), rI_k (by decide), rI_s]
    have e52 : s5.1 236 52 = 0 := by rw [← hs5, rI_k (by decide), rI_s]
    have e53 : s5.1 236 53 = 0 := by rw [← hs5, rI_s]
    have L := M5.lv
    rw [e51]
    refine Okv.t (by decide) (Okv.t L.sd0 (Okv.cle e_held (Okv.bd ?_)))
    rw [R5 22 (by decide), L.at, ofI M5.2.2.2.2.1.1]
    have R12 := R5.w (k := 22) (v := hldI (ρ 22 - Int32.ofInt d.2.1.1) 0 999)
    generalize hs12 : hI s5 267 22 (hldI (ρ 22 - Int32.ofInt d.2.1.1) 0 999) = s12 at R12
    have f12 : frm (fun a _ => a == 267) wl0 s5 s12 := by rw [← hs12]; exact frm.rf.I rfl
    have F12 := F5.tr (up7 f12)
    refine (w_decM (M5.fr f12 (by decide) (fun i k h1 h2 => by simp; omega)) R12).mono (fun s9 h9 => ⟨h9.1, ?_, ?_, ?_, F12.tr (up7 h9.2)⟩)
    · rw [h9.2.1 236 51 rfl, f12.1 236 51 rfl]; exact e51
    · rw [h9.2.1 236 52 rfl, f12.1 236 52 rfl]; exact e52
    · rw [h9.2.1 236 53 rfl, f12.1 236 53 rfl]; exact e53
end BEATM
