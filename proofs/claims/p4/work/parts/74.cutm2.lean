def LC : List Nat := [239, 240, 241, 242, 1010]
theorem tokS_on {x1 x2 x3 : Int32} {x4 : Int64} {σ : HS} : onm LC σ (tokS x1 x2 x3 x4 σ) := onm.F (onm.L (onm.I (onm.I (onm.I onm.rf rfl) rfl) rfl) rfl) rfl
theorem tokS_n {x1 x2 x3 : Int32} {x4 : Int64} {σ : HS} : (tokS x1 x2 x3 x4 σ).1 236 10 = σ.1 236 10 + 1 := rI_s
theorem tokS_t {x1 x2 x3 : Int32} {x4 : Int64} {σ : HS} (h : 0 ≤ (σ.1 236 10).toInt) : TK1 x1 x2 x3 x4 σ (tokS x1 x2 x3 x4 σ) := tk1_of (by omega) (by omega) (by omega) (by omega)
theorem LC.b {σ0 σ : HS} (h : onm LC σ0 σ) : bM σ = bM σ0 := by
  unfold bM
  rw [h.a (i := 238) rfl]
theorem LC.s {σ0 σ : HS} (h : onm LC σ0 σ) : σ.1 236 4 = σ0.1 236 4 := h.1 236 4 rfl
theorem LC.n {σ0 σ : HS} (h : onm LC σ0 σ) : nM σ = nM σ0 := by
  unfold nM
  rw [LC.s h]
theorem LC.c {σ0 σ : HS} (h : onm LC σ0 σ) (c : CM σ0) : CM σ := by
  unfold CM
  rw [LC.s h]
  exact c
theorem LC.k {σ0 σ : HS} (h : onm LC σ0 σ) (c : KEY σ0) : KEY σ := by
  unfold KEY
  rw [h.2.1 243 rfl]
  exact c
theorem bI_0 {b : Bool} : (bI b).toInt = 0 ↔ ¬ b = true := by cases b <;> decide
theorem w_cut_7 {σ0 : HS} (hC : CM σ0) (hK : KEY σ0) : ∀ (d N i j : Nat) (σ : HS), onm LC σ0 σ → (σ.1 236 10).toInt = j → j ≤ 401 → i ≤ nM σ0 → plT (bM σ0) (nM σ0) j = rn isBl (bM σ0) (nM σ0) i → TKm (bM σ0) (nM σ0) j σ → nM σ0 - i < d → d ≤ N → Okv (f_X12_cut_7 N (nI i) σ) (fun s => onm LC σ0 s ∧ TKA (bM σ0) (nM σ0) s) := by
  have hn : nM σ0 ≤ 2000 := by unfold nM; have := hC.2; omega
  intro d
  induction d with
  | zero => intro N i j σ _ _ _ _ _ _ h _; omega
  | succ d ih =>
    intro N i j σ ho hj hj1 hi hp hT hm hN
    obtain ⟨N, rfl⟩ : ∃ q, N = q + 1 := ⟨N - 1, by omega⟩
    have hσ := LC.c ho hC
    have hb := LC.b ho
    have hnn := LC.n ho
    have hs4 : (σ.1 236 4).toInt = (nM σ : Nat) := by unfold nM; have := hσ.1; omega
    -- a token put down, and on from the place e
    have tk : ∀ (e : Nat) (w v x : Int32) (name : Int64), e ≤ nM σ0 → i < e → w.toInt = kdT (bM σ0) (nM σ0) j → x.toInt = (plT (bM σ0) (nM σ0) j : Nat) → (kdT (bM σ0) (nM σ0) j = 2 → v.toInt = vlT (bM σ0) (nM σ0) j) → (kdT (bM σ0) (nM σ0) j = 1 → name = nmT (bM σ0) (nM σ0) j) → plT (bM σ0) (nM σ0) (j + 1) = rn isBl (bM σ0) (nM σ0) e → j ≤ 400 → Okv (f_X12_cut_7 N (nI e) (tokS w x v name σ)) (fun s => onm LC σ0 s ∧ TKA (bM σ0) (nM σ0) s) := by
      intro e w v x name he hie hw hx hv hnm hpl hj4
      have hj2 : ((tokS w x v name σ).1 236 10).toInt = ((j + 1 : Nat) : Int) := by
        rw [tokS_n, i32_add (by rw [hj, show (1 : Int32).toInt = 1 from rfl]; omega), hj]; rfl
      exact ih N e (j + 1) _ (ho.tr tokS_on) hj2 (by omega) he hpl (TKm.add hT (tokS_t (by omega)) hj (by omega) (by omega) hw hx hv hnm) (by omega) (by omega)
    show Okv (b_X12_cut_7 (f_X12_cut_7 N) (nI i) σ) _
    unfold b_X12_cut_7
    refine Okv.i (fun c => ?_) (fun c => ?_)
    · exact Okv.ret ⟨ho, TKm.full hT (by omega)⟩
    have hj4 : j ≤ 400 := by omega
    refine Okv.cle (e_X12_byteAt (by rw [nIt (by omega)]; omega) hσ.2) ?_
    rw [nIt (by omega)]
    refine Okv.i (fun c1 => ?_) (fun c1 => ?_)
    rotate_left
    · refine Okv.cve (e_X12_token (by omega)) (Okv.ret ⟨ho.tr tokS_on, ?_⟩)
      have hp2 : plT (bM σ0) (nM σ0) j = i := by rw [hp, rn_out (Or.inl (by omega))]
      have k0 := kd_end hp2 (by omega)
      exact TKm.fin (TKm.add hT (tokS_t (by omega)) hj (by omega) rfl (by rw [show ((j : Nat) : Int).toNat = j from rfl, k0]; rfl) (by rw [show ((j : Nat) : Int).toNat = j from rfl, hp2]; omega) (fun h => by rw [show ((j : Nat) : Int).toNat = j from rfl, k0] at h; omega) (fun h => by rw [show ((j : Nat) : Int).toNat = j from rfl, k0] at h; omega)) (by omega) k0
    have hin : i < nM σ0 := by omega
    have hby : byt σ (nI i) = bM σ0 i := by rw [byt_nI (by omega) hσ.1, if_pos (by omega), hb]
    rw [hby]
    simp only [f_X12_cut_67, f_X12_cut_291, Bd, nI_1]
    -- blanks
    have blank : isBl (bM σ0 i) = true → Okv (f_X12_cut_7 N (nI (i + 1)) σ) (fun s => onm LC σ0 s ∧ TKA (bM σ0) (nM σ0) s) := fun h => ih N (i + 1) j σ ho hj hj1 (by omega) (by rw [hp, rn_in hin h]) hT (by omega) (by omega)
    refine Okv.i (fun c2 => blank (isBl_of (Or.inl c2))) (fun c2 => ?_)
    refine Okv.i (fun c3 => blank (isBl_of (Or.inr (Or.inl c3)))) (fun c3 => ?_)
    refine Okv.i (fun c4 => blank (isBl_of (Or.inr (Or.inr (Or.inl c4))))) (fun c4 => ?_)
    refine Okv.i (fun c5 => blank (isBl_of (Or.inr (Or.inr (Or.inr c5))))) (fun c5 => ?_)
    have hp2 : plT (bM σ0) (nM σ0) j = i := by rw [hp, rn_out (Or.inr (isBl_no ⟨c2, c3, c4, c5⟩))]
    refine Okv.cle e_X12_isLetter ?_
    refine Okv.i (fun c6 => ?_) (fun c6 => ?_)
    · rw [bI_0] at c6
      refine Okv.cle e_X12_isDigit ?_
      refine Okv.i (fun c7 => ?_) (fun c7 => ?_)
      · rw [bI_0] at c7
        refine Okv.cle (e_X12_byteAt (by rw [nIt (by omega)]; omega) hσ.2) ?_
        obtain ⟨v, hv, e1⟩ := e_X12_sign (x1 := nI i) (x2 := bM σ0 i) (x3 := byt σ (nI (i + 1))) (σ := σ) (by omega)
        refine Okv.cle e1 ?_
        rw [nI_1]
        obtain ⟨k1, k2⟩ := kd_sg hp2 hin c6 c7
        have sr := sgn_rg (bM σ0 i).toInt
        exact tk (i + 1) v 0 (nI i) 0 (by omega) (by omega) (by rw [hv, k1]) (by rw [nIt (by omega), hp2]) (fun h => by omega) (fun h => by omega) k2 hj4
      · rw [bI_0, Classical.not_not] at c7
        generalize he : rn isDg (bM σ0) (nM σ0) i = e
        obtain ⟨k1, k2, k3⟩ := kd_dg hp2 hin c6 c7 he
        have g := rn_le (p := isDg) (b := bM σ0) (n := nM σ0) (i := i + 1)
        rw [← rn_in hin c7, he] at g
        have gu := g.2 (by omega)
        obtain ⟨w, hw, e1⟩ := e_cut_208 (k7 := f_X12_cut_7 N) hσ (i := i) (e := e) (by omega) (by rw [hb, hnn]; exact he) (e - i) 0 5000 0 (by omega) (by omega) rfl
        rw [nI0]
        rw [show f_X12_cut_208 (f_X12_cut_7 N) 5000 (nI i) (nI 0) (nI 0) σ = f_X12_cut_208 (f_X12_cut_7 N) 5000 (nI i) (nI 0) 0 σ from rfl, e1]
        unfold f_X12_cut_261
        refine Okv.cve (e_X12_token (by omega)) ?_
        simp only [Bd, f_X12_cut_291, nI_add]
        rw [show i + (e - i) = e by omega]
        rw [hb] at hw
        exact tk e _ w (nI i) 0 (by omega) (by omega) (by rw [k1]; split <;> split <;> first | rfl | omega) (by rw [nIt (by omega), hp2]) (fun h => by rw [hw, k3, show min (e - i) 4 = e - i by (rw [k1] at h; split at h <;> omega)]) (fun h => by rw [k1] at h; split at h <;> omega) k2 hj4
    · rw [bI_0, Classical.not_not] at c6
      generalize he : rn isLt (bM σ0) (nM σ0) i = e
      obtain ⟨k1, k2, k3⟩ := kd_lt hp2 hin c6 he
      have g := rn_le (p := isLt) (b := bM σ0) (n := nM σ0) (i := i + 1)
      rw [← rn_in hin c6, he] at g
      have gu := g.2 (by omega)
      have e1 := e_cut_85 (k7 := f_X12_cut_7 N) hσ (i := i) (e := e) (by omega) (by rw [hb, hnn]; exact he) (e - i) 0 5000 (by omega) (by omega)
      rw [nI0]
      rw [show f_X12_cut_85 (f_X12_cut_7 N) 5000 (nI i) (nI 0) 0 σ = f_X12_cut_85 (f_X12_cut_7 N) 5000 (nI i) (nI 0) (wv (bM σ) i (min 0 8)) σ from rfl, e1]
      unfold f_X12_cut_135
      rw [nIt (by omega)]
      have go : ∀ w : Int32, w.toInt = kdT (bM σ0) (nM σ0) j → Okv (f_X12_cut_179 (f_X12_cut_7 N) (nI i) (nI (e - i)) (wv (bM σ) i (min (e - i) 8)) w σ) (fun s => onm LC σ0 s ∧ TKA (bM σ0) (nM σ0) s) := by
        intro w hw
        unfold f_X12_cut_179
        refine Okv.cve (e_X12_token (by omega)) ?_
        simp only [Bd, f_X12_cut_291, nI_add]
        rw [show i + (e - i) = e by omega]
        exact tk e w 0 (nI i) _ (by omega) (by omega) hw (by rw [nIt (by omega), hp2]) (fun h => by
          exfalso
          rw [k1] at h
          split at h
          · omega
          · split at h <;> omega) (fun h => by
          rw [k3, hb, show min (e - i) 8 = e - i by (rw [k1] at h; split at h <;> omega)]) k2 hj4
      refine Okv.i (fun c8 => ?_) (fun c8 => ?_)
      · exact go _ (by rw [k1, if_pos (by omega), if_pos (by omega)]; rfl)
      · obtain ⟨w, hw, e2⟩ := e_cut_146 (k7 := f_X12_cut_7 N) (LC.k ho hK) (i := nI i) (m := nI (e - i)) (v := wv (bM σ) i (min (e - i) 8)) 20 0 5000 (if 8 < e - i then 3 else 1) rfl (by omega) (by rw [if_neg (by omega), kw_zero]; rfl)
        rw [nI0, e2]
        exact go w (by rw [hw, k1, if_neg (by omega), kw_all, hb, show min (e - i) 8 = e - i by omega])
theorem w_X12_cut {σ : HS} (hC : CM σ) (hK : KEY σ) : Okv (f_X12_cut σ) (fun s => onm LC σ s ∧ TKA (bM σ) (nM σ) s) := by
  unfold f_X12_cut
  refine Okv.bd ?_
  have o1 : onm LC σ (hI σ 236 10 0) := onm.F onm.rf rfl
  have := w_cut_7 hC hK (2001) 5000 0 0 (hI σ 236 10 0) o1 (by rw [rI_s]; rfl) (by omega) (by omega) rfl (TKm.zero (by omega)) (by unfold nM; have := hC.2; omega) (by omega)
  exact this

