section XPR
variable {b : Nat → Int32} {n tx : Nat} {σc σ : HS}
/-- a product: behind the first one -/
theorem w_prod_10 {fE : Nat → Int32 → HS → Option (Int32 × HS)} {w : Nat} (htx : txk tx) (hT : TKC b n σc) (hw : w ≤ 6) (hU : ∀ (σ : HS) (t p : Nat), RC b n tx σc t σ → σ.1 tx 8 = nI p → p ≤ 8 + t → Ok (f_X6_unit fE tx (nI w) σ) (XR b n tx σc (fun _ => True) (fun _ => True) w t p σ)) {t p : Nat} (hpt : p ≤ 8 + t) : ∀ (d N y t1 : Nat) (cs : COD) (s : HS), 401 - t1 < d → d ≤ N → 2 * y + 1 ≤ t1 → t < t1 → RC b n tx σc t1 s → s.1 tx 8 = nI (p + cs.length) → seg s (tx + 11) p (enc cs) → cs.length + t ≤ t1 → frm (wX tx) wl0 σ s → (∀ q, q < p → s.1 (tx + 11) q = σ.1 (tx + 11) q) → (∀ S c, depS S = w → noS S → eX (kdT b n) (vlT b n) (plI b n) true t S c = eX (kdT b n) (vlT b n) (plI b n) false t1 S (c ++ cs)) → Ok (f_X6_product_10 fE tx N (nI w) 1 (nI y) s) (XR b n tx σc noS (fun k => ¬ (k = 10 ∨ k = 15)) w t p σ) := by
  have lo := htx.lo
  intro d
  induction d with
  | zero => intro N y t1 cs s h; omega
  | succ d ih =>
    intro N y t1 cs s hd hN hy htt hR h8 hsg hlen hfr hbe hsp
    obtain ⟨N, rfl⟩ : ∃ q, N = q + 1 := ⟨N - 1, by omega⟩
    have ht1 := hR.2.1
    show Ok (b_X6_product_10 fE tx (f_X6_product_10 fE tx N) (nI w) 1 (nI y) s) _
    unfold b_X6_product_10
    refine Ok.f (by decide) ?_
    -- a refusal goes out
    have out : ∀ (s1 : HS) (e : FA) (v0 : Int32), FLT tx σc e s1 → (∀ S c, depS S = w → noS S → eX (kdT b n) (vlT b n) (plI b n) true t S c = .error e) → Ok (f_X6_product_85 fE tx (f_X6_product_10 fE tx N) (nI w) 0 (nI y) v0 s1) (XR b n tx σc noS (fun k => ¬ (k = 10 ∨ k = 15)) w t p σ) := by
      intro s1 e v0 hF he
      unfold f_X6_product_85
      refine Ok.cv (hF.em htx) (fun s2 hF2 => ?_)
      refine Ok.bd ?_
      obtain ⟨N1, rfl⟩ : ∃ q, N = q + 1 := ⟨N - 1, by omega⟩
      show Ok (b_X6_product_10 fE tx (f_X6_product_10 fE tx N1) (nI w) 0 (nI y + 1) s2) _
      unfold b_X6_product_10
      exact Ok.t rfl (Ok.t (by decide) (Ok.ret (Or.inr ⟨rfl, e, hF2, he⟩)))
    have out68 : ∀ (s1 : HS) (e : FA) (z : Int32), FLT tx σc e s1 → (∀ S c, depS S = w → noS S → eX (kdT b n) (vlT b n) (plI b n) true t S c = .error e) → Ok (f_X6_product_68 fE tx (f_X6_product_10 fE tx N) (nI w) (nI y) z s1) (XR b n tx σc noS (fun k => ¬ (k = 10 ∨ k = 15)) w t p σ) := by
      intro s1 e z hF he
      unfold f_X6_product_68 f_X6_product_69
      exact Ok.i (fun _ => out s1 e _ hF he) (fun _ => out s1 e _ hF he)
    -- one more, behind the sign
    have more : ∀ (K0 : Nat) (v0 : Int32), (K0 = 10 ∨ K0 = 15) → K0 < 40 → vK K0 = true → kdT b n t1 = K0 → (∀ k' : Int32 → Int32 → Int32 → HS → Option (Int32 × HS), ∀ s1 : HS, f_X6_product_69 fE tx k' (nI w) (nI y) (s.1 1 6) 1 s1 = f_X6_product_85 fE tx k' (nI w) 1 (nI y) v0 s1) → v0.toInt = encI (opk K0, 0) → Ok (f_X6_product_32 fE tx (f_X6_product_10 fE tx N) (nI w) 1 (nI y) s) (XR b n tx σc noS (fun k => ¬ (k = 10 ∨ k = 15)) w t p σ) := by
      intro K0 v0 hK h40 hv hk h69 hv0
      have ee : ∀ S c, noS S → eX (kdT b n) (vlT b n) (plI b n) false t1 S c = (advS (plI b n) t1 >>= fun t2 => eX (kdT b n) (vlT b n) (plI b n) true t2 (K0 :: S) c) := fun S c hS => by
        have eo : outS true S c = (S, c) := by
          cases S with
          | nil => rfl
          | cons w1 S1 => exact if_pos ((show w1 = 6 ∨ w1 = 8 ∨ w1 = 9 from hS).imp id (fun h => ⟨rfl, h⟩))
        rw [eX_f ht1, if_neg (by omega), if_neg (by omega), if_pos (by omega), eo, hk]; rfl
      unfold f_X6_product_32
      rw [nIt (by omega)]
      refine Ok.t (by omega) (Ok.bd ?_)
      refine Ok.cl (w_take (K0 := K0) (d := s.1 1 6) lo hT h40 hv (by rw [hR.2.2.2.2.1, hk]) (by omega) (by omega) hR) (fun r s1 hq => ?_)
      rw [tk_cases, if_pos (by exact hk)] at hq
      unfold advS at hq ee
      by_cases c4 : t1 = 400
      · rw [if_pos c4] at hq
        obtain ⟨rfl, hF⟩ := hq
        exact Ok.t rfl (out68 s1 _ _ hF (fun S c hS hc => by rw [hsp S c hS hc, ee S _ hc, if_pos c4]; rfl))
      · rw [if_neg c4] at hq
        obtain ⟨rfl, -, h4, -, hR1, -, hf1⟩ := hq
        refine Ok.f (by decide) ?_
        have h81 : s1.1 tx 8 = nI (p + cs.length) := by rw [hf1.1 tx 8 (wTk_x lo)]; exact h8
        refine Ok.cl (hU s1 (t1 + 1) (p + cs.length) hR1 h81 (by omega)) (fun r s2 hq => ?_)
        rcases hq with ⟨rfl, t2, cs2, a1, a2, a3, a4, a5, a6, a7, a8, a9⟩ | ⟨rfl, e, hF, he⟩
        · refine Ok.f (by decide) ?_
          rw [h69]
          unfold f_X6_product_85
          have ht2 := a2.2.1
          have a3' : s2.1 tx 8 = nI (p + cs.length + cs2.length) := a3
          refine Ok.cve (e_emit htx a3' (by omega)) (Ok.bd ?_)
          rw [nI_1]
          have ec : ∀ S c, depS S = w → noS S → eX (kdT b n) (vlT b n) (plI b n) true t S c = eX (kdT b n) (vlT b n) (plI b n) false t2 S (c ++ (cs ++ cs2 ++ [(opk K0, 0)])) := fun S c hS hc => by
            rw [hsp S c hS hc, ee S _ hc, if_neg c4]
            show eX (kdT b n) (vlT b n) (plI b n) true (t1 + 1) (K0 :: S) (c ++ cs) = _
            rw [a9 (K0 :: S) _ (by rw [depS_op (by omega)]; exact hS) (by trivial), eX_popS ht2 hK]
            simp
          refine ih N (y + 1) t2 (cs ++ cs2 ++ [(opk K0, 0)]) _ (by omega) (by omega) (by omega) (by omega) (a2.em htx emS_fr (by rw [emS_8, nIt (by omega)]; omega)) ?_ ?_ ?_ ?_ ?_ ec
          · rw [emS_8]; exact congrArg nI (by simp; omega)
          · rw [enc_app, enc_app]
            refine seg.app (seg.app ?_ ?_) ?_
            · refine hsg.same (fun q h1 h2 => ?_)
              rw [enc_len] at h2
              rw [emS_ne (by omega), a7 q (by omega), hf1.1 _ _ (wTk_x (by omega))]
            · rw [enc_len]
              refine a4.same (fun q h1 h2 => ?_)
              rw [enc_len] at h2
              rw [emS_ne (by omega)]
            · rw [List.length_append, enc_len, enc_len, ← Nat.add_assoc]
              exact seg.one (by rw [emS_at]; exact hv0)
          · simp; omega
          · exact ((hfr.tr (hf1.mono (fun _ _ => wTk_X) (fun _ e => e))).tr a6).tr (emS_fr.mono (fun _ _ => wEm_X) (fun _ e => e))
          · intro q hq
            rw [emS_ne (by omega), a7 q (by omega), hf1.1 _ _ (wTk_x (by omega)), hbe q hq]
        · exact Ok.t rfl (out68 s2 e _ hF (fun S c hS hc => by
            rw [hsp S c hS hc, ee S _ hc, if_neg c4]
            exact he (K0 :: S) _ (by rw [depS_op (by omega)]; exact hS) (by trivial)))
    refine Ok.i (fun c1 => ?_) (fun c1 => ?_)
    · exact more 10 (-3) (Or.inl rfl) (by decide) rfl ((hR.kd 10 (by decide) rfl rfl).mp c1) (fun k' s1 => by unfold f_X6_product_69; rw [if_pos c1]) rfl
    · have n1 : ¬ kdT b n t1 = 10 := fun e => c1 ((hR.kd 10 (by decide) rfl rfl).mpr e)
      refine Ok.i (fun c2 => ?_) (fun c2 => ?_)
      · exact more 15 (-4) (Or.inr rfl) (by decide) rfl ((hR.kd 15 (by decide) rfl rfl).mp c2) (fun k' s1 => by unfold f_X6_product_69; rw [if_neg c1]) rfl
      · have n2 : ¬ kdT b n t1 = 15 := fun e => c2 ((hR.kd 15 (by decide) rfl rfl).mpr e)
        exact Ok.t (by decide) (Ok.ret (Or.inl ⟨rfl, t1, cs, htt, hR, h8, hsg, hlen, hfr, hbe, (by omega), hsp⟩))
theorem w_prod {fE : Nat → Int32 → HS → Option (Int32 × HS)} {w : Nat} (htx : txk tx) (hT : TKC b n σc) (hw : w ≤ 6) (hU : ∀ (σ : HS) (t p : Nat), RC b n tx σc t σ → σ.1 tx 8 = nI p → p ≤ 8 + t → Ok (f_X6_unit fE tx (nI w) σ) (XR b n tx σc (fun _ => True) (fun _ => True) w t p σ)) {t p : Nat} (h : RC b n tx σc t σ) (hp : σ.1 tx 8 = nI p) (hpt : p ≤ 8 + t) : Ok (f_X6_product fE tx (nI w) σ) (XR b n tx σc noS (fun k => ¬ (k = 10 ∨ k = 15)) w t p σ) := by
  unfold f_X6_product
  refine Ok.cl (hU σ t p h hp hpt) (fun r s hq => ?_)
  rcases hq with ⟨rfl, t1, cs, a1, a2, a3, a4, a5, a6, a7, a8, a9⟩ | ⟨rfl, e, hF, he⟩
  · exact w_prod_10 htx hT hw hU hpt 402 5000 0 t1 cs s (by omega) (by omega) (by omega) a1 a2 a3 a4 a5 a6 a7 (fun S c hS hc => a9 S c hS trivial)
  · show Ok (b_X6_product_10 fE tx (f_X6_product_10 fE tx 4999) (nI w) 0 (nI 0) s) _
    unfold b_X6_product_10
    exact Ok.t rfl (Ok.t (by decide) (Ok.ret (Or.inr ⟨rfl, e, hF, fun S c hS hc => he S c hS trivial⟩)))
end XPR
section XEX
variable {b : Nat → Int32} {n tx : Nat} {σc σ : HS}
/-- an expression: behind the first one -/
theorem w_expr_10 {fE : Nat → Int32 → HS → Option (Int32 × HS)} {w : Nat} (htx : txk tx) (hT : TKC b n σc) (hw : w ≤ 6) (hU : ∀ (σ : HS) (t p : Nat), RC b n tx σc t σ → σ.1 tx 8 = nI p → p ≤ 8 + t → Ok (f_X6_product fE tx (nI w) σ) (XR b n tx σc noS (fun k => ¬ (k = 10 ∨ k = 15)) w t p σ)) {t p : Nat} (hpt : p ≤ 8 + t) : ∀ (d N y t1 : Nat) (cs : COD) (s : HS), 401 - t1 < d → d ≤ N → 2 * y + 1 ≤ t1 → t < t1 → RC b n tx σc t1 s → s.1 tx 8 = nI (p + cs.length) → seg s (tx + 11) p (enc cs) → cs.length + t ≤ t1 → frm (wX tx) wl0 σ s → (∀ q, q < p → s.1 (tx + 11) q = σ.1 (tx + 11) q) → ¬ (kdT b n t1 = 10 ∨ kdT b n t1 = 15) → (∀ S c, depS S = w → noX S → eX (kdT b n) (vlT b n) (plI b n) true t S c = eX (kdT b n) (vlT b n) (plI b n) false t1 S (c ++ cs)) → Ok (f_X6_expression_10 fE tx N (nI w) 1 (nI y) s) (XR b n tx σc noX (fun k => ¬ (k = 8 ∨ k = 9) ∧ ¬ (k = 10 ∨ k = 15)) w t p σ) := by
  have lo := htx.lo
  intro d
  induction d with
  | zero => intro N y t1 cs s h; omega
  | succ d ih =>
    intro N y t1 cs s hd hN hy htt hR h8 hsg hlen hfr hbe hkt hsp
    obtain ⟨N, rfl⟩ : ∃ q, N = q + 1 := ⟨N - 1, by omega⟩
    have ht1 := hR.2.1
    show Ok (b_X6_expression_10 fE tx (f_X6_expression_10 fE tx N) (nI w) 1 (nI y) s) _
    unfold b_X6_expression_10
    refine Ok.f (by decide) ?_
    -- a refusal goes out
    have out : ∀ (s1 : HS) (e : FA) (v0 : Int32), FLT tx σc e s1 → (∀ S c, depS S = w → noX S → eX (kdT b n) (vlT b n) (plI b n) true t S c = .error e) → Ok (f_X6_expression_84 fE tx (f_X6_expression_10 fE tx N) (nI w) 0 (nI y) v0 s1) (XR b n tx σc noX (fun k => ¬ (k = 8 ∨ k = 9) ∧ ¬ (k = 10 ∨ k = 15)) w t p σ) := by
      intro s1 e v0 hF he
      unfold f_X6_expression_84
      refine Ok.cv (hF.em htx) (fun s2 hF2 => ?_)
      refine Ok.bd ?_
      obtain ⟨N1, rfl⟩ : ∃ q, N = q + 1 := ⟨N - 1, by omega⟩
      show Ok (b_X6_expression_10 fE tx (f_X6_expression_10 fE tx N1) (nI w) 0 (nI y + 1) s2) _
      unfold b_X6_expression_10
      exact Ok.t rfl (Ok.t (by decide) (Ok.ret (Or.inr ⟨rfl, e, hF2, he⟩)))
    have out68 : ∀ (s1 : HS) (e : FA) (z : Int32), FLT tx σc e s1 → (∀ S c, depS S = w → noX S → eX (kdT b n) (vlT b n) (plI b n) true t S c = .error e) → Ok (f_X6_expression_68 fE tx (f_X6_expression_10 fE tx N) (nI w) (nI y) z s1) (XR b n tx σc noX (fun k => ¬ (k = 8 ∨ k = 9) ∧ ¬ (k = 10 ∨ k = 15)) w t p σ) := by
      intro s1 e z hF he
      unfold f_X6_expression_68 f_X6_expression_69
      exact Ok.i (fun _ => out s1 e _ hF he) (fun _ => out s1 e _ hF he)
    -- one more, behind the sign
    have more : ∀ (K0 : Nat) (v0 : Int32), (K0 = 8 ∨ K0 = 9) → K0 < 40 → vK K0 = true → kdT b n t1 = K0 → (∀ k' : Int32 → Int32 → Int32 → HS → Option (Int32 × HS), ∀ s1 : HS, f_X6_expression_69 fE tx k' (nI w) (nI y) (s.1 1 6) 1 s1 = f_X6_expression_84 fE tx k' (nI w) 1 (nI y) v0 s1) → v0.toInt = encI (opk K0, 0) → Ok (f_X6_expression_32 fE tx (f_X6_expression_10 fE tx N) (nI w) 1 (nI y) s) (XR b n tx σc noX (fun k => ¬ (k = 8 ∨ k = 9) ∧ ¬ (k = 10 ∨ k = 15)) w t p σ) := by
      intro K0 v0 hK h40 hv hk h69 hv0
      have ee : ∀ S c, noX S → eX (kdT b n) (vlT b n) (plI b n) false t1 S c = (advS (plI b n) t1 >>= fun t2 => eX (kdT b n) (vlT b n) (plI b n) true t2 (K0 :: S) c) := fun S c hS => by
        have eo : outS false S c = (S, c) := by
          cases S with
          | nil => rfl
          | cons w1 S1 => exact if_pos (Or.inl hS)
        rw [eX_f ht1, if_neg (by omega), if_pos (by omega), eo, hk]; rfl
      unfold f_X6_expression_32
      rw [nIt (by omega)]
      refine Ok.t (by omega) (Ok.bd ?_)
      refine Ok.cl (w_take (K0 := K0) (d := s.1 1 6) lo hT h40 hv (by rw [hR.2.2.2.2.1, hk]) (by omega) (by omega) hR) (fun r s1 hq => ?_)
      rw [tk_cases, if_pos (by exact hk)] at hq
      unfold advS at hq ee
      by_cases c4 : t1 = 400
      · rw [if_pos c4] at hq
        obtain ⟨rfl, hF⟩ := hq
        exact Ok.t rfl (out68 s1 _ _ hF (fun S c hS hc => by rw [hsp S c hS hc, ee S _ hc, if_pos c4]; rfl))
      · rw [if_neg c4] at hq
        obtain ⟨rfl, -, h4, -, hR1, -, hf1⟩ := hq
        refine Ok.f (by decide) ?_
        have h81 : s1.1 tx 8 = nI (p + cs.length) := by rw [hf1.1 tx 8 (wTk_x lo)]; exact h8
        refine Ok.cl (hU s1 (t1 + 1) (p + cs.length) hR1 h81 (by omega)) (fun r s2 hq => ?_)
        rcases hq with ⟨rfl, t2, cs2, a1, a2, a3, a4, a5, a6, a7, a8, a9⟩ | ⟨rfl, e, hF, he⟩
        · refine Ok.f (by decide) ?_
          rw [h69]
          unfold f_X6_expression_84
          have ht2 := a2.2.1
          have a3' : s2.1 tx 8 = nI (p + cs.length + cs2.length) := a3
          refine Ok.cve (e_emit htx a3' (by omega)) (Ok.bd ?_)
          rw [nI_1]
          have ec : ∀ S c, depS S = w → noX S → eX (kdT b n) (vlT b n) (plI b n) true t S c = eX (kdT b n) (vlT b n) (plI b n) false t2 S (c ++ (cs ++ cs2 ++ [(opk K0, 0)])) := fun S c hS hc => by
            rw [hsp S c hS hc, ee S _ hc, if_neg c4]
            show eX (kdT b n) (vlT b n) (plI b n) true (t1 + 1) (K0 :: S) (c ++ cs) = _
            rw [a9 (K0 :: S) _ (by rw [depS_op (by omega)]; exact hS) (by exact Or.inr hK), eX_popW ht2 hK a8]
            simp
          refine ih N (y + 1) t2 (cs ++ cs2 ++ [(opk K0, 0)]) _ (by omega) (by omega) (by omega) (by omega) (a2.em htx emS_fr (by rw [emS_8, nIt (by omega)]; omega)) ?_ ?_ ?_ ?_ ?_ a8 ec
          · rw [emS_8]; exact congrArg nI (by simp; omega)
          · rw [enc_app, enc_app]
            refine seg.app (seg.app ?_ ?_) ?_
            · refine hsg.same (fun q h1 h2 => ?_)
              rw [enc_len] at h2
              rw [emS_ne (by omega), a7 q (by omega), hf1.1 _ _ (wTk_x (by omega))]
            · rw [enc_len]
              refine a4.same (fun q h1 h2 => ?_)
              rw [enc_len] at h2
              rw [emS_ne (by omega)]
            · rw [List.length_append, enc_len, enc_len, ← Nat.add_assoc]
              exact seg.one (by rw [emS_at]; exact hv0)
          · simp; omega
          · exact ((hfr.tr (hf1.mono (fun _ _ => wTk_X) (fun _ e => e))).tr a6).tr (emS_fr.mono (fun _ _ => wEm_X) (fun _ e => e))
          · intro q hq
            rw [emS_ne (by omega), a7 q (by omega), hf1.1 _ _ (wTk_x (by omega)), hbe q hq]
        · exact Ok.t rfl (out68 s2 e _ hF (fun S c hS hc => by
            rw [hsp S c hS hc, ee S _ hc, if_neg c4]
            exact he (K0 :: S) _ (by rw [depS_op (by omega)]; exact hS) (by exact Or.inr hK)))
    refine Ok.i (fun c1 => ?_) (fun c1 => ?_)
    · exact more 8 (-1) (Or.inl rfl) (by decide) rfl ((hR.kd 8 (by decide) rfl rfl).mp c1) (fun k' s1 => by unfold f_X6_expression_69; rw [if_pos c1]) rfl
    · have n1 : ¬ kdT b n t1 = 8 := fun e => c1 ((hR.kd 8 (by decide) rfl rfl).mpr e)
      refine Ok.i (fun c2 => ?_) (fun c2 => ?_)
      · exact more 9 (-2) (Or.inr rfl) (by decide) rfl ((hR.kd 9 (by decide) rfl rfl).mp c2) (fun k' s1 => by unfold f_X6_expression_69; rw [if_neg c1]) rfl
      · have n2 : ¬ kdT b n t1 = 9 := fun e => c2 ((hR.kd 9 (by decide) rfl rfl).mpr e)
        exact Ok.t (by decide) (Ok.ret (Or.inl ⟨rfl, t1, cs, htt, hR, h8, hsg, hlen, hfr, hbe, ⟨by omega, hkt⟩, hsp⟩))
theorem w_expr {fE : Nat → Int32 → HS → Option (Int32 × HS)} {w : Nat} (htx : txk tx) (hT : TKC b n σc) (hw : w ≤ 6) (hU : ∀ (σ : HS) (t p : Nat), RC b n tx σc t σ → σ.1 tx 8 = nI p → p ≤ 8 + t → Ok (f_X6_product fE tx (nI w) σ) (XR b n tx σc noS (fun k => ¬ (k = 10 ∨ k = 15)) w t p σ)) {t p : Nat} (h : RC b n tx σc t σ) (hp : σ.1 tx 8 = nI p) (hpt : p ≤ 8 + t) : Ok (g_X6_expression fE tx (nI w) σ) (XR b n tx σc noX (fun k => ¬ (k = 8 ∨ k = 9) ∧ ¬ (k = 10 ∨ k = 15)) w t p σ) := by
  unfold g_X6_expression
  refine Ok.cl (hU σ t p h hp hpt) (fun r s hq => ?_)
  rcases hq with ⟨rfl, t1, cs, a1, a2, a3, a4, a5, a6, a7, a8, a9⟩ | ⟨rfl, e, hF, he⟩
  · exact w_expr_10 htx hT hw hU hpt 402 5000 0 t1 cs s (by omega) (by omega) (by omega) a1 a2 a3 a4 a5 a6 a7 a8 (fun S c hS hc => a9 S c hS (noX_S hc))
  · show Ok (b_X6_expression_10 fE tx (f_X6_expression_10 fE tx 4999) (nI w) 0 (nI 0) s) _
    unfold b_X6_expression_10
    exact Ok.t rfl (Ok.t (by decide) (Ok.ret (Or.inr ⟨rfl, e, hF, fun S c hS hc => he S c hS (noX_S hc)⟩)))
end XEX
section XTOP
variable {b : Nat → Int32} {n tx : Nat} {σc σ : HS}
theorem w_ex (htx : txk tx) (hT : TKC b n σc) : ∀ (m w : Nat), 7 ≤ w + m → w ≤ 6 → ∀ (σ : HS) (t p : Nat), RC b n tx σc t σ → σ.1 tx 8 = nI p → p ≤ 8 + t → Ok (f_X6_expression m tx (nI w) σ) (XR b n tx σc noX (fun k => ¬ (k = 8 ∨ k = 9) ∧ ¬ (k = 10 ∨ k = 15)) w t p σ) := by
  intro m
  induction m with
  | zero => intro w h1 h2; omega
  | succ m ih =>
    intro w h1 h2 σ t p h hp hpt
    show Ok (g_X6_expression (f_X6_expression m) tx (nI w) σ) _
    exact w_expr htx hT h2 (fun σ t p h hp hpt => w_prod htx hT h2 (fun σ t p h hp hpt => w_unit htx hT h2 (fun σ t p hw h hp hpt => ih (w + 1) (by omega) (by omega) σ t p h hp hpt) h hp hpt) h hp hpt) h hp hpt
/-- what a whole expression leaves -/
def KX (b : Nat → Int32) (n tx : Nat) (σc : HS) (t p : Nat) (σ : HS) (a : Nat × COD) (s : HS) : Prop := t < a.1 ∧ RC b n tx σc a.1 s ∧ s.1 tx 8 = nI (p + a.2.length) ∧ seg s (tx + 11) p (enc a.2) ∧ a.2.length + t ≤ a.1 ∧ frm (wX tx) wl0 σ s ∧ (∀ q, q < p → s.1 (tx + 11) q = σ.1 (tx + 11) q)
theorem w_exS (htx : txk tx) (hT : TKC b n σc) {t p : Nat} (h : RC b n tx σc t σ) (hp : σ.1 tx 8 = nI p) (hpt : p ≤ 8 + t) : Ok (f_X6_expression 8 tx 0 σ) (PostC (FLT tx σc) (exS (kdT b n) (vlT b n) (plI b n) t) (KX b n tx σc t p σ)) := by
  rw [nI0]
  refine (w_ex htx hT 8 0 (by omega) (by omega) σ t p h hp hpt).mono (fun r s hq => ?_)
  unfold exS
  rcases hq with ⟨rfl, t1, cs, a1, a2, a3, a4, a5, a6, a7, a8, a9⟩ | ⟨rfl, e, hF, he⟩
  · refine PostC.ok (a := (t1, cs)) ?_ ⟨a1, a2, a3, a4, a5, a6, a7⟩
    rw [a9 [] [] rfl trivial, eX_f a2.2.1, if_neg (fun h => absurd h.2 (by decide)), if_neg a8.1, if_neg a8.2, if_neg (by decide)]
    rfl
  · exact PostC.err (he [] [] rfl trivial) hF
end XTOP
