/-! the class's laws -/
def brL (x : COD × COD × COD) : Nat := x.1.length + x.2.1.length + x.2.2.length + 3
def layO (p : Nat) (x : COD × COD × COD) : List Int := enc x.1 ++ enc x.2.1 ++ [-5, ((p + brL x : Nat) : Int)] ++ enc x.2.2 ++ [-6]
def layB : Nat → List (COD × COD × COD) → List Int
  | _, [] => []
  | p, x :: l => layO p x ++ layB (p + brL x) l
def layL (p : Nat) (L : LAWT) : List Int := layB p L.1 ++ enc L.2 ++ [-6]
theorem layO_len {p : Nat} {x : COD × COD × COD} : (layO p x).length = brL x := by unfold layO brL; simp [enc_len]; omega
theorem layB_snoc {x : COD × COD × COD} : ∀ (l : List (COD × COD × COD)) (p : Nat), layB p (l ++ [x]) = layB p l ++ layO (p + (layB p l).length) x := by
  intro l
  induction l with
  | nil => intro p; show layO p x ++ [] = [] ++ layO (p + 0) x; simp
  | cons y l ih =>
    intro p
    show layO p y ++ layB (p + brL y) (l ++ [x]) = (layO p y ++ layB (p + brL y) l) ++ layO _ x
    rw [ih, List.append_assoc]
    congr 3
    show p + brL y + _ = p + (layO p y ++ layB (p + brL y) l).length
    rw [List.length_append, layO_len]; omega
theorem set_mid {A B : List Int} {x y : Int} : (A ++ x :: B).set A.length y = A ++ y :: B := by
  induction A with
  | nil => rfl
  | cons a A ih => show a :: ((A ++ x :: B).set A.length y) = _; rw [ih]; rfl
section LAWC
variable {b : Nat → Int32} {n tx : Nat} {σc σ : HS}
/-- since σ, where the code's size was p, just l has been put down -/
def CD (tx : Nat) (σ : HS) (p : Nat) (l : List Int) (s : HS) : Prop := frm (wX tx) wl0 σ s ∧ s.1 tx 8 = nI (p + l.length) ∧ seg s (tx + 11) p l ∧ ∀ q, q < p → s.1 (tx + 11) q = σ.1 (tx + 11) q
theorem CD.nil {p : Nat} (h : σ.1 tx 8 = nI p) : CD tx σ p [] σ := ⟨frm.rf, h, seg.nil, fun _ _ => rfl⟩
theorem CD.tk {p : Nat} {l : List Int} {s s1 : HS} (h : CD tx σ p l s) (lo : 30 ≤ tx) (hf : frm wTk wl0 s s1) : CD tx σ p l s1 := ⟨h.1.tr (hf.mono (fun _ _ => wTk_X) (fun _ e => e)), by rw [hf.1 tx 8 (wTk_x lo)]; exact h.2.1, h.2.2.1.same (fun q _ _ => hf.1 _ _ (wTk_x (by omega))), fun q hq => by rw [hf.1 _ _ (wTk_x (by omega))]; exact h.2.2.2 q hq⟩
theorem CD.em {p : Nat} {l : List Int} {s : HS} {x : Int32} {v : Int} (h : CD tx σ p l s) (hv : x.toInt = v) : CD tx σ p (l ++ [v]) (emS tx (p + l.length) x s) := ⟨h.1.tr (emS_fr.mono (fun _ _ => wEm_X) (fun _ e => e)), by rw [emS_8]; exact congrArg nI (by simp; omega), seg.app (h.2.2.1.same (fun q _ h2 => emS_ne (by omega))) (seg.one (by rw [emS_at]; exact hv)), fun q hq => by rw [emS_ne (by omega)]; exact h.2.2.2 q hq⟩
theorem CD.add {p : Nat} {l m : List Int} {s s1 : HS} (h : CD tx σ p l s) (h1 : CD tx s (p + l.length) m s1) : CD tx σ p (l ++ m) s1 := ⟨h.1.tr h1.1, by rw [h1.2.1]; exact congrArg nI (by simp; omega), seg.app (h.2.2.1.same (fun q _ h2 => h1.2.2.2 q (by omega))) h1.2.2.1, fun q hq => by rw [h1.2.2.2 q (by omega)]; exact h.2.2.2 q hq⟩
theorem KX.cd {t p : Nat} {a : Nat × COD} {s : HS} (h : KX b n tx σc t p σ a s) : CD tx σ p (enc a.2) s := ⟨h.2.2.2.2.2.1, by rw [enc_len]; exact h.2.2.1, h.2.2.2.1, h.2.2.2.2.2.2⟩
theorem CD.set {p k : Nat} {l : List Int} {s : HS} {x : Int32} {v : Int} (h : CD tx σ p l s) (hk : k < l.length) (hv : x.toInt = v) : CD tx σ p (l.set k v) (hI s (tx + 11) (p + k) x) := by
  refine ⟨h.1.I (by unfold wX; simp), ?_, ?_, ?_⟩
  · rw [rI_i (by omega), List.length_set]; exact h.2.1
  · intro i hi
    rw [List.length_set] at hi
    by_cases e : i = k
    · subst e
      rw [rI_s, hv, List.getD_eq_getElem?_getD, List.getElem?_set_self (by omega)]; rfl
    · rw [rI_k (by omega), List.getD_eq_getElem?_getD, List.getElem?_set_ne (by omega), ← List.getD_eq_getElem?_getD]
      exact h.2.2.1 i hi
  · intro q hq
    rw [rI_k (by omega)]; exact h.2.2.2 q hq
theorem w_cond (htx : txk tx) (hT : TKC b n σc) {t p : Nat} (h : RC b n tx σc t σ) (hp : σ.1 tx 8 = nI p) (hpt : p ≤ 8 + t) : Ok (f_X6_condition tx σ) (PostC (FLT tx σc) (condS (kdT b n) (vlT b n) (plI b n) t) (fun a s => t < a.1 ∧ RC b n tx σc a.1 s ∧ CD tx σ p (layO p a.2) s ∧ brL a.2 + t < a.1)) := by
  have lo := htx.lo
  have ht := h.2.1
  unfold f_X6_condition condS
  refine PB (w_take (K0 := 28) (d := 8) lo hT (by decide) rfl rfl (by decide) (by decide) h) (fun t1 s1 _ h1 => ?_)
  obtain ⟨rfl, -, -, r1, -, f1⟩ := h1
  have d1 := (CD.nil hp).tk lo f1
  refine PB (w_exS htx hT r1 d1.2.1 (by simp; omega)) (fun a s2 _ h2 => ?_)
  have d2 := d1.add h2.cd
  rw [List.nil_append] at d2
  have l2 := h2.2.2.2.2.1
  refine PB (w_take (K0 := 13) (d := 60) lo hT (by decide) rfl rfl (by decide) (by decide) h2.2.1) (fun t3 s3 _ h3 => ?_)
  obtain ⟨rfl, -, -, r3, -, f3⟩ := h3
  have d3 := d2.tk lo f3
  refine PB (w_exS htx hT r3 d3.2.1 (by rw [enc_len]; omega)) (fun a4 s4 _ h4 => ?_)
  have d4 := d3.add h4.cd
  have l4 := h4.2.2.2.2.1
  refine PB (w_take (K0 := 29) (d := 9) lo hT (by decide) rfl rfl (by decide) (by decide) h4.2.1) (fun t5 s5 _ h5 => ?_)
  obtain ⟨rfl, -, -, r5, -, f5⟩ := h5
  have d5 := d4.tk lo f5
  have t5 := r5.2.1
  have n5 : (enc a.2 ++ enc a4.2).length = a.2.length + a4.2.length := by rw [List.length_append, enc_len, enc_len]
  refine Ok.cve (e_emit htx d5.2.1 (by omega)) (Ok.bd ?_)
  have d6 := d5.em (x := -5) (v := -5) rfl
  have r6 := r5.em htx (emS_fr (p := p + (enc a.2 ++ enc a4.2).length) (x := -5)) (by rw [emS_8, nIt (by omega)]; omega)
  rw [d6.2.1]
  have n6 : (enc a.2 ++ enc a4.2 ++ [(-5 : Int)]).length = a.2.length + a4.2.length + 1 := by rw [List.length_append, n5]; rfl
  refine Ok.cve (e_emit htx d6.2.1 (by omega)) ?_
  have d7 := d6.em (x := 0) (v := 0) rfl
  have r7 := r6.em htx (emS_fr (p := p + (enc a.2 ++ enc a4.2 ++ [(-5 : Int)]).length) (x := 0)) (by rw [emS_8, nIt (by omega)]; omega)
  have n7 : (enc a.2 ++ enc a4.2 ++ [(-5 : Int)] ++ [0]).length = a.2.length + a4.2.length + 2 := by rw [List.length_append, n6]; rfl
  refine PB (w_exS htx hT r7 d7.2.1 (by omega)) (fun a8 s8 _ h8 => ?_)
  have d8 := d7.add h8.cd
  have l8 := h8.2.2.2.2.1
  refine PB (w_take (K0 := 30) (d := 10) lo hT (by decide) rfl rfl (by decide) (by decide) h8.2.1) (fun t9 s9 _ h9 => ?_)
  obtain ⟨rfl, -, -, r9, -, f9⟩ := h9
  have d9 := d8.tk lo f9
  have t9 := r9.2.1
  have n9 : (enc a.2 ++ enc a4.2 ++ [(-5 : Int)] ++ [0] ++ enc a8.2).length = a.2.length + a4.2.length + 2 + a8.2.length := by rw [List.length_append, n7, enc_len]
  refine Ok.cve (e_emit htx d9.2.1 (by omega)) ?_
  have d10 := d9.em (x := -6) (v := -6) rfl
  have r10 := r9.em htx (emS_fr (p := p + (enc a.2 ++ enc a4.2 ++ [(-5 : Int)] ++ [0] ++ enc a8.2).length) (x := -6)) (by rw [emS_8, nIt (by omega)]; omega)
  rw [htx.al, nIt (by omega), d10.2.1]
  refine Ok.t (by omega) (Ok.t (by omega) (Ok.bd (Ok.ret (PostC.ok (a := (a8.1 + 1, a.2, a4.2, a8.2)) rfl ⟨by omega, ?_, ?_, ?_⟩))))
  · refine ⟨r10.1.I (wP_tx (by omega) (by omega)), r10.2.1, r10.2.2.1, ?_, ?_, ?_⟩
    · rw [rI_i (by omega)]; exact r10.2.2.2.1
    · rw [rI_i (by omega)]; exact r10.2.2.2.2.1
    · rw [rI_i (by omega)]; exact r10.2.2.2.2.2
  · rw [Int.toNat_natCast]
    have n10 : (enc a.2 ++ enc a4.2 ++ [(-5 : Int)] ++ [0] ++ enc a8.2 ++ [-6]).length = brL (a.2, a4.2, a8.2) := by rw [List.length_append, n9]; unfold brL; simp; omega
    have d11 := d10.set (k := (enc a.2 ++ enc a4.2 ++ [(-5 : Int)]).length) (x := nI (p + (enc a.2 ++ enc a4.2 ++ [(-5 : Int)] ++ [0] ++ enc a8.2 ++ [-6]).length)) (v := ((p + brL (a.2, a4.2, a8.2) : Nat) : Int)) (by rw [n10, n6]; unfold brL; simp; omega) (by rw [n10]; unfold brL; exact nIt (by simp; omega))
    have e : (enc a.2 ++ enc a4.2 ++ [(-5 : Int)] ++ [0] ++ enc a8.2 ++ [-6]).set (enc a.2 ++ enc a4.2 ++ [(-5 : Int)]).length ((p + brL (a.2, a4.2, a8.2) : Nat) : Int) = layO p (a.2, a4.2, a8.2) := by
      rw [show enc a.2 ++ enc a4.2 ++ [(-5 : Int)] ++ [0] ++ enc a8.2 ++ [-6] = (enc a.2 ++ enc a4.2 ++ [(-5 : Int)]) ++ 0 :: (enc a8.2 ++ [-6]) by simp, set_mid]
      unfold layO
      simp
    rw [e] at d11
    exact d11
  · show brL (a.2, a4.2, a8.2) + t < a8.1 + 1
    unfold brL
    simp only
    omega
end LAWC
