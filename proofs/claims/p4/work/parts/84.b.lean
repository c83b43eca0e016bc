/-! the class: a beat -/
section BEATC
variable {σ s : HS} {a T tx : Nat} {ρ ρ' : Nat → Int32} {d : DAT} {b : Int}
/-- an Air's cell: clear of the text, of what is asked -/
def aAi (a : Nat) : Prop := 56 ≤ a ∧ a + 3 < 236
def wAi (a i _k : Nat) : Bool := i == a || i == a + 1 || i == a + 2 || i == a + 3
def wBt (a i k : Nat) : Bool := wAi a i k || i == 9 || i == 10 || i == 11
theorem wAi_no {i k : Nat} (h : i < a ∨ a + 3 < i) : wAi a i k = false := by unfold wAi; simp; omega
theorem wBt_no {i k : Nat} (h : i < a ∨ a + 3 < i) (h2 : i < 9 ∨ 11 < i) : wBt a i k = false := by unfold wBt wAi; simp; omega
theorem wBt_Ai {i k : Nat} (h : wBt a i k = false) : wAi a i k = false := by
  unfold wBt at h
  simp only [Bool.or_eq_false_iff] at h
  exact h.1.1.1
theorem wBt_An {i k : Nat} (h : wBt a i k = false) : wAns i k = false := by
  unfold wBt at h
  unfold wAns wAsk
  simp only [Bool.or_eq_false_iff] at h ⊢
  simp [h.1.1.2, h.1.2, h.2]
theorem nI_tn {v : Int32} (h : 0 ≤ v.toInt) (h2 : v.toInt < 100000) : v = nI v.toInt.toNat := Int32.toInt_inj.mp (by rw [nIt (by omega)]; omega)
/-- the variables but the height -/
def VC (d : DAT) (ρ : Nat → Int32) (e : Nat) (up : Int32) (s : HS) : Prop := ∀ k, k < 9 → k ≠ 2 → s.1 10 k = varS d ρ e up 0 k
theorem e_lookAt {e : Nat} {up : Int32} (hA : AR a T ρ σ) (hC : TC tx d σ) (htx : txk tx) (ha : aAi a) (he : e < T) (hT : T ≤ 7) (heT : e < d.1.1.1) : Okv (f_X4_lookAt tx a (nI e) up σ) (fun s => VC d ρ e up s ∧ frm (fun i _ => i == 10) wl0 σ s) := by
  have lo := htx.lo
  obtain ⟨h1, h2, h3, h4, h5, h6⟩ := hA
  have t1 := hC.1.2.2 e heT
  unfold f_X4_lookAt
  rw [nIt (by omega), Int.toNat_natCast]
  refine Okv.t (by omega) (Okv.bd (Okv.t (by omega) ?_))
  refine Okv.bd (Okv.bd (Okv.bd (Okv.bd ?_)))
  refine Okv.bd (Okv.bd (Okv.bd (Okv.ret ?_)))
  refine ⟨fun k hk h2 => ?_, (((((((frm.rf.I rfl).I rfl).I rfl).I rfl).I rfl).I rfl).I rfl).I rfl⟩
  have x21 : ∀ {i : Nat}, 4 ≤ i → i ≤ 8 → σ.1 a i = ρ (17 + i) := fun x y => h3 _ x y
  have ne : a ≠ 10 := by have := ha.1; omega
  unfold varS
  rcases (show k = 0 ∨ k = 1 ∨ k = 3 ∨ k = 4 ∨ k = 5 ∨ k = 6 ∨ k = 7 ∨ k = 8 by omega) with rfl | rfl | rfl | rfl | rfl | rfl | rfl | rfl
  · rw [rI_k (by decide), rI_k (by decide), rI_k (by decide), rI_k (by decide), rI_k (by decide), rI_k (by decide), rI_k (by decide), rI_s]
    exact ofI t1.1
  · rw [rI_k (by decide), rI_k (by decide), rI_k (by decide), rI_k (by decide), rI_k (by decide), rI_k (by decide), rI_s, rI_i (by omega)]
    exact ofI t1.2.1
  · rw [rI_k (by decide), rI_k (by decide), rI_k (by decide), rI_k (by decide), rI_k (by decide), rI_s, rI_i ne, rI_i ne, x21 (by decide) (by decide)]; rfl
  · rw [rI_k (by decide), rI_k (by decide), rI_k (by decide), rI_k (by decide), rI_s, rI_i ne, rI_i ne, rI_i ne, x21 (by decide) (by decide)]; rfl
  · rw [rI_k (by decide), rI_k (by decide), rI_k (by decide), rI_s]; rfl
  · rw [rI_k (by decide), rI_k (by decide), rI_s]; rfl
  · rw [rI_k (by decide), rI_s, rI_i ne, rI_i ne, rI_i ne, rI_i ne, rI_i ne, rI_i ne, x21 (by decide) (by decide)]; rfl
  · rw [rI_s, rI_i ne, rI_i ne, rI_i ne, rI_i ne, rI_i ne, rI_i ne, rI_i ne, x21 (by decide) (by decide)]; rfl
theorem lawO_ok (hD : DOK d) (k : Nat) : LG (lawO k (d.2.2 k)) := by
  cases h : d.2.2 k with
  | some L => exact hD.2.2.2 k L h
  | none =>
    refine ⟨Nat.zero_le _, fun x hx => absurd hx (by show ¬ x ∈ []; simp), ?_⟩
    show gdC (if k = 2 then [(1, 1)] else [(0, 0)])
    unfold gdC
    by_cases c : k = 2
    · rw [if_pos c]; decide
    · rw [if_neg c]; decide
theorem w_asksV {k e : Nat} {up h : Int32} (hV : VC d ρ e up σ) (hC : TC tx d σ) (hD : DOK d) (htx : txk tx) (hk : k < 4) : Ok (f_X4_asks tx (nI k) h σ) (fun r s => r = lawV d k (varS d ρ e up h) ∧ frm wAns wl0 σ s ∧ VC d ρ e up s) := by
  obtain ⟨_, _, _, p, h4, h5⟩ := hC
  refine (w_asks htx hk h4 (h5 k hk) (lawO_ok hD k)).mono (fun r s hq => ⟨?_, hq.2, fun j hj h2 => ?_⟩)
  · rw [hq.1]
    unfold lawV
    rw [lawR_cong (v := vH (σ.1 10) h) (v' := varS d ρ e up h) (fun j hj => ?_) (lawO_ok hD k)]
    unfold vH
    by_cases c : j = 2
    · rw [if_pos c, c]; rfl
    · rw [if_neg c, hV j hj c]
      unfold varS
      rw [if_neg c, if_neg c]
  · rw [hq.2.1 10 j (by unfold wAns wAsk; simp [h2])]
    exact hV j hj h2
theorem e_floorMod {x y : Int32} (hx : 0 ≤ x.toInt) (hy : 0 < y.toInt) : f_J9_floorMod_7cf53 x y σ = some (x - x / y * y, σ) := by
  unfold f_J9_floorMod_7cf53
  rw [if_neg (by omega)]
  simp only [Bd]
  have h : ¬ (x ^^^ y).toInt < 0 := fun e => absurd ((i32_xor (by omega)).mp e) (by omega)
  rw [if_neg h]
theorem e_hasPattern {x : Int32} {P : Nat} (h : σ.1 tx 4 = nI P) (hP : P ≤ 5) : f_X10_hasPattern tx x σ = some (if 0 ≤ x.toInt ∧ x.toInt < P then 1 else 0, σ) := by
  unfold f_X10_hasPattern
  rw [h, nIt (by omega)]
  by_cases c : x.toInt < 0
  · rw [if_pos c, if_neg (by omega)]
  · rw [if_neg c]
    by_cases c2 : x.toInt < P
    · rw [if_pos c2, if_pos (by omega)]
    · rw [if_neg c2, if_neg (by omega)]
theorem e_hasThing {x : Int32} {P : Nat} (h : σ.1 tx 0 = nI P) (hP : P ≤ 7) : f_X10_hasThing tx x σ = some (if 0 ≤ x.toInt ∧ x.toInt < P then 1 else 0, σ) := by
  unfold f_X10_hasThing
  rw [h, nIt (by omega)]
  by_cases c : x.toInt < 0
  · rw [if_pos c, if_neg (by omega)]
  · rw [if_neg c]
    by_cases c2 : x.toInt < P
    · rw [if_pos c2, if_pos (by omega)]
    · rw [if_neg c2, if_neg (by omega)]
theorem e_heightBy (hA : AR a T ρ σ) (hC : TC tx d σ) (hW : RW d b ρ) (hb : b ≤ 100000) (htx : txk tx) : f_X0_heightBy a tx σ = some (hgtS d ρ, σ) := by
  obtain ⟨h1, h2, h3, h4, h5, h6⟩ := hA
  obtain ⟨w1, w2, w3, w4, w5, w6⟩ := hW
  obtain ⟨_, ⟨p1, p2, p3⟩, _⟩ := hC
  unfold f_X0_heightBy hgtS
  rw [h6]
  by_cases c : (ρ 28).toInt = -1
  · rw [if_pos c, if_neg (by omega), h4, e_hasPattern p1 p2]
    simp only [Cl]
    rcases w4 with w4 | w4
    · rw [if_pos w4, w4]
      rw [show (if 0 ≤ (-1 : Int32).toInt ∧ (-1 : Int32).toInt < (d.1.2.1 : Int) then (1 : Int32) else 0) = 0 from if_neg (fun e => absurd e.1 (by decide)), if_pos i0_eq, if_pos (by decide)]
    · have n2 : ¬ ρ 26 = -2 := fun e => by rw [e] at w4; exact absurd w4.1 (by decide)
      rw [if_neg n2, show (if 0 ≤ (ρ 26).toInt ∧ (ρ 26).toInt < (d.1.2.1 : Int) then (1 : Int32) else 0) = 1 from if_pos w4, if_neg i1_ne, h4, if_neg n2, if_pos (by omega), if_neg (show ¬ (ρ 26).toInt < 0 by omega)]
      obtain ⟨q1, q2, q3⟩ := p3 (ρ 26).toInt.toNat (by omega)
      generalize hq : (ρ 26).toInt.toNat = q at q1 q2 q3
      rw [q1, nIt (n := d.1.2.2.1 q) (by omega), if_neg (by omega), if_pos (by omega), if_pos (by omega), h3 4 (by decide) (by decide), h5]
      have ex : (ρ (17 + 4) - ρ 27).toInt = (ρ 21).toInt - (ρ 27).toInt := i32_sub (by show -2147483648 ≤ (ρ 21).toInt - (ρ 27).toInt ∧ (ρ 21).toInt - (ρ 27).toInt ≤ 2147483647; omega)
      have er := i32_rem (x := ρ (17 + 4) - ρ 27) (y := nI (d.1.2.2.1 q)) (by rw [ex]; omega) (by rw [nIt (by omega)]; omega)
      rw [ex, nIt (n := d.1.2.2.1 q) (by omega)] at er
      rw [e_floorMod (by rw [ex]; omega) (by rw [nIt (by omega)]; omega)]
      generalize (ρ (17 + 4) - ρ 27) - (ρ (17 + 4) - ρ 27) / nI (d.1.2.2.1 q) * nI (d.1.2.2.1 q) = z at er
      clear ex
      simp only
      have hm := Int.emod_lt_of_pos ((ρ 21).toInt - (ρ 27).toInt) (show (0 : Int) < (d.1.2.2.1 q : Int) by omega)
      have hm0 := Int.emod_nonneg ((ρ 21).toInt - (ρ 27).toInt) (show (d.1.2.2.1 q : Int) ≠ 0 by omega)
      have ez : z.toInt.toNat = ((ρ 21).toInt - (ρ 27).toInt).toNat % d.1.2.2.1 q := by
        rw [er]
        generalize hx : ((ρ 21).toInt - (ρ 27).toInt) = x
        have : x = (x.toNat : Int) := by omega
        rw [this]; norm_cast
      rw [er, if_pos (by omega), ← er, ez]
      have hi : ((ρ 21).toInt - (ρ 27).toInt).toNat % d.1.2.2.1 q < d.1.2.2.1 q := Nat.mod_lt _ (by omega)
      rw [ofI (q3 _ hi)]
  · rw [if_neg c, if_pos (by omega)]
end BEATC
