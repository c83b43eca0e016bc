/-! arrays just made, one behind another: number, length, kind; address, array class -/
abbrev ZT : Type := (Nat × Nat × Nat) × Nat × ClassId
def zW (z : ZT) : Nat × va_E := (z.2.1, .inl (z.2.2, z.1.2.1, if z.1.2.2 = 23 then .inr (.inl (fun _ => 0)) else .inl (fun _ => 0)))
def zT (z : ZT) : ClassId × FieldType := (z.2.2, aty z.1.2.2)
def zAd (b : Nat) (Z : List ZT) (i : Nat) : Nat := match Z[i - b]? with
  | some z => z.2.1
  | none => 0
def zCa (b : Nat) (Z : List ZT) (i : Nat) : ClassId := match Z[i - b]? with
  | some z => z.2.2
  | none => (Z.head?.map (fun z => z.2.2)).getD default
theorem zAd_at {b k : Nat} {Z : List ZT} {z : ZT} (h : Z[k]? = some z) : zAd b Z (b + k) = z.2.1 := by
  unfold zAd
  rw [Nat.add_sub_cancel_left, h]
theorem zCa_at {b k : Nat} {Z : List ZT} {z : ZT} (h : Z[k]? = some z) : zCa b Z (b + k) = z.2.2 := by
  unfold zCa
  rw [Nat.add_sub_cancel_left, h]
def zOk (b : Nat) (N : List (Nat × Nat × Nat)) : Bool := match N with
  | [] => true
  | x :: N => x.1 == b && al x.1 == x.2.1 && kd x.1 == x.2.2 && Nat.ble 20 x.2.2 && Nat.ble x.2.2 23 && zOk (b + 1) N
theorem zOk_at : ∀ {N : List (Nat × Nat × Nat)} {b k : Nat} {x : Nat × Nat × Nat}, zOk b N = true → N[k]? = some x → x.1 = b + k ∧ al x.1 = x.2.1 ∧ kd x.1 = x.2.2 ∧ 20 ≤ x.2.2 ∧ x.2.2 ≤ 23
  | [], b, k, x, h, hx => by simp at hx
  | y :: N, b, 0, x, h, hx => by
    simp only [zOk, Bool.and_eq_true, beq_iff_eq] at h
    obtain ⟨⟨⟨⟨⟨h1, h2⟩, h3⟩, h4⟩, h5⟩, -⟩ := h
    simp at hx
    subst hx
    exact ⟨h1, h2, h3, Nat.le_of_ble_eq_true h4, Nat.le_of_ble_eq_true h5⟩
  | y :: N, b, k + 1, x, h, hx => by
    simp only [zOk, Bool.and_eq_true] at h
    have hx' : N[k]? = some x := by simpa using hx
    have := zOk_at h.2 hx'
    exact ⟨by omega, this.2⟩
theorem ceK_arr {ad : Nat → Nat} {ca : Nat → ClassId} {n i : Nat} {g : Nat → Int32} {gl : Nat → Int64} {tx : Nat → Nat} (h1 : 20 ≤ n) (h2 : n ≤ 23) : ceK ad ca n i g gl tx = .inl (ca i, al i, if n = 23 then .inr (.inl gl) else .inl g) := by
  unfold ceK
  rw [if_neg (by omega)]
  by_cases h : n = 23
  · rw [if_pos h, if_pos h]
  · rw [if_neg h, if_neg h, if_pos (by omega)]
theorem z_cell {Z : List ZT} {b k : Nat} {z : ZT} {ad : Nat → Nat} {ca : Nat → ClassId} {g : Nat → Int32} {gl : Nat → Int64} {tx : Nat → Nat} (hN : zOk b (Z.map (fun z => z.1)) = true) (hz : Z[k]? = some z) (ha : ad (b + k) = z.2.1) (hc : ca (b + k) = z.2.2) (hg : g = fun _ => 0) (hgl : gl = fun _ => 0) : (ad z.1.1, ceK ad ca (kd z.1.1) z.1.1 g gl tx) = zW z := by
  have hx : (Z.map (fun z => z.1))[k]? = some z.1 := by rw [List.getElem?_map, hz]; rfl
  obtain ⟨h1, h2, h3, h4, h5⟩ := zOk_at hN hx
  rw [h3, ceK_arr h4 h5, h2, h1, ha, hc, hg, hgl]
  rfl
theorem z_world {Z : List ZT} {b : Nat} {ad : Nat → Nat} {ca : Nat → ClassId} {σ : HS} (hN : zOk b (Z.map (fun z => z.1)) = true) (ha : ∀ k z, Z[k]? = some z → ad (b + k) = z.2.1) (hc : ∀ k z, Z[k]? = some z → ca (b + k) = z.2.2) (h0 : ∀ i, b ≤ i → σ.1 i = fun _ => 0) (h1 : ∀ i, σ.2.1 i = fun _ => 0) : Z.map zW = mw (Z.map (fun z => z.1.1)) ad ca σ := by
  unfold mw
  rw [List.map_map]
  apply List.map_congr_left
  intro z hz
  obtain ⟨k, hk⟩ := List.getElem?_of_mem hz
  have hx : (Z.map (fun z => z.1))[k]? = some z.1 := by rw [List.getElem?_map, hk]; rfl
  have hb := (zOk_at hN hx).1
  have hb2 : b ≤ z.1.1 := by omega
  exact (z_cell hN hk (ha k z hk) (hc k z hk) (h0 _ hb2) (h1 _)).symm
theorem z_types {Z : List ZT} {b : Nat} {ca : Nat → ClassId} (hN : zOk b (Z.map (fun z => z.1)) = true) (hc : ∀ k z, Z[k]? = some z → ca (b + k) = z.2.2) : ∀ i ∈ Z.map (fun z => z.1.1), (ca i, aty (kd i)) ∈ Z.map zT := by
  intro i hi
  obtain ⟨z, hz, rfl⟩ := List.mem_map.mp hi
  obtain ⟨k, hk⟩ := List.getElem?_of_mem hz
  have hx : (Z.map (fun z => z.1))[k]? = some z.1 := by rw [List.getElem?_map, hk]; rfl
  obtain ⟨h1, h2, h3, h4, h5⟩ := zOk_at hN hx
  refine List.mem_map.mpr ⟨z, hz, ?_⟩
  show (z.2.2, aty z.1.2.2) = _
  rw [h3, h1, hc k z hk]
theorem m_world {Z : List ZT} {a : Nat} {ad : Nat → Nat} {ca : Nat → ClassId} {F : List Value} (hI1 : idM = 236 :: Z.map (fun z => z.1.1)) (hN : zOk 237 (Z.map (fun z => z.1)) = true) (ea : ad 236 = a) (ha : ∀ k z, Z[k]? = some z → ad (237 + k) = z.2.1) (hc : ∀ k z, Z[k]? = some z → ca (237 + k) = z.2.2)
    (hF : F = fsK ad 11 236 ((hI (fun _ _ => 0, fun _ _ => 0, fun _ => 0) 236 17 (-1)).1 236) ((hI (fun _ _ => 0, fun _ _ => 0, fun _ => 0) 236 17 (-1)).2.2)) : (a, .inr (11, F)) :: Z.map zW = mw idM ad ca (hI (fun _ _ => 0, fun _ _ => 0, fun _ => 0) 236 17 (-1)) := by
  rw [hI1, z_world (σ := hI (fun _ _ => 0, fun _ _ => 0, fun _ => 0) 236 17 (-1)) hN ha hc (fun i hi => hI_o (by omega)) (fun i => rfl)]
  unfold mw
  rw [List.map_cons, hF, ea, kd_236, ceK_ob (by decide)]
theorem m_types {Z : List ZT} {ca : Nat → ClassId} (hI1 : idM = 236 :: Z.map (fun z => z.1.1)) (hN : zOk 237 (Z.map (fun z => z.1)) = true) (hc : ∀ k z, Z[k]? = some z → ca (237 + k) = z.2.2) : ∀ q ∈ tys idM ca, q ∈ Z.map zT := by
  intro q hq
  obtain ⟨i, hi, rfl⟩ := List.mem_map.mp hq
  obtain ⟨h1, h2⟩ := List.mem_filter.mp hi
  rw [hI1] at h1
  rcases List.mem_cons.mp h1 with rfl | h1
  · rw [kd_236] at h2
    exact absurd h2 (by decide)
  · exact z_types hN hc i h1

