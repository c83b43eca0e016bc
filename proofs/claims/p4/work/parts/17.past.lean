theorem cons4 {α : Type} {a b c d a1 b1 c1 d1 : α} (h1 : a = a1) (h2 : b = b1) (h3 : c = c1) (h4 : d = d1) : [a, b, c, d] = [a1, b1, c1, d1] := by rw [h1, h2, h3, h4]
theorem GE.ao {Γ : GQ} (h : GE Γ) : match Γ with | (p, l, e, R, s, m, args, below, meth, c, Q, D, A, H0, nL) => va_AO RX0 s := by
  obtain ⟨p, l, e, R, s, m, args, below, meth, c, Q, D, A, H0, nL⟩ := Γ
  exact h.2.1
def ringN (n : Nat) : List Nat := (List.range n).map (76 + ·)
theorem K_mem {D : va_G} {t1 t2 : List (ClassId × FieldType)} {U : State} (h : va_K D vwCl t1 U) (hm : ∀ q ∈ t2, q ∈ t1) : va_K D vwCl t2 U := ⟨h.1, fun k q hk => by
  obtain ⟨i, hi⟩ := List.getElem?_of_mem (hm q (List.mem_of_getElem? hk))
  exact h.2 i q hi⟩
theorem kd_ring : ∀ k, k < 160 → kd (76 + k) = if k % 4 = 0 then 0 else 20 := by decide +kernel
theorem al_ring : ∀ k, k < 160 → k % 4 ≠ 0 → al (76 + k) = 7 := by decide +kernel
theorem s0_air {i : Nat} (h : kd i = 0) : s0I i = s0I 60 := by
  funext k
  have h2 : kd 60 = 0 := by decide
  unfold s0I
  rw [h, h2]
  rfl
theorem s0_arr {i : Nat} (h : kd i = 20) (h1 : 56 ≤ i) (h2 : i < 236) : s0I i = fun _ => 0 := by
  funext k
  unfold s0I
  rw [h]
  show (if i = 41 ∨ i = 54 then _ else if i = 42 ∨ i = 55 then _ else if i = 252 then _ else if i = 266 ∨ i = 267 then _ else (0 : Int32)) = 0
  rw [if_neg (by omega), if_neg (by omega), if_neg (by omega), if_neg (by omega)]
/-- the ring's addresses and array classes with one Air more -/
def rgU (j : Nat) (u u2 : UU) : UU := (fun i => if i < 76 + 4 * j then u.1 i else u2.1 (60 + (i - (76 + 4 * j))), fun i => if i < 76 + 4 * j then u.2 i else u2.2 (60 + (i - (76 + 4 * j))))
theorem ringN_step (j : Nat) : ringN (4 * (j + 1)) = ringN (4 * j) ++ [76 + 4 * j, 76 + 4 * j + 1, 76 + 4 * j + 2, 76 + 4 * j + 3] := by
  unfold ringN
  rw [show 4 * (j + 1) = 4 * j + 1 + 1 + 1 + 1 by omega, List.range_succ, List.range_succ, List.range_succ, List.range_succ]
  simp [List.map_append, Nat.add_assoc]
theorem rg_cell {u v : UU} {i : Nat} (hk : kd i = 0 ∨ kd i = 20) (h0 : v.1 i = u.1 i) (h1 : kd i = 0 → v.1 (i + 1) = u.1 (i + 1) ∧ v.1 (i + 2) = u.1 (i + 2) ∧ v.1 (i + 3) = u.1 (i + 3)) (h2 : v.2 i = u.2 i) : (v.1 i, ceK v.1 v.2 (kd i) i (s0.1 i) (s0.2.1 i) s0.2.2) = (u.1 i, ceK u.1 u.2 (kd i) i (s0.1 i) (s0.2.1 i) s0.2.2) := by
  rcases hk with h | h
  · obtain ⟨a, b, c⟩ := h1 h
    rw [h, h0]
    show (_, (.inr (0, [_, .ref (v.1 (i + 1)), .ref (v.1 (i + 2)), .ref (v.1 (i + 3)), _, _, _, _, _, _, _, _]) : va_E)) = _
    rw [a, b, c]
    try rfl
  · rw [h, h0]
    show (_, (.inl (v.2 i, _, _) : va_E)) = _
    rw [h2]
    try rfl
theorem rg_new {v u2 : UU} {i b : Nat} (hb : b < 4) (hi1 : 76 ≤ i) (hi2 : i + 3 < 236 ∨ kd i = 20 ∧ i < 236) (hk : kd i = kd (60 + b)) (ha : kd i = 20 → al i = 7) (h0 : v.1 i = u2.1 (60 + b)) (h1 : b = 0 → v.1 (i + 1) = u2.1 61 ∧ v.1 (i + 2) = u2.1 62 ∧ v.1 (i + 3) = u2.1 63) (h2 : v.2 i = u2.2 (60 + b)) : (v.1 i, ceK v.1 v.2 (kd i) i (s0.1 i) (s0.2.1 i) s0.2.2) = (u2.1 (60 + b), ceK u2.1 u2.2 (kd (60 + b)) (60 + b) (s0.1 (60 + b)) (s0.2.1 (60 + b)) s0.2.2) := by
  have hl : ∀ q, q < 236 → s0.2.1 q = fun _ => 0 := fun q hq => by
    funext k
    show (if q = 243 then _ else (0 : Int64)) = 0
    rw [if_neg (by omega)]
  have hi3 : i < 236 := by omega
  rw [h0, hl i hi3, hl (60 + b) (by omega)]
  have hc : b = 0 ∨ b = 1 ∨ b = 2 ∨ b = 3 := by omega
  have key : ∀ q : Nat, 60 < q → q < 64 → kd i = 20 → v.2 i = u2.2 q → kd q = 20 → ceK v.1 v.2 (kd i) i (s0.1 i) (fun _ => 0) s0.2.2 = ceK u2.1 u2.2 (kd q) q (s0.1 q) (fun _ => 0) s0.2.2 := by
    intro q q1 q2 hki hv hkq
    have e1 : s0.1 i = fun _ => 0 := s0_arr hki (by omega) hi3
    have e2 : s0.1 q = fun _ => 0 := s0_arr hkq (by omega) (by omega)
    have e3 : al q = 7 := by
      rcases (show q = 61 ∨ q = 62 ∨ q = 63 by omega) with rfl | rfl | rfl <;> decide
    rw [hki, hkq, e1, e2]
    show (.inl (v.2 i, al i, _) : va_E) = .inl (u2.2 q, al q, _)
    rw [hv, ha hki, e3]
    try rfl
  rcases hc with rfl | rfl | rfl | rfl
  · obtain ⟨a, b, c⟩ := h1 rfl
    have hk0 : kd i = 0 := by rw [hk]; decide
    have e1 : s0.1 i = s0.1 60 := s0_air hk0
    rw [hk0, e1]
    show (_, (.inr (0, [_, .ref (v.1 (i + 1)), .ref (v.1 (i + 2)), .ref (v.1 (i + 3)), _, _, _, _, _, _, _, _]) : va_E)) = _
    rw [a, b, c]
    try rfl
  · rw [key 61 (by omega) (by omega) (by rw [hk]; decide) h2 (by decide)]
  · rw [key 62 (by omega) (by omega) (by rw [hk]; decide) h2 (by decide)]
  · rw [key 63 (by omega) (by omega) (by rw [hk]; decide) h2 (by decide)]
theorem ring_step {j : Nat} (hj : j < 40) (u u2 : UU) : mw (ringN (4 * j)) u.1 u.2 s0 ++ mw [60, 61, 62, 63] u2.1 u2.2 s0 = mw (ringN (4 * (j + 1))) (rgU j u u2).1 (rgU j u u2).2 s0 := by
  have lo1 : ∀ i, i < 76 + 4 * j → (rgU j u u2).1 i = u.1 i := fun i h => if_pos h
  have lo2 : ∀ i, i < 76 + 4 * j → (rgU j u u2).2 i = u.2 i := fun i h => if_pos h
  have hi1 : ∀ b, (rgU j u u2).1 (76 + 4 * j + b) = u2.1 (60 + b) := fun b => (if_neg (by omega)).trans (congrArg u2.1 (by omega))
  have hi2 : ∀ b, (rgU j u u2).2 (76 + 4 * j + b) = u2.2 (60 + b) := fun b => (if_neg (by omega)).trans (congrArg u2.2 (by omega))
  have hkd : ∀ b, b < 4 → kd (76 + 4 * j + b) = kd (60 + b) := fun b hb => by
    rw [show 76 + 4 * j + b = 76 + (4 * j + b) by omega, kd_ring _ (by omega)]
    rcases (show b = 0 ∨ b = 1 ∨ b = 2 ∨ b = 3 by omega) with rfl | rfl | rfl | rfl
    · rw [if_pos (by omega)]; decide
    · rw [if_neg (by omega)]; decide
    · rw [if_neg (by omega)]; decide
    · rw [if_neg (by omega)]; decide
  have hal : ∀ b, b < 4 → kd (76 + 4 * j + b) = 20 → al (76 + 4 * j + b) = 7 := fun b hb h => by
    rw [show 76 + 4 * j + b = 76 + (4 * j + b) by omega] at h ⊢
    refine al_ring _ (by omega) (fun e => ?_)
    rw [kd_ring _ (by omega), if_pos e] at h
    cases h
  rw [ringN_step]
  unfold mw
  rw [List.map_append]
  congr 1
  · unfold ringN
    rw [List.map_map, List.map_map]
    apply List.map_congr_left
    intro k hk
    have hk := List.mem_range.mp hk
    have hkk := kd_ring k (by omega)
    refine (rg_cell (u := u) (v := rgU j u u2) (i := 76 + k) ?_ (lo1 _ (by omega)) (fun h => ?_) (lo2 _ (by omega))).symm
    · rw [hkk]
      split
      · exact Or.inl rfl
      · exact Or.inr rfl
    · rw [hkk] at h
      have : k % 4 = 0 := by
        by_cases e : k % 4 = 0
        · exact e
        · rw [if_neg e] at h; cases h
      exact ⟨lo1 _ (by omega), lo1 _ (by omega), lo1 _ (by omega)⟩
  · have q := fun (b : Nat) (hb : b < 4) => rg_new (v := rgU j u u2) (u2 := u2) (i := 76 + 4 * j + b) (b := b) hb (by omega) (by
      by_cases e : b = 0
      · subst e; exact Or.inl (by omega)
      · refine Or.inr ⟨?_, by omega⟩
        rw [hkd b hb]
        rcases (show b = 1 ∨ b = 2 ∨ b = 3 by omega) with rfl | rfl | rfl <;> decide) (hkd b hb) (hal b hb) (hi1 b) (fun e => by subst e; exact ⟨hi1 1, hi1 2, hi1 3⟩) (hi2 b)
    exact cons4 (q 0 (by decide)).symm (q 1 (by decide)).symm (q 2 (by decide)).symm (q 3 (by decide)).symm
theorem dX5_init_0 : decode cX5_init 0 = .ok (.aload_n 0, 1) := by decide +kernel
theorem dX5_init_1 : decode cX5_init 1 = .ok (.invokespecial 3, 3) := by decide +kernel
theorem dX5_init_4 : decode cX5_init 4 = .ok (.aload_n 0, 1) := by decide +kernel
theorem dX5_init_5 : decode cX5_init 5 = .ok (.bipush 40, 2) := by decide +kernel
theorem dX5_init_7 : decode cX5_init 7 = .ok (.anewarray 9, 3) := by decide +kernel
theorem dX5_init_10 : decode cX5_init 10 = .ok (.putfield 11, 3) := by decide +kernel
theorem dX5_init_13 : decode cX5_init 13 = .ok (.iconst 0, 1) := by decide +kernel
theorem dX5_init_14 : decode cX5_init 14 = .ok (.istore_n 1, 1) := by decide +kernel
theorem dX5_init_15 : decode cX5_init 15 = .ok (.iload_n 1, 1) := by decide +kernel
theorem dX5_init_16 : decode cX5_init 16 = .ok (.bipush 40, 2) := by decide +kernel
theorem dX5_init_18 : decode cX5_init 18 = .ok (.if_icmp .ge 22, 3) := by decide +kernel
theorem dX5_init_21 : decode cX5_init 21 = .ok (.aload_n 0, 1) := by decide +kernel
theorem dX5_init_22 : decode cX5_init 22 = .ok (.getfield 11, 3) := by decide +kernel
theorem dX5_init_25 : decode cX5_init 25 = .ok (.iload_n 1, 1) := by decide +kernel
theorem dX5_init_26 : decode cX5_init 26 = .ok (.new 9, 3) := by decide +kernel
theorem dX5_init_29 : decode cX5_init 29 = .ok (.dup, 1) := by decide +kernel
theorem dX5_init_30 : decode cX5_init 30 = .ok (.invokespecial 17, 3) := by decide +kernel
theorem dX5_init_33 : decode cX5_init 33 = .ok (.aastore, 1) := by decide +kernel
theorem dX5_init_34 : decode cX5_init 34 = .ok (.iinc 1 1, 3) := by decide +kernel
theorem dX5_init_37 : decode cX5_init 37 = .ok (.goto (-22), 3) := by decide +kernel
theorem dX5_init_40 : decode cX5_init 40 = .ok (.return_, 1) := by decide +kernel
theorem ring_in {j : Nat} {u u2 : UU} {q : Nat} (hj : j < 40) (hq : u2.1 60 = q) : va_up (fun i => if i < j then some (u.1 (76 + 4 * i)) else none) j (some q) = fun i => if i < j + 1 then some ((rgU j u u2).1 (76 + 4 * i)) else none := by
  funext i
  unfold va_up
  by_cases e : i = j
  · subst e
    rw [if_pos rfl, if_pos (by omega)]
    show some q = some (if 76 + 4 * i < 76 + 4 * i then _ else u2.1 (60 + (76 + 4 * i - (76 + 4 * i))))
    rw [if_neg (by omega), Nat.sub_self, ← hq]
  · rw [if_neg e]
    show (if i < j then some (u.1 (76 + 4 * i)) else none) = _
    by_cases h : i < j
    · rw [if_pos h, if_pos (by omega)]
      show _ = some (if 76 + 4 * i < 76 + 4 * j then _ else _)
      rw [if_pos (by omega)]
    · rw [if_neg h, if_neg (by omega)]
theorem ring_end {a q1 : Nat} {c1 : ClassId} {u : UU} : mw (12 :: 13 :: ringN 160) (fun i => if i = 12 then a else if i = 13 then q1 else u.1 i) (fun i => if i = 13 then c1 else u.2 i) s0 = (a, .inr (4, [.ref q1, .int 0, .int 0])) :: (q1, .inl (c1, 40, .inr (.inr (.inr (.inr (fun i => if i < 40 then some (u.1 (76 + 4 * i)) else none)))))) :: mw (ringN (4 * 40)) u.1 u.2 s0 := by
  have e1 : ∀ k, (fun i => if i = 12 then a else if i = 13 then q1 else u.1 i) (76 + k) = u.1 (76 + k) := fun k => by
    show (if 76 + k = 12 then _ else if 76 + k = 13 then _ else _) = _
    rw [if_neg (by omega), if_neg (by omega)]
  have e2 : (fun i => if i < 40 then some ((fun i => if i = 12 then a else if i = 13 then q1 else u.1 i) (76 + 4 * i)) else none) = fun i => if i < 40 then some (u.1 (76 + 4 * i)) else none := by
    funext i
    rw [e1]
  have e3 : mw (ringN 160) (fun i => if i = 12 then a else if i = 13 then q1 else u.1 i) (fun i => if i = 13 then c1 else u.2 i) s0 = mw (ringN 160) u.1 u.2 s0 := by
    unfold mw ringN
    rw [List.map_map, List.map_map]
    apply List.map_congr_left
    intro k hk
    have hk := List.mem_range.mp hk
    have hkk := kd_ring k (by omega)
    refine rg_cell (u := u) (v := (fun i => if i = 12 then a else if i = 13 then q1 else u.1 i, fun i => if i = 13 then c1 else u.2 i)) (i := 76 + k) ?_ (e1 k) (fun _ => ⟨e1 (k + 1), e1 (k + 2), e1 (k + 3)⟩) (if_neg (by omega))
    rw [hkk]
    split
    · exact Or.inl rfl
    · exact Or.inr rfl
  rw [← e3, ← e2]
  rfl
set_option maxHeartbeats 4000000 in
set_option maxRecDepth 100000 in
theorem n_4 {l : Launch} {D : va_G} {a : Nat} : KN (S := UU) l D yX5_init cX5_init 2 2 32 161 1360 [.ref a] [(a, .inr (4, [.null, .int 0, .int 0]))] [] (fun u => mw (12 :: 13 :: ringN 160) u.1 u.2 s0) (fun u => tcl (13 :: (ringN 160).filter (fun i => decide (12 ≤ kd i))) u) (fun u => u.1 12 = a) := by
  refine KN.of (by decide) (Nat.le_of_ble_eq_true rfl) 1 (fun Γ C hin hG Rt => ?_)
  have hin := hin rfl
  show GW Γ 0 [some (.ref a), none] [] [(a, .inr (4, [.null, .int 0, .int 0]))] [] 0 0
  refine g_aload_n C dX5_init_0 (i := 0) rfl rfl ?_
  refine g_objInit C oi_4 oi_w.1 oi_w.2 (by decide) (Nat.le_of_ble_eq_true rfl) dX5_init_1 ?_
  refine g_aload_n C dX5_init_4 (i := 0) rfl rfl ?_
  refine g_bipush C dX5_init_5 (v := 40) rfl ?_
  refine g_newq C (Cn := RX0) 40 (gw1 137 (by decide +kernel) rfl) hG.ao (by decide) rfl (by decide) (by omega) (by omega) dX5_init_7 (fun q1 c1 => ?_)
  refine g_eq (ws1 := [(a, .inr (4, [.null, .int 0, .int 0])), (q1, .inl (c1, 40, .inr (.inr (.inr (.inr (fun _ => none))))))]) (ts1 := ([] ++ [(c1, .object RX0)])) (kc1 := 1) (ks1 := 40) rfl rfl rfl rfl ?_
  refine g_put C hin (q0 := 0) fw_4_11 rfl rfl rfl (Nat.le_of_ble_eq_true rfl) dX5_init_10 (ws1 := [(a, .inr (4, [.ref q1, .int 0, .int 0])), (q1, .inl (c1, 40, .inr (.inr (.inr (.inr (fun _ => none))))))]) rfl ?_
  refine g_iconst C dX5_init_13 (v := 0) rfl ?_
  refine g_istore_n C dX5_init_14 (i := 1) rfl (by decide) rfl (vs1 := [some (.ref a), some (.int 0)]) rfl ?_
  have loop : ∀ (d j : Nat) (u : UU) (tt : List (ClassId × FieldType)), j + d = 40 → tt[0]? = some (c1, .object RX0) → (∀ i, i < 4 * j → 12 ≤ kd (76 + i) → (u.2 (76 + i), aty (kd (76 + i))) ∈ tt) → GW Γ 15 [some (.ref a), some (.int (nI j))] [] ((a, .inr (4, [.ref q1, .int 0, .int 0])) :: (q1, .inl (c1, 40, .inr (.inr (.inr (.inr (fun i => if i < j then some (u.1 (76 + 4 * i)) else none)))))) :: mw (ringN (4 * j)) u.1 u.2 s0) tt (1 + 4 * j) (40 + 33 * j) := by
    intro d
    induction d with
    | zero =>
      intro j u tt hj ht hT
      obtain rfl : j = 40 := by omega
      refine g_iload_n C dX5_init_15 (i := 1) rfl rfl ?_
      refine g_bipush C dX5_init_16 (v := 40) rfl ?_
      refine g_ic_ge C dX5_init_18 (tgt := 40) rfl (fun _ => ?_) (fun h => absurd (by decide) h)
      refine g_by (ws1 := mw (12 :: 13 :: ringN 160) (fun i => if i = 12 then a else if i = 13 then q1 else u.1 i) (fun i => if i = 13 then c1 else u.2 i) s0) (ts1 := tcl (13 :: (ringN 160).filter (fun i => decide (12 ≤ kd i))) (fun i => if i = 12 then a else if i = 13 then q1 else u.1 i, fun i => if i = 13 then c1 else u.2 i)) ?_ ?_ ?_ ?_
      · intro D H h; rw [ring_end]; exact h
      · intro A h; rw [ring_end]; exact h
      · intro D s h
        refine K_mem h (fun q hq => ?_)
        rcases List.mem_cons.mp hq with rfl | hq
        · exact List.mem_of_getElem? ht
        · obtain ⟨i, hi, rfl⟩ := List.mem_map.mp hq
          obtain ⟨hi, hk⟩ := List.mem_filter.mp hi
          obtain ⟨k, hk2, rfl⟩ := List.mem_map.mp hi
          have := hT k (by have := List.mem_range.mp hk2; omega) (by simpa using hk)
          have e9 : (if 76 + k = 13 then c1 else u.2 (76 + k)) = u.2 (76 + k) := if_neg (by omega)
          show ((if 76 + k = 13 then c1 else u.2 (76 + k)), _) ∈ tt
          rw [e9]
          exact this
      · exact g_vret Rt (fun i => if i = 12 then a else if i = 13 then q1 else u.1 i, fun i => if i = 13 then c1 else u.2 i) dX5_init_40 (by omega) (by omega) rfl rfl rfl
    | succ d ih =>
      intro j u tt hj ht hT
      refine g_iload_n C dX5_init_15 (i := 1) rfl rfl ?_
      refine g_bipush C dX5_init_16 (v := 40) rfl ?_
      refine g_ic_ge C dX5_init_18 (tgt := 40) rfl (fun h => absurd h (nI_ge (a := j) (b := 40) (by omega) (by omega))) (fun _ => ?_)
      refine g_aload_n C dX5_init_21 (i := 0) rfl rfl ?_
      refine g_get C fl_RX5_11 (q0 := 0) (v := .ref q1) rfl rfl dX5_init_22 ?_
      refine g_iload_n C dX5_init_25 (i := 1) rfl rfl ?_
      refine g_new C nc_4_9 (by omega) (by omega) dX5_init_26 (fun q2 => ?_)
      refine g_dup C dX5_init_29 rfl ?_
      refine g_initN C hG (X := ((a, .inr (4, [.ref q1, .int 0, .int 0])) :: (q1, .inl (c1, 40, .inr (.inr (.inr (.inr (fun i => if i < j then some (u.1 (76 + 4 * i)) else none)))))) :: mw (ringN (4 * j)) u.1 u.2 s0)) n_0 mn_0 (host := "StateJuggler") (by decide +kernel) rfl (Nat.le_of_ble_eq_true rfl) (Nat.le_of_ble_eq_true rfl) (by omega) (by omega) (Nat.le_of_ble_eq_true rfl) dX5_init_30 (fun u2 hu2 => ?_)
      subst hu2
      have hmem : (u2.1 60, (.inr (0, fsK u2.1 0 60 (s0.1 60) s0.2.2) : va_E)) ∈ ((a, (.inr (4, [.ref q1, .int 0, .int 0]) : va_E)) :: (q1, .inl (c1, 40, .inr (.inr (.inr (.inr (fun i => if i < j then some (u.1 (76 + 4 * i)) else none)))))) :: mw (ringN (4 * j)) u.1 u.2 s0) ++ mw [60, 61, 62, 63] u2.1 u2.2 s0 := List.mem_append.mpr (Or.inr (List.mem_of_getElem? (i := 0) rfl))
      obtain ⟨qk, hqk⟩ := List.getElem?_of_mem hmem
      refine g_astq C (q0 := 1) (t0 := 0) (qk := qk) (ci := 0) (r := (RX0, TX0, 12)) j rfl (by rw [List.getElem?_append_left (List.getElem?_eq_some_iff.mp ht).1]; exact ht) hqk rfl (nI_pos (by omega)) (nI_clamp (by omega)) (by omega) dX5_init_33 (ws1 := (a, .inr (4, [.ref q1, .int 0, .int 0])) :: (q1, .inl (c1, 40, .inr (.inr (.inr (.inr (fun i => if i < j + 1 then some ((rgU j u u2).1 (76 + 4 * i)) else none)))))) :: mw (ringN (4 * (j + 1))) (rgU j u u2).1 (rgU j u u2).2 s0) (by rw [← ring_step (by omega) u u2, ← ring_in (by omega) rfl]; rfl) ?_
      refine g_iinc C dX5_init_34 rfl (v := nI (j + 1)) (nI_1 j) (by decide) rfl (vs1 := [some (.ref a), some (.int (nI (j + 1)))]) rfl ?_
      refine g_goto C dX5_init_37 (tgt := 15) rfl ?_
      refine g_eq (ts1 := tt ++ tcl [61, 62, 63] u2) (kc1 := 1 + 4 * (j + 1)) (ks1 := 40 + 33 * (j + 1)) rfl rfl (by omega) (by omega) ?_
      refine ih (j + 1) (rgU j u u2) (tt ++ tcl [61, 62, 63] u2) (by omega) (by rw [List.getElem?_append_left (List.getElem?_eq_some_iff.mp ht).1]; exact ht) (fun i hi hk => ?_)
      by_cases h : i < 4 * j
      · refine List.mem_append.mpr (Or.inl ?_)
        rw [show (rgU j u u2).2 (76 + i) = u.2 (76 + i) from if_pos (by omega)]
        exact hT i h hk
      · refine List.mem_append.mpr (Or.inr ?_)
        have hk2 := kd_ring i (by omega)
        have hm : i % 4 ≠ 0 := fun e => by
          rw [hk2, if_pos e] at hk
          omega
        rw [hk2, if_neg hm, show (rgU j u u2).2 (76 + i) = u2.2 (60 + (76 + i - (76 + 4 * j))) from if_neg (by omega)]
        rcases (show i = 4 * j + 1 ∨ i = 4 * j + 2 ∨ i = 4 * j + 3 by omega) with rfl | rfl | rfl
        · rw [show 60 + (76 + (4 * j + 1) - (76 + 4 * j)) = 61 by omega]; exact List.mem_of_getElem? (i := 0) rfl
        · rw [show 60 + (76 + (4 * j + 2) - (76 + 4 * j)) = 62 by omega]; exact List.mem_of_getElem? (i := 1) rfl
        · rw [show 60 + (76 + (4 * j + 3) - (76 + 4 * j)) = 63 by omega]; exact List.mem_of_getElem? (i := 2) rfl
  exact loop 40 0 (fun _ => 0, fun _ => c1) _ rfl rfl (fun i h => absurd h (by omega))

