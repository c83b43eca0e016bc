/-! pieces of the world, each closed under its references, put together -/
def refsK (n i : Nat) : List Nat := match n with
  | 0 => [i + 1, i + 2, i + 3]
  | 1 => [10, 11]
  | 2 => [15, 16]
  | 3 => [9]
  | 4 => [13]
  | 5 => [2, 7]
  | 6 => [18, 19, 20, 21]
  | 7 => [23, 24]
  | 8 => [3, 4, 5, 6]
  | 9 => [i + 1, i + 2, i + 3, i + 4, i + 10, i + 11, i + 12]
  | 11 => [237, 238, 239, 240, 241, 242, 243, 244, 245, 246, 247, 248, 249, 250, 251, 252, 253, 254, 255, 256, 257, 258, 259, 260, 261, 262, 263, 264, 265, 266, 267, 268, 269, 270, 271, 272, 273, 274, 275, 276]
  | 24 => (List.range 40).map (fun j => 76 + 4 * j)
  | 25 => [64, 68, 72]
  | 26 => [i + 1, i + 2, i + 3, i + 4, i + 5]
  | _ => []
theorem fsK_cong {u v : Nat → Nat} {n i : Nat} (hr : ∀ r ∈ refsK n i, v r = u r) (h10 : n ≠ 10) (g : Nat → Int32) (tx : Nat → Nat) : fsK v n i g tx = fsK u n i g tx := by
  match n with
  | 0 => simp only [refsK, List.forall_mem_cons] at hr; simp only [fsK, hr]
  | 1 => simp only [refsK, List.forall_mem_cons] at hr; simp only [fsK, hr]
  | 2 => simp only [refsK, List.forall_mem_cons] at hr; simp only [fsK, hr]
  | 3 => simp only [refsK, List.forall_mem_cons] at hr; simp only [fsK, hr]
  | 4 => simp only [refsK, List.forall_mem_cons] at hr; simp only [fsK, hr]
  | 5 => simp only [refsK, List.forall_mem_cons] at hr; simp only [fsK, hr]
  | 6 => simp only [refsK, List.forall_mem_cons] at hr; simp only [fsK, hr]
  | 7 => simp only [refsK, List.forall_mem_cons] at hr; simp only [fsK, hr]
  | 8 => simp only [refsK, List.forall_mem_cons] at hr; simp only [fsK, hr]
  | 9 => simp only [refsK, List.forall_mem_cons] at hr; simp only [fsK, hr]
  | 10 => exact absurd rfl h10
  | 11 => simp only [refsK, List.forall_mem_cons] at hr; simp only [fsK, hr]
  | n + 12 => rfl
theorem rfK_cong {u v : Nat → Nat} {n i : Nat} (hn : n = 24 ∨ n = 25 ∨ n = 26) (hr : ∀ r ∈ refsK n i, v r = u r) : rfK v n i = rfK u n i := by
  funext j
  rcases hn with rfl | rfl | rfl
  · show (if j < 40 then some (v (76 + 4 * j)) else none) = if j < 40 then some (u (76 + 4 * j)) else none
    by_cases h : j < 40
    · rw [if_pos h, if_pos h, hr _ (List.mem_map.mpr ⟨j, List.mem_range.mpr h, rfl⟩)]
    · rw [if_neg h, if_neg h]
  · show (if j < 3 then some (v (64 + 4 * j)) else none) = if j < 3 then some (u (64 + 4 * j)) else none
    by_cases h : j < 3
    · rw [if_pos h, if_pos h, hr (64 + 4 * j) (by
        rcases (show j = 0 ∨ j = 1 ∨ j = 2 by omega) with rfl | rfl | rfl <;> simp [refsK])]
    · rw [if_neg h, if_neg h]
  · show (if j < 5 then some (v (i + 1 + j)) else none) = if j < 5 then some (u (i + 1 + j)) else none
    by_cases h : j < 5
    · rw [if_pos h, if_pos h, hr (i + 1 + j) (by
        rcases (show j = 0 ∨ j = 1 ∨ j = 2 ∨ j = 3 ∨ j = 4 by omega) with rfl | rfl | rfl | rfl | rfl <;> simp [refsK, Nat.add_assoc])]
    · rw [if_neg h, if_neg h]
theorem kd_le : ∀ i, kd i < 12 ∨ (20 ≤ kd i ∧ kd i ≤ 23) ∨ kd i = 24 ∨ kd i = 25 ∨ kd i = 26 ∨ kd i = 99 := by
  have h : ∀ x ∈ kdL, x < 12 ∨ (20 ≤ x ∧ x ≤ 23) ∨ x = 24 ∨ x = 25 ∨ x = 26 ∨ x = 99 := by decide +kernel
  intro i
  unfold kd List.getD
  cases hx : kdL[i]? with
  | none => right; right; right; right; right; rfl
  | some x => exact h x (List.mem_of_getElem? hx)
theorem ceK_cong {u v : UU} {i : Nat} (hi : kd i ≠ 99) (h10 : kd i ≠ 10) (hr : ∀ r ∈ refsK (kd i) i, v.1 r = u.1 r) (hc : v.2 i = u.2 i) (g : Nat → Int32) (gl : Nat → Int64) (tx : Nat → Nat) : ceK v.1 v.2 (kd i) i g gl tx = ceK u.1 u.2 (kd i) i g gl tx := by
  rcases kd_le i with h | h | h
  · rw [ceK_ob h, ceK_ob h, fsK_cong hr h10]
  · rw [ceK_arr h.1 h.2, ceK_arr h.1 h.2, hc]
  · have hn : kd i = 24 ∨ kd i = 25 ∨ kd i = 26 := by
      rcases h with h | h | h | h
      · exact Or.inl h
      · exact Or.inr (Or.inl h)
      · exact Or.inr (Or.inr h)
      · exact absurd h hi
    have hx : ∀ w : UU, ceK w.1 w.2 (kd i) i g gl tx = .inl (w.2 i, al i, .inr (.inr (.inr (.inr (rfK w.1 (kd i) i))))) := fun w => by
      unfold ceK
      rw [if_neg (by omega), if_neg (by omega), if_neg (by omega)]
    rw [hx, hx, rfK_cong hn hr, hc]
/-- a piece: no StateJuggler in it, every reference of it leads into it -/
def cl (L : List Nat) : Prop := ∀ i ∈ L, kd i ≠ 99 ∧ kd i ≠ 10 ∧ ∀ r ∈ refsK (kd i) i, r ∈ L
def clB (L : List Nat) : Bool := L.all (fun i => !(kd i == 99) && !(kd i == 10) && (refsK (kd i) i).all (fun r => L.contains r))
theorem cl_of {L : List Nat} (h : clB L = true) : cl L := fun i hi => by
  have := List.all_eq_true.mp h i hi
  simp only [Bool.and_eq_true, Bool.not_eq_true', beq_eq_false_iff_ne, List.all_eq_true, List.contains_iff_mem] at this
  exact ⟨this.1.1, this.1.2, this.2⟩
theorem cl_app {L1 L2 : List Nat} (h1 : cl L1) (h2 : cl L2) : cl (L1 ++ L2) := fun i hi => by
  rcases List.mem_append.mp hi with h | h
  · exact ⟨(h1 i h).1, (h1 i h).2.1, fun r hr => List.mem_append.mpr (Or.inl ((h1 i h).2.2 r hr))⟩
  · exact ⟨(h2 i h).1, (h2 i h).2.1, fun r hr => List.mem_append.mpr (Or.inr ((h2 i h).2.2 r hr))⟩
theorem mw_cong {L : List Nat} {u v : UU} {σ : HS} (hc : cl L) (h1 : ∀ i ∈ L, v.1 i = u.1 i) (h2 : ∀ i ∈ L, v.2 i = u.2 i) : mw L v.1 v.2 σ = mw L u.1 u.2 σ := by
  unfold mw
  apply List.map_congr_left
  intro i hi
  obtain ⟨a, b, c⟩ := hc i hi
  rw [ceK_cong (u := u) (v := v) a b (fun r hr => h1 r (c r hr)) (h2 i hi), h1 i hi]
def gl (L : List Nat) (u v : UU) : UU := (fun i => if i ∈ L then u.1 i else v.1 i, fun i => if i ∈ L then u.2 i else v.2 i)
theorem gl_l {L : List Nat} {u v : UU} {i : Nat} (h : i ∈ L) : (gl L u v).1 i = u.1 i := if_pos h
theorem gl_r {L : List Nat} {u v : UU} {i : Nat} (h : i ∉ L) : (gl L u v).1 i = v.1 i := if_neg h
theorem gl_l2 {L : List Nat} {u v : UU} {i : Nat} (h : i ∈ L) : (gl L u v).2 i = u.2 i := if_pos h
theorem gl_r2 {L : List Nat} {u v : UU} {i : Nat} (h : i ∉ L) : (gl L u v).2 i = v.2 i := if_neg h
def dj (L1 L2 : List Nat) : Bool := L2.all (fun i => !L1.contains i)
theorem dj_use {L1 L2 : List Nat} (h : dj L1 L2 = true) : ∀ i ∈ L2, i ∉ L1 := fun i hi e => by
  have := List.all_eq_true.mp h i hi
  simp [e] at this
theorem mw_app {L1 L2 : List Nat} {ad : Nat → Nat} {ca : Nat → ClassId} {σ : HS} : mw (L1 ++ L2) ad ca σ = mw L1 ad ca σ ++ mw L2 ad ca σ := List.map_append ..
theorem glue {L1 L2 : List Nat} {u v : UU} {σ : HS} (c1 : cl L1) (c2 : cl L2) (hd : dj L1 L2 = true) : mw L1 u.1 u.2 σ ++ mw L2 v.1 v.2 σ = mw (L1 ++ L2) (gl L1 u v).1 (gl L1 u v).2 σ := by
  have hd := dj_use hd
  rw [mw_app, mw_cong (u := u) (v := gl L1 u v) c1 (fun i hi => gl_l hi) (fun i hi => gl_l2 hi), mw_cong (u := v) (v := gl L1 u v) c2 (fun i hi => gl_r (hd i hi)) (fun i hi => gl_r2 (hd i hi))]
/-- the array classes of a piece stand in T -/
def tyIn (L : List Nat) (u : UU) (T : List (ClassId × FieldType)) : Prop := ∀ i ∈ L, 12 ≤ kd i → (u.2 i, aty (kd i)) ∈ T
theorem tyIn.glue {L1 L2 : List Nat} {u v : UU} {T1 T2 : List (ClassId × FieldType)} (h1 : tyIn L1 u T1) (h2 : tyIn L2 v T2) (hd : dj L1 L2 = true) : tyIn (L1 ++ L2) (gl L1 u v) (T1 ++ T2) := fun i hi hk => by
  have hd := dj_use hd
  rcases List.mem_append.mp hi with h | h
  · rw [gl_l2 h]; exact List.mem_append.mpr (Or.inl (h1 i h hk))
  · rw [gl_r2 (hd i h)]; exact List.mem_append.mpr (Or.inr (h2 i h hk))
theorem tyIn.tcl {L A : List Nat} {u : UU} (h : (L.all (fun i => !(Nat.ble 12 (kd i)) || A.contains i)) = true) : tyIn L u (tcl A u) := fun i hi hk => by
  have := List.all_eq_true.mp h i hi
  simp only [Bool.or_eq_true, Bool.not_eq_true', List.contains_iff_mem] at this
  rcases this with h | h
  · rw [Nat.ble_eq_true_of_le hk] at h; cases h
  · exact List.mem_map.mpr ⟨i, h, rfl⟩
theorem tyIn.tys {L : List Nat} {u : UU} : tyIn L u (tys L u.2) := fun i hi hk => List.mem_map.mpr ⟨i, List.mem_filter.mpr ⟨hi, by simp [hk]⟩, rfl⟩
theorem tyIn.one {i : Nat} {q : Nat} {c : ClassId} {ty : FieldType} (h : aty (kd i) = ty) : tyIn [i] (fun _ => q, fun _ => c) [(c, ty)] := fun j hj hk => by
  simp only [List.mem_cons, List.not_mem_nil, or_false] at hj
  subst hj
  rw [h]
  simp
/-- an array alone is a piece -/
theorem one_arr {i n : Nat} {q : Nat} {c : ClassId} (h1 : 20 ≤ kd i) (h2 : kd i ≤ 22) (hn : al i = n) (h0 : s0.1 i = fun _ => 0) : [(q, (.inl (c, n, .inl (fun _ => 0)) : va_E))] = mw [i] (fun _ => q) (fun _ => c) s0 := by
  show _ = [(q, ceK (fun _ => q) (fun _ => c) (kd i) i (s0.1 i) (s0.2.1 i) s0.2.2)]
  rw [ceK_arr h1 (by omega), hn, h0, if_neg (by omega)]
theorem s0_L {i : Nat} (h : i < 236) : s0.2.1 i = fun _ => 0 := by
  funext k
  show (if i = 243 then _ else (0 : Int64)) = 0
  rw [if_neg (by omega)]
/-- an Air, told by other numbers -/
def shA (b : Nat) (u : UU) : UU := (fun i => u.1 (60 + (i - b)), fun i => u.2 (60 + (i - b)))
theorem air_sh {b : Nat} (u : UU) (h0 : kd b = 0) (h1 : kd (b + 1) = 20 ∧ al (b + 1) = 7) (h2 : kd (b + 2) = 20 ∧ al (b + 2) = 7) (h3 : kd (b + 3) = 20 ∧ al (b + 3) = 7) (hb : 56 ≤ b) (hc : b + 3 < 236) : mw [60, 61, 62, 63] u.1 u.2 s0 = mw [b, b + 1, b + 2, b + 3] (shA b u).1 (shA b u).2 s0 := by
  have e : ∀ d, (shA b u).1 (b + d) = u.1 (60 + d) := fun d => congrArg u.1 (by omega)
  have e2 : ∀ d, (shA b u).2 (b + d) = u.2 (60 + d) := fun d => congrArg u.2 (by omega)
  have key : ∀ d, 1 ≤ d → d ≤ 3 → kd (b + d) = 20 → al (b + d) = 7 → kd (60 + d) = 20 → al (60 + d) = 7 → (u.1 (60 + d), ceK u.1 u.2 (kd (60 + d)) (60 + d) (s0.1 (60 + d)) (s0.2.1 (60 + d)) s0.2.2) = ((shA b u).1 (b + d), ceK (shA b u).1 (shA b u).2 (kd (b + d)) (b + d) (s0.1 (b + d)) (s0.2.1 (b + d)) s0.2.2) := by
    intro d d1 d2 k1 a1 k2 a2
    have z1 : s0.1 (b + d) = fun _ => 0 := s0_arr k1 (by omega) (by omega)
    have z2 : s0.1 (60 + d) = fun _ => 0 := s0_arr k2 (by omega) (by omega)
    rw [k1, k2, ceK_arr (by decide) (by decide), ceK_arr (by decide) (by decide), a1, a2, e, e2, z1, z2]
    try rfl
  refine cons4 ?_ (key 1 (by omega) (by omega) h1.1 h1.2 (by decide) (by decide)) (key 2 (by omega) (by omega) h2.1 h2.2 (by decide) (by decide)) (key 3 (by omega) (by omega) h3.1 h3.2 (by decide) (by decide))
  have hz : s0.1 b = s0.1 60 := s0_air h0
  have k0 : kd 60 = 0 := by decide
  show (u.1 60, ceK u.1 u.2 (kd 60) 60 (s0.1 60) (s0.2.1 60) s0.2.2) = ((shA b u).1 b, ceK (shA b u).1 (shA b u).2 (kd b) b (s0.1 b) (s0.2.1 b) s0.2.2)
  rw [h0, k0, ceK_ob (by decide), ceK_ob (by decide), hz]
  show (u.1 60, (.inr (0, [_, .ref (u.1 61), .ref (u.1 62), .ref (u.1 63), _, _, _, _, _, _, _, _]) : va_E)) = ((shA b u).1 (b + 0), (.inr (0, [_, .ref ((shA b u).1 (b + 1)), .ref ((shA b u).1 (b + 2)), .ref ((shA b u).1 (b + 3)), _, _, _, _, _, _, _, _]) : va_E))
  rw [e, e, e, e]
theorem air_shT {b : Nat} {u : UU} {T : List (ClassId × FieldType)} (h : tyIn [60, 61, 62, 63] u T) (h0 : kd b = 0) (h1 : kd (b + 1) = 20) (h2 : kd (b + 2) = 20) (h3 : kd (b + 3) = 20) : tyIn [b, b + 1, b + 2, b + 3] (shA b u) T := by
  have e2 : ∀ d, (shA b u).2 (b + d) = u.2 (60 + d) := fun d => congrArg u.2 (by omega)
  intro i hi hk
  simp only [List.mem_cons, List.not_mem_nil, or_false] at hi
  rcases hi with rfl | rfl | rfl | rfl
  · omega
  · rw [e2, h1]; exact h 61 (by decide) (by decide)
  · rw [e2, h2]; exact h 62 (by decide) (by decide)
  · rw [e2, h3]; exact h 63 (by decide) (by decide)
/-- a Text, told by other numbers -/
def shT (u : UU) : UU := (fun i => u.1 (i - 13), fun i => u.2 (i - 13))
theorem text_sh (u : UU) : mw [30, 31, 32, 33, 34, 35, 36, 37, 38, 39, 40, 41, 42] u.1 u.2 s0 = mw [43, 44, 45, 46, 47, 48, 49, 50, 51, 52, 53, 54, 55] (shT u).1 (shT u).2 s0 := by
  have z : ∀ d, d < 13 → kd (30 + d) = kd (43 + d) ∧ al (30 + d) = al (43 + d) := by decide +kernel
  have zs : ∀ d, d < 13 → s0.1 (30 + d) = s0.1 (43 + d) := by
    intro d hd
    funext k
    show s0I (30 + d) k = s0I (43 + d) k
    rcases (show d = 0 ∨ d = 1 ∨ d = 2 ∨ d = 3 ∨ d = 4 ∨ d = 5 ∨ d = 6 ∨ d = 7 ∨ d = 8 ∨ d = 9 ∨ d = 10 ∨ d = 11 ∨ d = 12 by omega) with rfl | rfl | rfl | rfl | rfl | rfl | rfl | rfl | rfl | rfl | rfl | rfl | rfl <;> rfl
  have key : ∀ d, d < 13 → (u.1 (30 + d), ceK u.1 u.2 (kd (30 + d)) (30 + d) (s0.1 (30 + d)) (s0.2.1 (30 + d)) s0.2.2) = ((shT u).1 (43 + d), ceK (shT u).1 (shT u).2 (kd (43 + d)) (43 + d) (s0.1 (43 + d)) (s0.2.1 (43 + d)) s0.2.2) := by
    intro d hd
    rw [(z d hd).1, zs d hd, s0_L (by omega), s0_L (by omega)]
    have ea : ∀ d, (shT u).1 (43 + d) = u.1 (30 + d) := fun d => congrArg u.1 (by omega)
    have ec : ∀ d, (shT u).2 (43 + d) = u.2 (30 + d) := fun d => congrArg u.2 (by omega)
    rw [ea]
    congr 1
    rcases kd_le (43 + d) with h | h | h
    · rw [ceK_ob h, ceK_ob h]
      have : d = 0 := by
        revert h
        revert d
        decide +kernel
      subst this
      rfl
    · rw [ceK_arr h.1 h.2, ceK_arr h.1 h.2, (z d hd).2, ec]
    · have : d = 4 := by
        revert h
        revert d
        decide +kernel
      subst this
      show (.inl (u.2 34, al 34, .inr (.inr (.inr (.inr (rfK u.1 26 34))))) : va_E) = .inl ((shT u).2 47, al 47, .inr (.inr (.inr (.inr (rfK (shT u).1 26 47)))))
      have hr : rfK u.1 26 34 = rfK (shT u).1 26 47 := by
        funext j
        show (if j < 5 then some (u.1 (34 + 1 + j)) else none) = if j < 5 then some (u.1 (47 + 1 + j - 13)) else none
        rw [show 47 + 1 + j - 13 = 34 + 1 + j by omega]
      rw [hr]
      rfl
  show [_, _, _, _, _, _, _, _, _, _, _, _, _] = [_, _, _, _, _, _, _, _, _, _, _, _, _]
  refine congr (congrArg List.cons (key 0 (by omega))) (congr (congrArg List.cons (key 1 (by omega))) (congr (congrArg List.cons (key 2 (by omega))) (congr (congrArg List.cons (key 3 (by omega))) (congr (congrArg List.cons (key 4 (by omega))) (congr (congrArg List.cons (key 5 (by omega))) (congr (congrArg List.cons (key 6 (by omega))) (congr (congrArg List.cons (key 7 (by omega))) (congr (congrArg List.cons (key 8 (by omega))) (congr (congrArg List.cons (key 9 (by omega))) (congr (congrArg List.cons (key 10 (by omega))) (congr (congrArg List.cons (key 11 (by omega))) (congr (congrArg List.cons (key 12 (by omega))) rfl))))))))))))
theorem text_shT {u : UU} {T : List (ClassId × FieldType)} (h : tyIn [30, 31, 32, 33, 34, 35, 36, 37, 38, 39, 40, 41, 42] u T) : tyIn [43, 44, 45, 46, 47, 48, 49, 50, 51, 52, 53, 54, 55] (shT u) T := by
  intro i hi hk
  have hi2 : 43 ≤ i ∧ i < 56 := by simp at hi; omega
  obtain ⟨d, rfl⟩ : ∃ d, i = 43 + d := ⟨i - 43, by omega⟩
  have hd : d < 13 := by omega
  have z : ∀ d, d < 13 → kd (30 + d) = kd (43 + d) ∧ (30 + d) ∈ [30, 31, 32, 33, 34, 35, 36, 37, 38, 39, 40, 41, 42] := by decide +kernel
  have := h (30 + d) (z d hd).2 (by rw [(z d hd).1]; exact hk)
  rw [(z d hd).1] at this
  have ec : (shT u).2 (43 + d) = u.2 (30 + d) := congrArg u.2 (by omega)
  rw [ec]
  exact this

