/-! both pieces together -/
def idA : List Nat := idJ ++ idM
theorem idA_in : ∀ i, i < 277 → i ∈ idA := fun i hi => by
  by_cases h : i < 236
  · exact List.mem_append.mpr (Or.inl (idJ_in i h))
  · exact List.mem_append.mpr (Or.inr (idM_in i ⟨by omega, hi⟩))
theorem cl_M : cl idM := cl_of (by decide +kernel)
theorem cl_J : cl (25 :: J17) := cl_of (by decide +kernel)
theorem dj_A : dj idM idJ = true := by decide +kernel
theorem a_world {u v : UU} : mw idJ u.1 u.2 s0 ++ mw idM v.1 v.2 s0 = mw idA (gl idM v u).1 (gl idM v u).2 s0 := by
  have hd := dj_use dj_A
  have h1 : mw idM (gl idM v u).1 (gl idM v u).2 s0 = mw idM v.1 v.2 s0 := mw_cong (u := v) (v := gl idM v u) cl_M (fun i hi => gl_l hi) (fun i hi => gl_l2 hi)
  have h2 : mw (25 :: J17) (gl idM v u).1 (gl idM v u).2 s0 = mw (25 :: J17) u.1 u.2 s0 := mw_cong (u := u) (v := gl idM v u) cl_J (fun i hi => gl_r (hd i (List.mem_cons_of_mem _ hi))) (fun i hi => gl_r2 (hd i (List.mem_cons_of_mem _ hi)))
  have e : ∀ i, i < 236 → (gl idM v u).1 i = u.1 i := fun i hi => gl_r (hd i (idJ_in i hi))
  rw [show idA = idJ ++ idM from rfl, mw_app, h1]
  congr 1
  show (_, ceK _ _ (kd 0) 0 _ _ _) :: mw (25 :: J17) u.1 u.2 s0 = (_, ceK _ _ (kd 0) 0 _ _ _) :: mw (25 :: J17) (gl idM v u).1 (gl idM v u).2 s0
  rw [h2, kd_0, ceK_ob (by decide), ceK_ob (by decide), e 0 (by decide)]
  show _ :: _ = (_, (.inr (10, [.ref ((gl idM v u).1 1), .ref ((gl idM v u).1 8), .ref ((gl idM v u).1 12), .ref ((gl idM v u).1 14), .ref ((gl idM v u).1 17), .ref ((gl idM v u).1 22), .ref ((gl idM v u).1 56), .ref ((gl idM v u).1 60), .ref ((gl idM v u).1 25), .ref ((gl idM v u).1 26), .ref ((gl idM v u).1 27), .ref ((gl idM v u).1 28), .ref ((gl idM v u).1 29), .ref ((gl idM v u).1 30), .ref ((gl idM v u).1 43)]) : va_E)) :: _
  rw [e 1 (by decide), e 8 (by decide), e 12 (by decide), e 14 (by decide), e 17 (by decide), e 22 (by decide), e 56 (by decide), e 60 (by decide), e 25 (by decide), e 26 (by decide), e 27 (by decide), e 28 (by decide), e 29 (by decide), e 30 (by decide), e 43 (by decide)]
  rfl
theorem a_types {u v : UU} : ∀ q ∈ tys idA (gl idM v u).2, q ∈ tys idJ u.2 ++ tys idM v.2 := by
  have hd := dj_use dj_A
  intro q hq
  obtain ⟨i, hi, rfl⟩ := List.mem_map.mp hq
  obtain ⟨hi, hk⟩ := List.mem_filter.mp hi
  rcases List.mem_append.mp hi with h | h
  · rw [gl_r2 (hd i h)]
    exact List.mem_append.mpr (Or.inl (List.mem_map.mpr ⟨i, List.mem_filter.mpr ⟨h, hk⟩, rfl⟩))
  · rw [gl_l2 h]
    exact List.mem_append.mpr (Or.inr (List.mem_map.mpr ⟨i, List.mem_filter.mpr ⟨h, hk⟩, rfl⟩))
theorem nst_0 : Cond.methodLinkNest "StateJuggler" 9 ⟨"StateJuggler$Reader", "<init>", "()V"⟩ "StateJuggler" ∈ lw_tbl := List.mem_of_getElem? (i := 128) (by decide +kernel)
theorem nst_1 : Cond.methodLinkNest "StateJuggler$Reader" 11 ⟨"StateJuggler$Tape", "<init>", "()V"⟩ "StateJuggler" ∈ lw_tbl := List.mem_of_getElem? (i := 134) (by decide +kernel)
theorem nst_2 : Cond.methodLinkNest "StateJuggler" 18 ⟨"StateJuggler$Juggler", "<init>", "()V"⟩ "StateJuggler" ∈ lw_tbl := List.mem_of_getElem? (i := 198) (by decide +kernel)
theorem nst_3 : Cond.methodLinkNest "StateJuggler$Juggler" 11 ⟨"StateJuggler$Asked", "<init>", "()V"⟩ "StateJuggler" ∈ lw_tbl := List.mem_of_getElem? (i := 204) (by decide +kernel)
theorem nst_4 : Cond.methodLinkNest "StateJuggler$Past" 17 ⟨"StateJuggler$Air", "<init>", "()V"⟩ "StateJuggler" ∈ lw_tbl := List.mem_of_getElem? (i := 235) (by decide +kernel)
theorem nst_5 : Cond.methodLinkNest "StateJuggler" 32 ⟨"StateJuggler$Hearsay", "<init>", "()V"⟩ "StateJuggler" ∈ lw_tbl := List.mem_of_getElem? (i := 309) (by decide +kernel)
theorem nst_6 : Cond.methodLinkNest "StateJuggler" 39 ⟨"StateJuggler$Route", "<init>", "()V"⟩ "StateJuggler" ∈ lw_tbl := List.mem_of_getElem? (i := 327) (by decide +kernel)
theorem nst_7 : Cond.methodLinkNest "StateJuggler" 46 ⟨"StateJuggler$Rows", "<init>", "()V"⟩ "StateJuggler" ∈ lw_tbl := List.mem_of_getElem? (i := 354) (by decide +kernel)
theorem nst_8 : Cond.methodLinkNest "StateJuggler" 53 ⟨"StateJuggler$Air", "<init>", "()V"⟩ "StateJuggler" ∈ lw_tbl := List.mem_of_getElem? (i := 377) (by decide +kernel)
theorem nst_9 : Cond.methodLinkNest "StateJuggler$Heights" 15 ⟨"StateJuggler", "isHeight", "(I)Z"⟩ "StateJuggler" ∈ lw_tbl := List.mem_of_getElem? (i := 965) (by decide +kernel)
theorem nest_in : ∀ q ∈ nestL, Cond.methodLinkNest q.1 q.2.1 q.2.2.1 q.2.2.2 ∈ lw_tbl := List.forall_mem_cons.mpr ⟨nst_0, List.forall_mem_cons.mpr ⟨nst_1, List.forall_mem_cons.mpr ⟨nst_2, List.forall_mem_cons.mpr ⟨nst_3, List.forall_mem_cons.mpr ⟨nst_4, List.forall_mem_cons.mpr ⟨nst_5, List.forall_mem_cons.mpr ⟨nst_6, List.forall_mem_cons.mpr ⟨nst_7, List.forall_mem_cons.mpr ⟨nst_8, List.forall_mem_cons.mpr ⟨nst_9, fun _ h => absurd h List.not_mem_nil⟩⟩⟩⟩⟩⟩⟩⟩⟩⟩
theorem start_E {s : State} {b : Nat} (hts : ∀ w ∈ lw_tbl, w.before #[Value.ref b] s = true) (hgv : (Jvm.Cond.and given_1 narrow_1).before #[Value.ref b] s = true) : EG s := by
  exact ⟨fun q hq => va_Nw.of rfl (hts _ (nest_in q hq)), va_AO.of (hts (.arrayOver (.object RX0)) (List.mem_of_getElem? (i := 233) (by decide +kernel))), (hts (.arrayOver (.array .int)) (List.mem_of_getElem? (i := 385) (by decide +kernel)))⟩
theorem start_K {s : State} {b : Nat} (hts : ∀ w ∈ lw_tbl, w.before #[Value.ref b] s = true) : ∃ D : va_G, va_K D vwCl [] s := by
  obtain ⟨c0, i0, h0⟩ := u_known (C := RX0) (T := TX0) (N := 12) (n := 12) hts (fun w h => gw_lw (uw_0 w h)) (hts (.instantiable RX0 12) (gw_lw (gw1 139 (by decide +kernel) rfl)))
  obtain ⟨c1, i1, h1⟩ := u_known (C := RX1) (T := TX1) (N := 4) (n := 4) hts (fun w h => gw_lw (uw_1 w h)) (hts (.instantiable RX1 4) (gw_lw (gw1 108 (by decide +kernel) rfl)))
  obtain ⟨c2, i2, h2⟩ := u_known (C := RX2) (T := TX2) (N := 3) (n := 3) hts (fun w h => gw_lw (uw_2 w h)) (hts (.instantiable RX2 3) (gw_lw (gw1 213 (by decide +kernel) rfl)))
  obtain ⟨c3, i3, h3⟩ := u_known (C := RX4) (T := TX4) (N := 1) (n := 1) hts (fun w h => gw_lw (uw_3 w h)) (hts (.instantiable RX4 1) (gw_lw (gw1 102 (by decide +kernel) rfl)))
  obtain ⟨c4, i4, h4⟩ := u_known (C := RX5) (T := TX5) (N := 3) (n := 3) hts (fun w h => gw_lw (uw_4 w h)) (hts (.instantiable RX5 3) (gw_lw (gw1 132 (by decide +kernel) rfl)))
  obtain ⟨c5, i5, h5⟩ := u_known (C := RX6) (T := TX6) (N := 10) (n := 10) hts (fun w h => gw_lw (uw_5 w h)) (hts (.instantiable RX6 10) (gw_lw (gw1 32 (by decide +kernel) rfl)))
  obtain ⟨c6, i6, h6⟩ := u_known (C := RX7) (T := TX7) (N := 6) (n := 6) hts (fun w h => gw_lw (uw_6 w h)) (hts (.instantiable RX7 6) (gw_lw (gw1 231 (by decide +kernel) rfl)))
  obtain ⟨c7, i7, h7⟩ := u_known (C := RX8) (T := TX8) (N := 5) (n := 5) hts (fun w h => gw_lw (uw_7 w h)) (hts (.instantiable RX8 5) (gw_lw (gw2 18 (by decide +kernel) rfl)))
  obtain ⟨c8, i8, h8⟩ := u_known (C := RX9) (T := TX9) (N := 6) (n := 6) hts (fun w h => gw_lw (uw_8 w h)) (hts (.instantiable RX9 6) (gw_lw (gw1 38 (by decide +kernel) rfl)))
  obtain ⟨c9, i9, h9⟩ := u_known (C := RX10) (T := TX10) (N := 12) (n := 12) hts (fun w h => gw_lw (uw_9 w h)) (hts (.instantiable RX10 12) (gw_lw (gw2 44 (by decide +kernel) rfl)))
  obtain ⟨c10, i10, h10⟩ := u_known (C := RX11) (T := TX11) (N := 15) (n := 15) hts (fun w h => gw_lw (uw_10 w h)) (hts (.instantiable RX11 15) (gw_lw (gw1 24 (by decide +kernel) rfl)))
  obtain ⟨c11, i11, h11⟩ := u_known (C := RX12) (T := TX12) (N := 66) (n := 66) hts (fun w h => gw_lw (uw_11 w h)) (hts (.instantiable RX12 66) (gw_lw (gw5 76 (by decide +kernel) rfl)))
  refine ⟨(fun k => [c0, c1, c2, c3, c4, c5, c6, c7, c8, c9, c10, c11].getD k c0, fun k => [i0, i1, i2, i3, i4, i5, i6, i7, i8, i9, i10, i11].getD k i0), ?_, fun k q h => by simp at h⟩
  intro k q hq
  match k, hq with
  | 0, hq => cases hq; exact h0
  | 1, hq => cases hq; exact h1
  | 2, hq => cases hq; exact h2
  | 3, hq => cases hq; exact h3
  | 4, hq => cases hq; exact h4
  | 5, hq => cases hq; exact h5
  | 6, hq => cases hq; exact h6
  | 7, hq => cases hq; exact h7
  | 8, hq => cases hq; exact h8
  | 9, hq => cases hq; exact h9
  | 10, hq => cases hq; exact h10
  | 11, hq => cases hq; exact h11
  | k + 12, hq => simp [vwCl] at hq

