theorem bF_236_13 {σ : HS} (h : GIm σ) : 0 ≤ (σ.1 236 13).toInt ∧ (σ.1 236 13).toInt ≤ 2 := h.1 (236, 13, 0, 2) (by decide)
theorem bF_236_11 {σ : HS} (h : GIm σ) : 0 ≤ (σ.1 236 11).toInt ∧ (σ.1 236 11).toInt ≤ 400 := h.1 (236, 11, 0, 400) (by decide)
theorem bA_239 {σ : HS} (h : GIm σ) (j : Nat) : 0 ≤ (σ.1 239 j).toInt ∧ (σ.1 239 j).toInt ≤ 39 := h.2 (239, 0, 39) (by decide) j
theorem wF_236_13 {σ : HS} {v : Int32} (h : GIm σ) (h1 : 0 ≤ v.toInt) (h2 : v.toInt ≤ 2) : GIm (hI σ 236 13 v) := GIm.I h (hFm_of (L := [(236, 13, 0, 2)]) (by decide) (fun q hq => by simp only [List.mem_cons, List.not_mem_nil, or_false] at hq; subst hq; exact ⟨h1, h2⟩)) (hAm_of (L := []) (by decide) (fun _ h => absurd h List.not_mem_nil))
theorem wF_236_14 {σ : HS} {v : Int32} (h : GIm σ) : GIm (hI σ 236 14 v) := GIm.I h (hFm_of (L := []) (by decide) (fun _ h => absurd h List.not_mem_nil)) (hAm_of (L := []) (by decide) (fun _ h => absurd h List.not_mem_nil))
theorem wF_236_11 {σ : HS} {v : Int32} (h : GIm σ) (h1 : 0 ≤ v.toInt) (h2 : v.toInt ≤ 400) : GIm (hI σ 236 11 v) := GIm.I h (hFm_of (L := [(236, 11, 0, 400)]) (by decide) (fun q hq => by simp only [List.mem_cons, List.not_mem_nil, or_false] at hq; subst hq; exact ⟨h1, h2⟩)) (hAm_of (L := []) (by decide) (fun _ h => absurd h List.not_mem_nil))
theorem wF_236_15 {σ : HS} {v : Int32} (h : GIm σ) : GIm (hI σ 236 15 v) := GIm.I h (hFm_of (L := []) (by decide) (fun _ h => absurd h List.not_mem_nil)) (hAm_of (L := []) (by decide) (fun _ h => absurd h List.not_mem_nil))
theorem wF_236_16 {σ : HS} {v : Int32} (h : GIm σ) : GIm (hI σ 236 16 v) := GIm.I h (hFm_of (L := []) (by decide) (fun _ h => absurd h List.not_mem_nil)) (hAm_of (L := []) (by decide) (fun _ h => absurd h List.not_mem_nil))
theorem bA_241 {σ : HS} (h : GIm σ) (j : Nat) : 0 ≤ (σ.1 241 j).toInt ∧ (σ.1 241 j).toInt ≤ 9999 := h.2 (241, 0, 9999) (by decide) j
theorem bF_236_20 {σ : HS} (h : GIm σ) : 0 ≤ (σ.1 236 20).toInt ∧ (σ.1 236 20).toInt ≤ 12 := h.1 (236, 20, 0, 12) (by decide)
theorem nof_239 : ∀ q ∈ bdFm, ¬ q.1 = 239 := by decide
theorem wA_239 {σ : HS} {v : Int32} {j : Nat} (h : GIm σ) (h1 : 0 ≤ v.toInt) (h2 : v.toInt ≤ 39) : GIm (hI σ 239 j v) := GIm.I h (fun q hq e1 _ => absurd e1 (nof_239 q hq)) (hAm_of (L := [(239, 0, 39)]) (by decide) (fun q hq => by simp only [List.mem_cons, List.not_mem_nil, or_false] at hq; subst hq; exact ⟨h1, h2⟩))
theorem nof_240 : ∀ q ∈ bdFm, ¬ q.1 = 240 := by decide
theorem wA_240 {σ : HS} {v : Int32} {j : Nat} (h : GIm σ) : GIm (hI σ 240 j v) := GIm.I h (fun q hq e1 _ => absurd e1 (nof_240 q hq)) (hAm_of (L := []) (by decide) (fun _ h => absurd h List.not_mem_nil))
theorem nof_241 : ∀ q ∈ bdFm, ¬ q.1 = 241 := by decide
theorem wA_241 {σ : HS} {v : Int32} {j : Nat} (h : GIm σ) (h1 : 0 ≤ v.toInt) (h2 : v.toInt ≤ 9999) : GIm (hI σ 241 j v) := GIm.I h (fun q hq e1 _ => absurd e1 (nof_241 q hq)) (hAm_of (L := [(241, 0, 9999)]) (by decide) (fun q hq => by simp only [List.mem_cons, List.not_mem_nil, or_false] at hq; subst hq; exact ⟨h1, h2⟩))
theorem wF_236_10 {σ : HS} {v : Int32} (h : GIm σ) (h1 : 0 ≤ v.toInt) (h2 : v.toInt ≤ 402) : GIm (hI σ 236 10 v) := GIm.I h (hFm_of (L := [(236, 10, 0, 402)]) (by decide) (fun q hq => by simp only [List.mem_cons, List.not_mem_nil, or_false] at hq; subst hq; exact ⟨h1, h2⟩)) (hAm_of (L := []) (by decide) (fun _ h => absurd h List.not_mem_nil))
theorem bF_236_10 {σ : HS} (h : GIm σ) : 0 ≤ (σ.1 236 10).toInt ∧ (σ.1 236 10).toInt ≤ 402 := h.1 (236, 10, 0, 402) (by decide)
theorem dX12_is_24 : decode cX12_is 24 = .ok (.iconst 0, 1) := by decide +kernel
set_option maxHeartbeats 4000000 in
set_option maxRecDepth 100000 in
theorem S_X12_is_236 {l : Launch} {D : va_G} {ids : List Nat} {ad : Nat → Nat} {ca : Nat → ClassId} {σ : HS} {x1 : Int32} (hid : ∀ i, i < 277 → i ∈ ids) (hG : GIm σ) : Ki l D ids ad ca yX12_is cX12_is 2 .boolean 0 0 [.ref (ad 236), .int x1] σ (fun r σ1 => (σ1 = σ) ∧ (0 ≤ r.toInt ∧ r.toInt ≤ 1) ∧ (r.toInt = 1 → (σ.1 236 13).toInt = 0) ∧ (r.toInt = 1 → (σ.1 239 (σ.1 236 11).toInt.toNat).toInt = x1.toInt)) := by
  refine Ki.of (by decide) (Nat.le_of_ble_eq_true rfl) 0 (fun Γ C Rt => ?_)
  show AW ids ad ca Γ 0 [some (.ref (ad 236)), some (.int x1)] [] σ
  refine a_aload_n C dX12_is_0 (i := 0) rfl rfl ?_
  have g1 := bF_236_13 hG
  refine a_get C fl_RX12_191 (i := 236) kd_236 (hid 236 (by decide)) (v := .int (σ.1 236 13)) rfl dX12_is_1 ?_
  refine s_if_ne C dX12_is_4 (tgt := 24) rfl (fun c2 => ?_) (fun c2 => ?_)
  ·
    refine s_iconst C dX12_is_24 (0) (by decide) (fun z3 h4 => ?_)
    exact a_iret Rt dX12_is_25 (nar_z (by omega)).1 (⟨rfl, (show 0 ≤ z3.toInt ∧ z3.toInt ≤ 1 by intros; omega), (show z3.toInt = 1 → (σ.1 236 13).toInt = 0 by intros; omega), (fun h9 => absurd h9 (by omega))⟩)
  ·
    refine a_aload_n C dX12_is_7 (i := 0) rfl rfl ?_
    refine a_get C fl_RX12_20 (i := 236) kd_236 (hid 236 (by decide)) (v := .ref (ad 239)) rfl dX12_is_8 ?_
    refine a_aload_n C dX12_is_11 (i := 0) rfl rfl ?_
    have g5 := bF_236_11 hG
    refine a_get C fl_RX12_194 (i := 236) kd_236 (hid 236 (by decide)) (v := .int (σ.1 236 11)) rfl dX12_is_12 ?_
    refine s_iald C (i := 239) kd_239 (hid 239 (by decide)) al_239 (by omega) (by omega) dX12_is_15 (fun n6 h7 => ?_)
    refine s_val (fun z8 e9 => ?_)
    have g10 := bA_239 hG n6
    rw [e9] at g10
    refine a_iload_n C dX12_is_16 (i := 1) rfl rfl ?_
    refine s_ic_ne C dX12_is_17 (tgt := 24) rfl (fun c11 => ?_) (fun c11 => ?_)
    ·
      refine s_iconst C dX12_is_24 (0) (by decide) (fun z12 h13 => ?_)
      exact a_iret Rt dX12_is_25 (nar_z (by omega)).1 (⟨rfl, (show 0 ≤ z12.toInt ∧ z12.toInt ≤ 1 by intros; omega), (show z12.toInt = 1 → (σ.1 236 13).toInt = 0 by intros; omega), (fun h9 => absurd h9 (by omega))⟩)
    ·
      refine s_iconst C dX12_is_20 (1) (by decide) (fun z14 h15 => ?_)
      refine a_goto C dX12_is_21 (tgt := 25) rfl ?_
      exact a_iret Rt dX12_is_25 (nar_z (by omega)).1 (⟨rfl, (show 0 ≤ z14.toInt ∧ z14.toInt ≤ 1 by intros; omega), (show z14.toInt = 1 → (σ.1 236 13).toInt = 0 by intros; omega), (fun _ => by rw [show (σ.1 236 11).toInt.toNat = n6 by omega, e9]; omega)⟩)
theorem dX12_fail_0 : decode cX12_fail 0 = .ok (.aload_n 0, 1) := by decide +kernel
theorem dX12_fail_1 : decode cX12_fail 1 = .ok (.getfield 191, 3) := by decide +kernel
theorem dX12_fail_4 : decode cX12_fail 4 = .ok (.ifCond .le 4, 3) := by decide +kernel
theorem dX12_fail_7 : decode cX12_fail 7 = .ok (.return_, 1) := by decide +kernel
theorem dX12_fail_8 : decode cX12_fail 8 = .ok (.aload_n 0, 1) := by decide +kernel
theorem dX12_fail_9 : decode cX12_fail 9 = .ok (.iload_n 1, 1) := by decide +kernel
theorem dX12_fail_10 : decode cX12_fail 10 = .ok (.putfield 191, 3) := by decide +kernel
theorem dX12_fail_13 : decode cX12_fail 13 = .ok (.aload_n 0, 1) := by decide +kernel
theorem dX12_fail_14 : decode cX12_fail 14 = .ok (.aload_n 0, 1) := by decide +kernel
theorem dX12_fail_15 : decode cX12_fail 15 = .ok (.getfield 24, 3) := by decide +kernel
theorem dX12_fail_18 : decode cX12_fail 18 = .ok (.aload_n 0, 1) := by decide +kernel
theorem dX12_fail_19 : decode cX12_fail 19 = .ok (.getfield 194, 3) := by decide +kernel
theorem dX12_fail_22 : decode cX12_fail 22 = .ok (.iaload, 1) := by decide +kernel
theorem dX12_fail_23 : decode cX12_fail 23 = .ok (.putfield 197, 3) := by decide +kernel
theorem dX12_fail_26 : decode cX12_fail 26 = .ok (.return_, 1) := by decide +kernel
set_option maxHeartbeats 4000000 in
set_option maxRecDepth 100000 in
theorem S_X12_fail_236 {l : Launch} {D : va_G} {ids : List Nat} {ad : Nat → Nat} {ca : Nat → ClassId} {σ : HS} {x1 : Int32} (hid : ∀ i, i < 277 → i ∈ ids) (hG : GIm σ) (hx1 : 1 ≤ x1.toInt ∧ x1.toInt ≤ 2) : Kv l D ids ad ca yX12_fail cX12_fail 2 0 0 [.ref (ad 236), .int x1] σ (fun σ1 => (GIm σ1) ∧ (onm [1013, 1014] σ σ1) ∧ (1 ≤ (σ1.1 236 13).toInt) ∧ ((σ.1 236 13).toInt ≤ (σ1.1 236 13).toInt)) := by
  refine Kv.of (by decide) (Nat.le_of_ble_eq_true rfl) 0 (fun Γ C Rt => ?_)
  show AW ids ad ca Γ 0 [some (.ref (ad 236)), some (.int x1)] [] σ
  refine a_aload_n C dX12_fail_0 (i := 0) rfl rfl ?_
  have g1 := bF_236_13 hG
  refine a_get C fl_RX12_191 (i := 236) kd_236 (hid 236 (by decide)) (v := .int (σ.1 236 13)) rfl dX12_fail_1 ?_
  refine s_if_le C dX12_fail_4 (tgt := 8) rfl (fun c2 => ?_) (fun c2 => ?_)
  ·
    refine a_aload_n C dX12_fail_8 (i := 0) rfl rfl ?_
    refine a_iload_n C dX12_fail_9 (i := 1) rfl rfl ?_
    refine a_put C fp_RX12_191 (i := 236) kd_236 (hid 236 (by decide)) rfl rfl dX12_fail_10 ?_
    have hG3 := wF_236_13 (v := x1) hG (by omega) (by omega)
    refine a_aload_n C dX12_fail_13 (i := 0) rfl rfl ?_
    refine a_aload_n C dX12_fail_14 (i := 0) rfl rfl ?_
    refine a_get C fl_RX12_24 (i := 236) kd_236 (hid 236 (by decide)) (v := .ref (ad 240)) rfl dX12_fail_15 ?_
    refine a_aload_n C dX12_fail_18 (i := 0) rfl rfl ?_
    have g4 := bF_236_11 hG
    refine a_get C fl_RX12_194 (i := 236) kd_236 (hid 236 (by decide)) (v := .int (σ.1 236 11)) rfl dX12_fail_19 ?_
    refine s_iald C (i := 240) kd_240 (hid 240 (by decide)) al_240 (by omega) (by omega) dX12_fail_22 (fun n5 h6 => ?_)
    refine s_val (fun z7 e8 => ?_)
    refine a_put C fp_RX12_197 (i := 236) kd_236 (hid 236 (by decide)) rfl rfl dX12_fail_23 ?_
    have hG9 := wF_236_14 (v := z7) hG3
    exact a_vret Rt dX12_fail_26 (⟨hG9, (onm.F (onm.F onm.rf (by decide)) (by decide)), (show 1 ≤ x1.toInt by intros; omega), (show (σ.1 236 13).toInt ≤ x1.toInt by intros; omega)⟩)
  ·
    exact a_vret Rt dX12_fail_7 (⟨hG, onm.rf, (show 1 ≤ (σ.1 236 13).toInt by intros; omega), (show (σ.1 236 13).toInt ≤ (σ.1 236 13).toInt by intros; omega)⟩)
theorem dX12_goesOn_0 : decode cX12_goesOn 0 = .ok (.aload_n 0, 1) := by decide +kernel
theorem dX12_goesOn_1 : decode cX12_goesOn 1 = .ok (.getfield 194, 3) := by decide +kernel
theorem dX12_goesOn_4 : decode cX12_goesOn 4 = .ok (.sipush 400, 3) := by decide +kernel
theorem dX12_goesOn_7 : decode cX12_goesOn 7 = .ok (.if_icmp .ne 11, 3) := by decide +kernel
theorem dX12_goesOn_10 : decode cX12_goesOn 10 = .ok (.aload_n 0, 1) := by decide +kernel
theorem dX12_goesOn_11 : decode cX12_goesOn 11 = .ok (.iconst 2, 1) := by decide +kernel
theorem dX12_goesOn_12 : decode cX12_goesOn 12 = .ok (.invokevirtual 206, 3) := by decide +kernel
theorem dX12_goesOn_15 : decode cX12_goesOn 15 = .ok (.goto 13, 3) := by decide +kernel
theorem dX12_goesOn_18 : decode cX12_goesOn 18 = .ok (.aload_n 0, 1) := by decide +kernel
theorem dX12_goesOn_19 : decode cX12_goesOn 19 = .ok (.dup, 1) := by decide +kernel
theorem dX12_goesOn_20 : decode cX12_goesOn 20 = .ok (.getfield 194, 3) := by decide +kernel
theorem dX12_goesOn_23 : decode cX12_goesOn 23 = .ok (.iconst 1, 1) := by decide +kernel
theorem dX12_goesOn_24 : decode cX12_goesOn 24 = .ok (.iadd, 1) := by decide +kernel
theorem dX12_goesOn_25 : decode cX12_goesOn 25 = .ok (.putfield 194, 3) := by decide +kernel
theorem dX12_goesOn_28 : decode cX12_goesOn 28 = .ok (.return_, 1) := by decide +kernel
set_option maxHeartbeats 4000000 in
set_option maxRecDepth 100000 in
theorem S_X12_goesOn_236 {l : Launch} {D : va_G} {ids : List Nat} {ad : Nat → Nat} {ca : Nat → ClassId} {σ : HS} (hid : ∀ i, i < 277 → i ∈ ids) (hG : GIm σ) : Kv l D ids ad ca yX12_goesOn cX12_goesOn 1 1 21 [.ref (ad 236)] σ (fun σ1 => (GIm σ1) ∧ (onm [1011, 1013, 1014] σ σ1) ∧ ((σ.1 236 11).toInt ≤ (σ1.1 236 11).toInt) ∧ ((σ1.1 236 11).toInt ≤ (σ.1 236 11).toInt + 1) ∧ (1 ≤ (σ.1 236 13).toInt → 1 ≤ (σ1.1 236 13).toInt) ∧ ((σ1.1 236 13).toInt = 0 → (σ1.1 236 11).toInt = (σ.1 236 11).toInt + 1)) := by
  refine Kv.of (by decide) (Nat.le_of_ble_eq_true rfl) 0 (fun Γ C Rt => ?_)
  show AW ids ad ca Γ 0 [some (.ref (ad 236))] [] σ
  refine a_aload_n C dX12_goesOn_0 (i := 0) rfl rfl ?_
  have g1 := bF_236_11 hG
  refine a_get C fl_RX12_194 (i := 236) kd_236 (hid 236 (by decide)) (v := .int (σ.1 236 11)) rfl dX12_goesOn_1 ?_
  refine s_sipush C dX12_goesOn_4 (400) (by decide) (fun z2 h3 => ?_)
  refine s_ic_ne C dX12_goesOn_7 (tgt := 18) rfl (fun c4 => ?_) (fun c4 => ?_)
  ·
    refine a_aload_n C dX12_goesOn_18 (i := 0) rfl rfl ?_
    refine a_dup C dX12_goesOn_19 rfl ?_
    refine a_get C fl_RX12_194 (i := 236) kd_236 (hid 236 (by decide)) (v := .int (σ.1 236 11)) rfl dX12_goesOn_20 ?_
    refine s_iconst C dX12_goesOn_23 (1) (by decide) (fun z5 h6 => ?_)
    refine s_iadd C dX12_goesOn_24 (by omega) (fun z7 h8 => ?_)
    refine a_put C fp_RX12_194 (i := 236) kd_236 (hid 236 (by decide)) rfl rfl dX12_goesOn_25 ?_
    have hG9 := wF_236_11 (v := z7) hG (by omega) (by omega)
    have g10 := bF_236_13 hG
    exact a_vret Rt dX12_goesOn_28 (⟨hG9, (onm.F onm.rf (by decide)), (show (σ.1 236 11).toInt ≤ z7.toInt by intros; omega), (show z7.toInt ≤ (σ.1 236 11).toInt + 1 by intros; omega), (show 1 ≤ (σ.1 236 13).toInt → 1 ≤ (σ.1 236 13).toInt by intros; omega), (show (σ.1 236 13).toInt = 0 → z7.toInt = (σ.1 236 11).toInt + 1 by intros; omega)⟩)
  ·
    refine a_aload_n C dX12_goesOn_10 (i := 0) rfl rfl ?_
    refine s_iconst C dX12_goesOn_11 (2) (by decide) (fun z11 h12 => ?_)
    have g16 := bF_236_13 hG
    refine a_callVv C (i := 236) kd_236 (hid 236 (by decide)) ⟨_, _, rfl⟩ (by decide) (S_X12_fail_236 (x1 := z11) hid hG (by omega)) mi_X12_fail ml_RX12_206 rfl rfl (Nat.le_of_ble_eq_true rfl) (Nat.le_of_ble_eq_true rfl) (Nat.le_of_ble_eq_true rfl) dX12_goesOn_12 (fun σ14 q15 => ?_)
    obtain ⟨hG17, ho18, w20, w21⟩ := q15
    refine a_goto C dX12_goesOn_15 (tgt := 28) rfl ?_
    have g22 := bF_236_11 hG17
    have g23 : (σ14.1 236 11).toInt = (σ.1 236 11).toInt := congrArg Int32.toInt (ho18.1 236 11 (by decide))
    have g24 := bF_236_13 hG17
    exact a_vret Rt dX12_goesOn_28 (⟨hG17, (onm.tr onm.rf (onm.mono ho18 (by decide))), (show (σ.1 236 11).toInt ≤ (σ14.1 236 11).toInt by intros; omega), (show (σ14.1 236 11).toInt ≤ (σ.1 236 11).toInt + 1 by intros; omega), (show 1 ≤ (σ.1 236 13).toInt → 1 ≤ (σ14.1 236 13).toInt by intros; omega), (show (σ14.1 236 13).toInt = 0 → (σ14.1 236 11).toInt = (σ.1 236 11).toInt + 1 by intros; omega)⟩)
theorem dX12_must_0 : decode cX12_must 0 = .ok (.aload_n 0, 1) := by decide +kernel
theorem dX12_must_1 : decode cX12_must 1 = .ok (.iload_n 1, 1) := by decide +kernel
theorem dX12_must_2 : decode cX12_must 2 = .ok (.invokevirtual 209, 3) := by decide +kernel
theorem dX12_must_5 : decode cX12_must 5 = .ok (.ifCond .eq 10, 3) := by decide +kernel
theorem dX12_must_8 : decode cX12_must 8 = .ok (.aload_n 0, 1) := by decide +kernel
theorem dX12_must_9 : decode cX12_must 9 = .ok (.invokevirtual 212, 3) := by decide +kernel
theorem dX12_must_12 : decode cX12_must 12 = .ok (.goto 8, 3) := by decide +kernel
theorem dX12_must_15 : decode cX12_must 15 = .ok (.aload_n 0, 1) := by decide +kernel
theorem dX12_must_16 : decode cX12_must 16 = .ok (.iconst 1, 1) := by decide +kernel
theorem dX12_must_17 : decode cX12_must 17 = .ok (.invokevirtual 206, 3) := by decide +kernel
theorem dX12_must_20 : decode cX12_must 20 = .ok (.return_, 1) := by decide +kernel
set_option maxHeartbeats 4000000 in
set_option maxRecDepth 100000 in
theorem S_X12_must_236 {l : Launch} {D : va_G} {ids : List Nat} {ad : Nat → Nat} {ca : Nat → ClassId} {σ : HS} {x1 : Int32} (hid : ∀ i, i < 277 → i ∈ ids) (hG : GIm σ) : Kv l D ids ad ca yX12_must cX12_must 2 2 41 [.ref (ad 236), .int x1] σ (fun σ1 => (GIm σ1) ∧ (onm [1011, 1013, 1014] σ σ1) ∧ ((σ.1 236 11).toInt ≤ (σ1.1 236 11).toInt) ∧ ((σ1.1 236 11).toInt ≤ (σ.1 236 11).toInt + 1) ∧ (1 ≤ (σ.1 236 13).toInt → 1 ≤ (σ1.1 236 13).toInt) ∧ ((σ1.1 236 13).toInt = 0 → (σ1.1 236 11).toInt = (σ.1 236 11).toInt + 1) ∧ ((σ1.1 236 13).toInt = 0 → (σ.1 236 13).toInt = 0)) := by
  refine Kv.of (by decide) (Nat.le_of_ble_eq_true rfl) 0 (fun Γ C Rt => ?_)
  show AW ids ad ca Γ 0 [some (.ref (ad 236)), some (.int x1)] [] σ
  refine a_aload_n C dX12_must_0 (i := 0) rfl rfl ?_
  refine a_iload_n C dX12_must_1 (i := 1) rfl rfl ?_
  have g4 := bF_236_13 hG
  have g5 := bF_236_11 hG
  refine a_callVi C (i := 236) kd_236 (hid 236 (by decide)) ⟨_, _, rfl⟩ (by decide) (S_X12_is_236 (x1 := x1) hid hG) mi_X12_is ml_RX12_209 rfl rfl (Nat.le_of_ble_eq_true rfl) (Nat.le_of_ble_eq_true rfl) (Nat.le_of_ble_eq_true rfl) dX12_must_2 (fun z1 σ2 q3 => ?_)
  obtain ⟨w6, w7, w8, w9⟩ := q3
  rw [w6]
  refine s_if_eq C dX12_must_5 (tgt := 15) rfl (fun c10 => ?_) (fun c10 => ?_)
  ·
    refine a_aload_n C dX12_must_15 (i := 0) rfl rfl ?_
    refine s_iconst C dX12_must_16 (1) (by decide) (fun z11 h12 => ?_)
    refine a_callVv C (i := 236) kd_236 (hid 236 (by decide)) ⟨_, _, rfl⟩ (by decide) (S_X12_fail_236 (x1 := z11) hid hG (by omega)) mi_X12_fail ml_RX12_206 rfl rfl (Nat.le_of_ble_eq_true rfl) (Nat.le_of_ble_eq_true rfl) (Nat.le_of_ble_eq_true rfl) dX12_must_17 (fun σ14 q15 => ?_)
    obtain ⟨hG16, ho17, w19, w20⟩ := q15
    have g21 := bF_236_11 hG16
    have g22 : (σ14.1 236 11).toInt = (σ.1 236 11).toInt := congrArg Int32.toInt (ho17.1 236 11 (by decide))
    have g23 := bF_236_13 hG16
    exact a_vret Rt dX12_must_20 (⟨hG16, (onm.tr onm.rf (onm.mono ho17 (by decide))), (show (σ.1 236 11).toInt ≤ (σ14.1 236 11).toInt by intros; omega), (show (σ14.1 236 11).toInt ≤ (σ.1 236 11).toInt + 1 by intros; omega), (show 1 ≤ (σ.1 236 13).toInt → 1 ≤ (σ14.1 236 13).toInt by intros; omega), (show (σ14.1 236 13).toInt = 0 → (σ14.1 236 11).toInt = (σ.1 236 11).toInt + 1 by intros; omega), (show (σ14.1 236 13).toInt = 0 → (σ.1 236 13).toInt = 0 by intros; omega)⟩)
  ·
    refine a_aload_n C dX12_must_8 (i := 0) rfl rfl ?_
    refine a_callVv C (i := 236) kd_236 (hid 236 (by decide)) ⟨_, _, rfl⟩ (by decide) (S_X12_goesOn_236 hid hG) mi_X12_goesOn ml_RX12_212 rfl rfl (Nat.le_of_ble_eq_true rfl) (Nat.le_of_ble_eq_true rfl) (Nat.le_of_ble_eq_true rfl) dX12_must_9 (fun σ25 q26 => ?_)
    obtain ⟨hG27, ho28, w30, w31, w32, w33⟩ := q26
    refine a_goto C dX12_must_12 (tgt := 20) rfl ?_
    have g34 := bF_236_11 hG27
    have g35 := bF_236_13 hG27
    exact a_vret Rt dX12_must_20 (⟨hG27, (onm.tr onm.rf (onm.mono ho28 (by decide))), (show (σ.1 236 11).toInt ≤ (σ25.1 236 11).toInt by intros; omega), (show (σ25.1 236 11).toInt ≤ (σ.1 236 11).toInt + 1 by intros; omega), (show 1 ≤ (σ.1 236 13).toInt → 1 ≤ (σ25.1 236 13).toInt by intros; omega), (show (σ25.1 236 13).toInt = 0 → (σ25.1 236 11).toInt = (σ.1 236 11).toInt + 1 by intros; omega), (show (σ25.1 236 13).toInt = 0 → (σ.1 236 13).toInt = 0 by intros; omega)⟩)
theorem dX12_wrong_0 : decode cX12_wrong 0 = .ok (.aload_n 0, 1) := by decide +kernel
theorem dX12_wrong_1 : decode cX12_wrong 1 = .ok (.getfield 24, 3) := by decide +kernel
theorem dX12_wrong_4 : decode cX12_wrong 4 = .ok (.iload_n 2, 1) := by decide +kernel
theorem dX12_wrong_5 : decode cX12_wrong 5 = .ok (.iaload, 1) := by decide +kernel
theorem dX12_wrong_6 : decode cX12_wrong 6 = .ok (.istore_n 3, 1) := by decide +kernel
theorem dX12_wrong_7 : decode cX12_wrong 7 = .ok (.aload_n 0, 1) := by decide +kernel
theorem dX12_wrong_8 : decode cX12_wrong 8 = .ok (.getfield 191, 3) := by decide +kernel
theorem dX12_wrong_11 : decode cX12_wrong 11 = .ok (.ifCond .gt 34, 3) := by decide +kernel
theorem dX12_wrong_14 : decode cX12_wrong 14 = .ok (.aload_n 0, 1) := by decide +kernel
theorem dX12_wrong_15 : decode cX12_wrong 15 = .ok (.getfield 200, 3) := by decide +kernel
theorem dX12_wrong_18 : decode cX12_wrong 18 = .ok (.ifCond .eq 28, 3) := by decide +kernel
theorem dX12_wrong_21 : decode cX12_wrong 21 = .ok (.iload_n 3, 1) := by decide +kernel
theorem dX12_wrong_22 : decode cX12_wrong 22 = .ok (.aload_n 0, 1) := by decide +kernel
theorem dX12_wrong_23 : decode cX12_wrong 23 = .ok (.getfield 203, 3) := by decide +kernel
theorem dX12_wrong_26 : decode cX12_wrong 26 = .ok (.if_icmp .gt 19, 3) := by decide +kernel
theorem dX12_wrong_29 : decode cX12_wrong 29 = .ok (.iload_n 3, 1) := by decide +kernel
theorem dX12_wrong_30 : decode cX12_wrong 30 = .ok (.aload_n 0, 1) := by decide +kernel
theorem dX12_wrong_31 : decode cX12_wrong 31 = .ok (.getfield 203, 3) := by decide +kernel
theorem dX12_wrong_34 : decode cX12_wrong 34 = .ok (.if_icmp .ne 12, 3) := by decide +kernel
theorem dX12_wrong_37 : decode cX12_wrong 37 = .ok (.iload_n 1, 1) := by decide +kernel
theorem dX12_wrong_38 : decode cX12_wrong 38 = .ok (.aload_n 0, 1) := by decide +kernel
theorem dX12_wrong_39 : decode cX12_wrong 39 = .ok (.getfield 200, 3) := by decide +kernel
theorem dX12_wrong_42 : decode cX12_wrong 42 = .ok (.if_icmp .lt 4, 3) := by decide +kernel
theorem dX12_wrong_45 : decode cX12_wrong 45 = .ok (.return_, 1) := by decide +kernel
theorem dX12_wrong_46 : decode cX12_wrong 46 = .ok (.aload_n 0, 1) := by decide +kernel
theorem dX12_wrong_47 : decode cX12_wrong 47 = .ok (.iload_n 1, 1) := by decide +kernel
theorem dX12_wrong_48 : decode cX12_wrong 48 = .ok (.putfield 200, 3) := by decide +kernel
theorem dX12_wrong_51 : decode cX12_wrong 51 = .ok (.aload_n 0, 1) := by decide +kernel
theorem dX12_wrong_52 : decode cX12_wrong 52 = .ok (.iload_n 3, 1) := by decide +kernel
theorem dX12_wrong_53 : decode cX12_wrong 53 = .ok (.putfield 203, 3) := by decide +kernel
theorem dX12_wrong_56 : decode cX12_wrong 56 = .ok (.return_, 1) := by decide +kernel
set_option maxHeartbeats 4000000 in
set_option maxRecDepth 100000 in
theorem S_X12_wrong_236 {l : Launch} {D : va_G} {ids : List Nat} {ad : Nat → Nat} {ca : Nat → ClassId} {σ : HS} {x1 : Int32} {x2 : Int32} (hid : ∀ i, i < 277 → i ∈ ids) (hG : GIm σ) (hx2 : 0 ≤ x2.toInt ∧ x2.toInt ≤ 402) : Kv l D ids ad ca yX12_wrong cX12_wrong 4 0 0 [.ref (ad 236), .int x1, .int x2] σ (fun σ1 => (GIm σ1) ∧ (onm [1015, 1016] σ σ1) ∧ ((σ1.1 236 13).toInt = (σ.1 236 13).toInt)) := by
  refine Kv.of (by decide) (Nat.le_of_ble_eq_true rfl) 1 (fun Γ C Rt => ?_)
  show AW ids ad ca Γ 0 [some (.ref (ad 236)), some (.int x1), some (.int x2), none] [] σ
  have j46 : ∀ (σq46 : HS) (y46_3 : Int32), GIm σq46 → onm [1015, 1016] σ σq46 → AW ids ad ca Γ 46 [some (.ref (ad 236)), some (.int x1), none, some (.int y46_3)] [] σq46 := by
    intro σq46 y46_3 hGq46 hoq46
    refine a_aload_n C dX12_wrong_46 (i := 0) rfl rfl ?_
    refine a_iload_n C dX12_wrong_47 (i := 1) rfl rfl ?_
    refine a_put C fp_RX12_200 (i := 236) kd_236 (hid 236 (by decide)) rfl rfl dX12_wrong_48 ?_
    have hG1 := wF_236_15 (v := x1) hGq46
    refine a_aload_n C dX12_wrong_51 (i := 0) rfl rfl ?_
    refine a_iload_n C dX12_wrong_52 (i := 3) rfl rfl ?_
    refine a_put C fp_RX12_203 (i := 236) kd_236 (hid 236 (by decide)) rfl rfl dX12_wrong_53 ?_
    have hG2 := wF_236_16 (v := y46_3) hG1
    have g3 := bF_236_13 hGq46
    have g4 : (σq46.1 236 13).toInt = (σ.1 236 13).toInt := congrArg Int32.toInt (hoq46.1 236 13 (by decide))
    exact a_vret Rt dX12_wrong_56 (⟨hG2, (onm.F (onm.F hoq46 (by decide)) (by decide)), (show (σq46.1 236 13).toInt = (σ.1 236 13).toInt by intros; omega)⟩)
  refine a_aload_n C dX12_wrong_0 (i := 0) rfl rfl ?_
  refine a_get C fl_RX12_24 (i := 236) kd_236 (hid 236 (by decide)) (v := .ref (ad 240)) rfl dX12_wrong_1 ?_
  refine a_iload_n C dX12_wrong_4 (i := 2) rfl rfl ?_
  refine s_iald C (i := 240) kd_240 (hid 240 (by decide)) al_240 (by omega) (by omega) dX12_wrong_5 (fun n5 h6 => ?_)
  refine s_val (fun z7 e8 => ?_)
  refine a_istore_n C dX12_wrong_6 (i := 3) rfl (by decide) rfl (vs1 := [some (.ref (ad 236)), some (.int x1), some (.int x2), some (.int z7)]) rfl ?_
  refine a_aload_n C dX12_wrong_7 (i := 0) rfl rfl ?_
  have g9 := bF_236_13 hG
  refine a_get C fl_RX12_191 (i := 236) kd_236 (hid 236 (by decide)) (v := .int (σ.1 236 13)) rfl dX12_wrong_8 ?_
  refine s_if_gt C dX12_wrong_11 (tgt := 45) rfl (fun c10 => ?_) (fun c10 => ?_)
  ·
    exact a_vret Rt dX12_wrong_45 (⟨hG, onm.rf, (show (σ.1 236 13).toInt = (σ.1 236 13).toInt by intros; omega)⟩)
  ·
    refine a_aload_n C dX12_wrong_14 (i := 0) rfl rfl ?_
    refine a_get C fl_RX12_200 (i := 236) kd_236 (hid 236 (by decide)) (v := .int (σ.1 236 15)) rfl dX12_wrong_15 ?_
    refine s_if_eq C dX12_wrong_18 (tgt := 46) rfl (fun c11 => ?_) (fun c11 => ?_)
    ·
      refine AW.sub (vs' := [some (.ref (ad 236)), some (.int x1), none, some (.int z7)]) (lsub_of (by simp [lsubB])) ?_
      exact j46 _ z7 hG onm.rf
    ·
      refine a_iload_n C dX12_wrong_21 (i := 3) rfl rfl ?_
      refine a_aload_n C dX12_wrong_22 (i := 0) rfl rfl ?_
      refine a_get C fl_RX12_203 (i := 236) kd_236 (hid 236 (by decide)) (v := .int (σ.1 236 16)) rfl dX12_wrong_23 ?_
      refine s_ic_gt C dX12_wrong_26 (tgt := 45) rfl (fun c12 => ?_) (fun c12 => ?_)
      ·
        exact a_vret Rt dX12_wrong_45 (⟨hG, onm.rf, (show (σ.1 236 13).toInt = (σ.1 236 13).toInt by intros; omega)⟩)
      ·
        refine a_iload_n C dX12_wrong_29 (i := 3) rfl rfl ?_
        refine a_aload_n C dX12_wrong_30 (i := 0) rfl rfl ?_
        refine a_get C fl_RX12_203 (i := 236) kd_236 (hid 236 (by decide)) (v := .int (σ.1 236 16)) rfl dX12_wrong_31 ?_
        refine s_ic_ne C dX12_wrong_34 (tgt := 46) rfl (fun c13 => ?_) (fun c13 => ?_)
        ·
          refine AW.sub (vs' := [some (.ref (ad 236)), some (.int x1), none, some (.int z7)]) (lsub_of (by simp [lsubB])) ?_
          exact j46 _ z7 hG onm.rf
        ·
          refine a_iload_n C dX12_wrong_37 (i := 1) rfl rfl ?_
          refine a_aload_n C dX12_wrong_38 (i := 0) rfl rfl ?_
          refine a_get C fl_RX12_200 (i := 236) kd_236 (hid 236 (by decide)) (v := .int (σ.1 236 15)) rfl dX12_wrong_39 ?_
          refine s_ic_lt C dX12_wrong_42 (tgt := 46) rfl (fun c14 => ?_) (fun c14 => ?_)
          ·
            refine AW.sub (vs' := [some (.ref (ad 236)), some (.int x1), none, some (.int z7)]) (lsub_of (by simp [lsubB])) ?_
            exact j46 _ z7 hG onm.rf
          ·
            exact a_vret Rt dX12_wrong_45 (⟨hG, onm.rf, (show (σ.1 236 13).toInt = (σ.1 236 13).toInt by intros; omega)⟩)
theorem dX12_roomFor_0 : decode cX12_roomFor 0 = .ok (.iload_n 1, 1) := by decide +kernel
theorem dX12_roomFor_1 : decode cX12_roomFor 1 = .ok (.iload_n 2, 1) := by decide +kernel
theorem dX12_roomFor_2 : decode cX12_roomFor 2 = .ok (.if_icmp .ne 8, 3) := by decide +kernel
theorem dX12_roomFor_5 : decode cX12_roomFor 5 = .ok (.aload_n 0, 1) := by decide +kernel
theorem dX12_roomFor_6 : decode cX12_roomFor 6 = .ok (.iconst 2, 1) := by decide +kernel
theorem dX12_roomFor_7 : decode cX12_roomFor 7 = .ok (.invokevirtual 206, 3) := by decide +kernel
theorem dX12_roomFor_10 : decode cX12_roomFor 10 = .ok (.aload_n 0, 1) := by decide +kernel
theorem dX12_roomFor_11 : decode cX12_roomFor 11 = .ok (.getfield 191, 3) := by decide +kernel
theorem dX12_roomFor_14 : decode cX12_roomFor 14 = .ok (.ifCond .ne 7, 3) := by decide +kernel
theorem dX12_roomFor_17 : decode cX12_roomFor 17 = .ok (.aload_n 0, 1) := by decide +kernel
theorem dX12_roomFor_18 : decode cX12_roomFor 18 = .ok (.invokevirtual 212, 3) := by decide +kernel
theorem dX12_roomFor_21 : decode cX12_roomFor 21 = .ok (.return_, 1) := by decide +kernel
set_option maxHeartbeats 4000000 in
set_option maxRecDepth 100000 in
theorem S_X12_roomFor_236 {l : Launch} {D : va_G} {ids : List Nat} {ad : Nat → Nat} {ca : Nat → ClassId} {σ : HS} {x1 : Int32} {x2 : Int32} (hid : ∀ i, i < 277 → i ∈ ids) (hG : GIm σ) : Kv l D ids ad ca yX12_roomFor cX12_roomFor 3 2 41 [.ref (ad 236), .int x1, .int x2] σ (fun σ1 => (GIm σ1) ∧ (onm [1011, 1013, 1014] σ σ1) ∧ ((σ.1 236 11).toInt ≤ (σ1.1 236 11).toInt) ∧ ((σ1.1 236 11).toInt ≤ (σ.1 236 11).toInt + 1) ∧ (1 ≤ (σ.1 236 13).toInt → 1 ≤ (σ1.1 236 13).toInt) ∧ ((σ1.1 236 13).toInt = 0 → (σ1.1 236 11).toInt = (σ.1 236 11).toInt + 1 ∧ (σ.1 236 13).toInt = 0) ∧ ((σ1.1 236 13).toInt = 0 → x1.toInt ≠ x2.toInt)) := by
  refine Kv.of (by decide) (Nat.le_of_ble_eq_true rfl) 0 (fun Γ C Rt => ?_)
  show AW ids ad ca Γ 0 [some (.ref (ad 236)), some (.int x1), some (.int x2)] [] σ
  have j10 : ∀ (σq10 : HS), GIm σq10 → onm [1011, 1013, 1014] σ σq10 → ((σq10.1 236 11).toInt = (σ.1 236 11).toInt) → (1 ≤ (σ.1 236 13).toInt → 1 ≤ (σq10.1 236 13).toInt) → ((σq10.1 236 13).toInt = 0 → (σ.1 236 13).toInt = 0) → ((σq10.1 236 13).toInt = 0 → x1.toInt ≠ x2.toInt) → AW ids ad ca Γ 10 [some (.ref (ad 236)), none, none] [] σq10 := by
    intro σq10 hGq10 hoq10 hx10_0 hx10_1 hx10_2 hx10_3
    refine a_aload_n C dX12_roomFor_10 (i := 0) rfl rfl ?_
    have g1 := bF_236_13 hGq10
    refine a_get C fl_RX12_191 (i := 236) kd_236 (hid 236 (by decide)) (v := .int (σq10.1 236 13)) rfl dX12_roomFor_11 ?_
    refine s_if_ne C dX12_roomFor_14 (tgt := 21) rfl (fun c2 => ?_) (fun c2 => ?_)
    ·
      have g3 := bF_236_11 hGq10
      exact a_vret Rt dX12_roomFor_21 (⟨hGq10, hoq10, (show (σ.1 236 11).toInt ≤ (σq10.1 236 11).toInt by intros; omega), (show (σq10.1 236 11).toInt ≤ (σ.1 236 11).toInt + 1 by intros; omega), (show 1 ≤ (σ.1 236 13).toInt → 1 ≤ (σq10.1 236 13).toInt by intros; omega), (show (σq10.1 236 13).toInt = 0 → (σq10.1 236 11).toInt = (σ.1 236 11).toInt + 1 ∧ (σ.1 236 13).toInt = 0 by intros; omega), (show (σq10.1 236 13).toInt = 0 → x1.toInt ≠ x2.toInt by intros; omega)⟩)
    ·
      refine a_aload_n C dX12_roomFor_17 (i := 0) rfl rfl ?_
      have g7 := bF_236_11 hGq10
      refine a_callVv C (i := 236) kd_236 (hid 236 (by decide)) ⟨_, _, rfl⟩ (by decide) (S_X12_goesOn_236 hid hGq10) mi_X12_goesOn ml_RX12_212 rfl rfl (Nat.le_of_ble_eq_true rfl) (Nat.le_of_ble_eq_true rfl) (Nat.le_of_ble_eq_true rfl) dX12_roomFor_18 (fun σ5 q6 => ?_)
      obtain ⟨hG8, ho9, w11, w12, w13, w14⟩ := q6
      have g15 := bF_236_11 hG8
      have g16 := bF_236_13 hG8
      exact a_vret Rt dX12_roomFor_21 (⟨hG8, (onm.tr hoq10 (onm.mono ho9 (by decide))), (show (σ.1 236 11).toInt ≤ (σ5.1 236 11).toInt by intros; omega), (show (σ5.1 236 11).toInt ≤ (σ.1 236 11).toInt + 1 by intros; omega), (show 1 ≤ (σ.1 236 13).toInt → 1 ≤ (σ5.1 236 13).toInt by intros; omega), (show (σ5.1 236 13).toInt = 0 → (σ5.1 236 11).toInt = (σ.1 236 11).toInt + 1 ∧ (σ.1 236 13).toInt = 0 by intros; omega), (show (σ5.1 236 13).toInt = 0 → x1.toInt ≠ x2.toInt by intros; omega)⟩)
  refine a_iload_n C dX12_roomFor_0 (i := 1) rfl rfl ?_
  refine a_iload_n C dX12_roomFor_1 (i := 2) rfl rfl ?_
  refine s_ic_ne C dX12_roomFor_2 (tgt := 10) rfl (fun c17 => ?_) (fun c17 => ?_)
  ·
    have g18 := bF_236_11 hG
    have g19 := bF_236_13 hG
    refine AW.sub (vs' := [some (.ref (ad 236)), none, none]) (lsub_of (by simp [lsubB])) ?_
    exact j10 _ hG onm.rf (show (σ.1 236 11).toInt = (σ.1 236 11).toInt by omega) (show 1 ≤ (σ.1 236 13).toInt → 1 ≤ (σ.1 236 13).toInt by omega) (show (σ.1 236 13).toInt = 0 → (σ.1 236 13).toInt = 0 by omega) (show (σ.1 236 13).toInt = 0 → x1.toInt ≠ x2.toInt by omega)
  ·
    refine a_aload_n C dX12_roomFor_5 (i := 0) rfl rfl ?_
    refine s_iconst C dX12_roomFor_6 (2) (by decide) (fun z20 h21 => ?_)
    have g25 := bF_236_13 hG
    refine a_callVv C (i := 236) kd_236 (hid 236 (by decide)) ⟨_, _, rfl⟩ (by decide) (S_X12_fail_236 (x1 := z20) hid hG (by omega)) mi_X12_fail ml_RX12_206 rfl rfl (Nat.le_of_ble_eq_true rfl) (Nat.le_of_ble_eq_true rfl) (Nat.le_of_ble_eq_true rfl) dX12_roomFor_7 (fun σ23 q24 => ?_)
    obtain ⟨hG26, ho27, w29, w30⟩ := q24
    have g31 := bF_236_11 hG26
    have g32 := bF_236_11 hG
    have g33 : (σ23.1 236 11).toInt = (σ.1 236 11).toInt := congrArg Int32.toInt (ho27.1 236 11 (by decide))
    have g34 := bF_236_13 hG26
    refine AW.sub (vs' := [some (.ref (ad 236)), none, none]) (lsub_of (by simp [lsubB])) ?_
    exact j10 _ hG26 (onm.tr onm.rf (onm.mono ho27 (by decide))) (show (σ23.1 236 11).toInt = (σ.1 236 11).toInt by omega) (show 1 ≤ (σ.1 236 13).toInt → 1 ≤ (σ23.1 236 13).toInt by omega) (show (σ23.1 236 13).toInt = 0 → (σ.1 236 13).toInt = 0 by omega) (show (σ23.1 236 13).toInt = 0 → x1.toInt ≠ x2.toInt by omega)
theorem dX12_bounded_0 : decode cX12_bounded 0 = .ok (.aload_n 0, 1) := by decide +kernel
theorem dX12_bounded_1 : decode cX12_bounded 1 = .ok (.getfield 191, 3) := by decide +kernel
theorem dX12_bounded_4 : decode cX12_bounded 4 = .ok (.ifCond .gt 11, 3) := by decide +kernel
theorem dX12_bounded_7 : decode cX12_bounded 7 = .ok (.aload_n 0, 1) := by decide +kernel
theorem dX12_bounded_8 : decode cX12_bounded 8 = .ok (.iconst 2, 1) := by decide +kernel
theorem dX12_bounded_9 : decode cX12_bounded 9 = .ok (.invokevirtual 209, 3) := by decide +kernel
theorem dX12_bounded_12 : decode cX12_bounded 12 = .ok (.ifCond .ne 10, 3) := by decide +kernel
theorem dX12_bounded_15 : decode cX12_bounded 15 = .ok (.aload_n 0, 1) := by decide +kernel
theorem dX12_bounded_16 : decode cX12_bounded 16 = .ok (.iconst 1, 1) := by decide +kernel
theorem dX12_bounded_17 : decode cX12_bounded 17 = .ok (.invokevirtual 206, 3) := by decide +kernel
theorem dX12_bounded_20 : decode cX12_bounded 20 = .ok (.iload_n 1, 1) := by decide +kernel
theorem dX12_bounded_21 : decode cX12_bounded 21 = .ok (.ireturn, 1) := by decide +kernel
theorem dX12_bounded_22 : decode cX12_bounded 22 = .ok (.aload_n 0, 1) := by decide +kernel
theorem dX12_bounded_23 : decode cX12_bounded 23 = .ok (.getfield 27, 3) := by decide +kernel
theorem dX12_bounded_26 : decode cX12_bounded 26 = .ok (.aload_n 0, 1) := by decide +kernel
theorem dX12_bounded_27 : decode cX12_bounded 27 = .ok (.getfield 194, 3) := by decide +kernel
theorem dX12_bounded_30 : decode cX12_bounded 30 = .ok (.iaload, 1) := by decide +kernel
theorem dX12_bounded_31 : decode cX12_bounded 31 = .ok (.istore_n 3, 1) := by decide +kernel
theorem dX12_bounded_32 : decode cX12_bounded 32 = .ok (.iload_n 3, 1) := by decide +kernel
theorem dX12_bounded_33 : decode cX12_bounded 33 = .ok (.iload_n 1, 1) := by decide +kernel
theorem dX12_bounded_34 : decode cX12_bounded 34 = .ok (.if_icmp .lt 8, 3) := by decide +kernel
theorem dX12_bounded_37 : decode cX12_bounded 37 = .ok (.iload_n 3, 1) := by decide +kernel
theorem dX12_bounded_38 : decode cX12_bounded 38 = .ok (.iload_n 2, 1) := by decide +kernel
theorem dX12_bounded_39 : decode cX12_bounded 39 = .ok (.if_icmp .le 12, 3) := by decide +kernel
theorem dX12_bounded_42 : decode cX12_bounded 42 = .ok (.aload_n 0, 1) := by decide +kernel
theorem dX12_bounded_43 : decode cX12_bounded 43 = .ok (.iconst 5, 1) := by decide +kernel
theorem dX12_bounded_44 : decode cX12_bounded 44 = .ok (.aload_n 0, 1) := by decide +kernel
theorem dX12_bounded_45 : decode cX12_bounded 45 = .ok (.getfield 194, 3) := by decide +kernel
theorem dX12_bounded_48 : decode cX12_bounded 48 = .ok (.invokevirtual 268, 3) := by decide +kernel
theorem dX12_bounded_51 : decode cX12_bounded 51 = .ok (.aload_n 0, 1) := by decide +kernel
theorem dX12_bounded_52 : decode cX12_bounded 52 = .ok (.invokevirtual 212, 3) := by decide +kernel
theorem dX12_bounded_55 : decode cX12_bounded 55 = .ok (.iload_n 3, 1) := by decide +kernel
theorem dX12_bounded_56 : decode cX12_bounded 56 = .ok (.ireturn, 1) := by decide +kernel
set_option maxHeartbeats 4000000 in
set_option maxRecDepth 100000 in
theorem S_X12_bounded_236 {l : Launch} {D : va_G} {ids : List Nat} {ad : Nat → Nat} {ca : Nat → ClassId} {σ : HS} {x1 : Int32} {x2 : Int32} (hid : ∀ i, i < 277 → i ∈ ids) (hG : GIm σ) (hx1 : 0 ≤ x1.toInt ∧ x1.toInt ≤ 1) : Ki l D ids ad ca yX12_bounded cX12_bounded 4 .int 2 41 [.ref (ad 236), .int x1, .int x2] σ (fun r σ1 => (GIm σ1) ∧ (onm [1011, 1013, 1014, 1015, 1016] σ σ1) ∧ (0 ≤ r.toInt ∧ r.toInt ≤ 9999) ∧ ((σ.1 236 11).toInt ≤ (σ1.1 236 11).toInt) ∧ ((σ1.1 236 11).toInt ≤ (σ.1 236 11).toInt + 1) ∧ (1 ≤ (σ.1 236 13).toInt → 1 ≤ (σ1.1 236 13).toInt) ∧ ((σ1.1 236 13).toInt = 0 → (σ1.1 236 11).toInt = (σ.1 236 11).toInt + 1) ∧ ((σ1.1 236 13).toInt = 0 → (σ.1 236 13).toInt = 0)) := by
  refine Ki.of (by decide) (Nat.le_of_ble_eq_true rfl) 1 (fun Γ C Rt => ?_)
  show AW ids ad ca Γ 0 [some (.ref (ad 236)), some (.int x1), some (.int x2), none] [] σ
  have j51 : ∀ (σq51 : HS) (y51_3 : Int32), GIm σq51 → onm [1011, 1013, 1014, 1015, 1016] σ σq51 → 0 ≤ y51_3.toInt ∧ y51_3.toInt ≤ 9999 → ((σq51.1 236 11).toInt = (σ.1 236 11).toInt) → ((σq51.1 236 13).toInt = (σ.1 236 13).toInt) → ((σq51.1 236 13).toInt = 0) → AW ids ad ca Γ 51 [some (.ref (ad 236)), none, none, some (.int y51_3)] [] σq51 := by
    intro σq51 y51_3 hGq51 hoq51 hx51_0 hx51_1 hx51_2 hx51_3
    refine a_aload_n C dX12_bounded_51 (i := 0) rfl rfl ?_
    have g4 := bF_236_11 hGq51
    have g5 := bF_236_13 hGq51
    refine a_callVv C (i := 236) kd_236 (hid 236 (by decide)) ⟨_, _, rfl⟩ (by decide) (S_X12_goesOn_236 hid hGq51) mi_X12_goesOn ml_RX12_212 rfl rfl (Nat.le_of_ble_eq_true rfl) (Nat.le_of_ble_eq_true rfl) (Nat.le_of_ble_eq_true rfl) dX12_bounded_52 (fun σ2 q3 => ?_)
    obtain ⟨hG6, ho7, w9, w10, w11, w12⟩ := q3
    refine a_iload_n C dX12_bounded_55 (i := 3) rfl rfl ?_
    have g13 := bF_236_11 hG6
    have g14 := bF_236_13 hG6
    exact a_iret Rt dX12_bounded_56 rfl (⟨hG6, (onm.tr hoq51 (onm.mono ho7 (by decide))), (show 0 ≤ y51_3.toInt ∧ y51_3.toInt ≤ 9999 by intros; omega), (show (σ.1 236 11).toInt ≤ (σ2.1 236 11).toInt by intros; omega), (show (σ2.1 236 11).toInt ≤ (σ.1 236 11).toInt + 1 by intros; omega), (show 1 ≤ (σ.1 236 13).toInt → 1 ≤ (σ2.1 236 13).toInt by intros; omega), (show (σ2.1 236 13).toInt = 0 → (σ2.1 236 11).toInt = (σ.1 236 11).toInt + 1 by intros; omega), (show (σ2.1 236 13).toInt = 0 → (σ.1 236 13).toInt = 0 by intros; omega)⟩)
  have j42 : ∀ (σq42 : HS) (y42_3 : Int32), GIm σq42 → onm [1011, 1013, 1014, 1015, 1016] σ σq42 → 0 ≤ y42_3.toInt ∧ y42_3.toInt ≤ 9999 → ((σq42.1 236 11).toInt = (σ.1 236 11).toInt) → ((σq42.1 236 13).toInt = (σ.1 236 13).toInt) → ((σq42.1 236 13).toInt = 0) → AW ids ad ca Γ 42 [some (.ref (ad 236)), none, none, some (.int y42_3)] [] σq42 := by
    intro σq42 y42_3 hGq42 hoq42 hx42_0 hx42_1 hx42_2 hx42_3
    refine a_aload_n C dX12_bounded_42 (i := 0) rfl rfl ?_
    refine s_iconst C dX12_bounded_43 (5) (by decide) (fun z15 h16 => ?_)
    refine a_aload_n C dX12_bounded_44 (i := 0) rfl rfl ?_
    have g17 := bF_236_11 hGq42
    refine a_get C fl_RX12_194 (i := 236) kd_236 (hid 236 (by decide)) (v := .int (σq42.1 236 11)) rfl dX12_bounded_45 ?_
    have g21 := bF_236_13 hGq42
    refine a_callVv C (i := 236) kd_236 (hid 236 (by decide)) ⟨_, _, rfl⟩ (by decide) (S_X12_wrong_236 (x1 := z15) (x2 := (σq42.1 236 11)) hid hGq42 (by omega)) mi_X12_wrong ml_RX12_268 rfl rfl (Nat.le_of_ble_eq_true rfl) (Nat.le_of_ble_eq_true rfl) (Nat.le_of_ble_eq_true rfl) dX12_bounded_48 (fun σ19 q20 => ?_)
    obtain ⟨hG22, ho23, w25⟩ := q20
    have g26 := bF_236_11 hG22
    have g27 : (σ19.1 236 11).toInt = (σq42.1 236 11).toInt := congrArg Int32.toInt (ho23.1 236 11 (by decide))
    have g28 := bF_236_13 hG22
    have g29 : (σ19.1 236 13).toInt = (σq42.1 236 13).toInt := congrArg Int32.toInt (ho23.1 236 13 (by decide))
    exact j51 _ y42_3 hG22 (onm.tr hoq42 (onm.mono ho23 (by decide))) (by omega) (show (σ19.1 236 11).toInt = (σ.1 236 11).toInt by omega) (show (σ19.1 236 13).toInt = (σ.1 236 13).toInt by omega) (show (σ19.1 236 13).toInt = 0 by omega)
  have j15 : ∀ (σq15 : HS), GIm σq15 → onm [1011, 1013, 1014, 1015, 1016] σ σq15 → ((σq15.1 236 11).toInt = (σ.1 236 11).toInt) → ((σq15.1 236 13).toInt = (σ.1 236 13).toInt) → AW ids ad ca Γ 15 [some (.ref (ad 236)), some (.int x1), none, none] [] σq15 := by
    intro σq15 hGq15 hoq15 hx15_0 hx15_1
    refine a_aload_n C dX12_bounded_15 (i := 0) rfl rfl ?_
    refine s_iconst C dX12_bounded_16 (1) (by decide) (fun z30 h31 => ?_)
    have g35 := bF_236_13 hGq15
    refine a_callVv C (i := 236) kd_236 (hid 236 (by decide)) ⟨_, _, rfl⟩ (by decide) (S_X12_fail_236 (x1 := z30) hid hGq15 (by omega)) mi_X12_fail ml_RX12_206 rfl rfl (Nat.le_of_ble_eq_true rfl) (Nat.le_of_ble_eq_true rfl) (Nat.le_of_ble_eq_true rfl) dX12_bounded_17 (fun σ33 q34 => ?_)
    obtain ⟨hG36, ho37, w39, w40⟩ := q34
    refine a_iload_n C dX12_bounded_20 (i := 1) rfl rfl ?_
    have g41 := bF_236_11 hG36
    have g42 := bF_236_11 hGq15
    have g43 : (σ33.1 236 11).toInt = (σq15.1 236 11).toInt := congrArg Int32.toInt (ho37.1 236 11 (by decide))
    have g44 := bF_236_13 hG36
    exact a_iret Rt dX12_bounded_21 rfl (⟨hG36, (onm.tr hoq15 (onm.mono ho37 (by decide))), (show 0 ≤ x1.toInt ∧ x1.toInt ≤ 9999 by intros; omega), (show (σ.1 236 11).toInt ≤ (σ33.1 236 11).toInt by intros; omega), (show (σ33.1 236 11).toInt ≤ (σ.1 236 11).toInt + 1 by intros; omega), (show 1 ≤ (σ.1 236 13).toInt → 1 ≤ (σ33.1 236 13).toInt by intros; omega), (show (σ33.1 236 13).toInt = 0 → (σ33.1 236 11).toInt = (σ.1 236 11).toInt + 1 by intros; omega), (show (σ33.1 236 13).toInt = 0 → (σ.1 236 13).toInt = 0 by intros; omega)⟩)
  refine a_aload_n C dX12_bounded_0 (i := 0) rfl rfl ?_
  have g45 := bF_236_13 hG
  refine a_get C fl_RX12_191 (i := 236) kd_236 (hid 236 (by decide)) (v := .int (σ.1 236 13)) rfl dX12_bounded_1 ?_
  refine s_if_gt C dX12_bounded_4 (tgt := 15) rfl (fun c46 => ?_) (fun c46 => ?_)
  ·
    have g47 := bF_236_11 hG
    refine AW.sub (vs' := [some (.ref (ad 236)), some (.int x1), none, none]) (lsub_of (by simp [lsubB])) ?_
    exact j15 _ hG onm.rf (show (σ.1 236 11).toInt = (σ.1 236 11).toInt by omega) (show (σ.1 236 13).toInt = (σ.1 236 13).toInt by omega)
  ·
    refine a_aload_n C dX12_bounded_7 (i := 0) rfl rfl ?_
    refine s_iconst C dX12_bounded_8 (2) (by decide) (fun z48 h49 => ?_)
    have g53 := bF_236_11 hG
    refine a_callVi C (i := 236) kd_236 (hid 236 (by decide)) ⟨_, _, rfl⟩ (by decide) (S_X12_is_236 (x1 := z48) hid hG) mi_X12_is ml_RX12_209 rfl rfl (Nat.le_of_ble_eq_true rfl) (Nat.le_of_ble_eq_true rfl) (Nat.le_of_ble_eq_true rfl) dX12_bounded_9 (fun z50 σ51 q52 => ?_)
    obtain ⟨w54, w55, w56, w57⟩ := q52
    rw [w54]
    refine s_if_ne C dX12_bounded_12 (tgt := 22) rfl (fun c58 => ?_) (fun c58 => ?_)
    ·
      refine a_aload_n C dX12_bounded_22 (i := 0) rfl rfl ?_
      refine a_get C fl_RX12_27 (i := 236) kd_236 (hid 236 (by decide)) (v := .ref (ad 241)) rfl dX12_bounded_23 ?_
      refine a_aload_n C dX12_bounded_26 (i := 0) rfl rfl ?_
      refine a_get C fl_RX12_194 (i := 236) kd_236 (hid 236 (by decide)) (v := .int (σ.1 236 11)) rfl dX12_bounded_27 ?_
      refine s_iald C (i := 241) kd_241 (hid 241 (by decide)) al_241 (by omega) (by omega) dX12_bounded_30 (fun n59 h60 => ?_)
      refine s_val (fun z61 e62 => ?_)
      have g63 := bA_241 hG n59
      rw [e62] at g63
      refine a_istore_n C dX12_bounded_31 (i := 3) rfl (by decide) rfl (vs1 := [some (.ref (ad 236)), some (.int x1), some (.int x2), some (.int z61)]) rfl ?_
      refine a_iload_n C dX12_bounded_32 (i := 3) rfl rfl ?_
      refine a_iload_n C dX12_bounded_33 (i := 1) rfl rfl ?_
      refine s_ic_lt C dX12_bounded_34 (tgt := 42) rfl (fun c64 => ?_) (fun c64 => ?_)
      ·
        refine AW.sub (vs' := [some (.ref (ad 236)), none, none, some (.int z61)]) (lsub_of (by simp [lsubB])) ?_
        exact j42 _ z61 hG onm.rf (by omega) (show (σ.1 236 11).toInt = (σ.1 236 11).toInt by omega) (show (σ.1 236 13).toInt = (σ.1 236 13).toInt by omega) (show (σ.1 236 13).toInt = 0 by omega)
      ·
        refine a_iload_n C dX12_bounded_37 (i := 3) rfl rfl ?_
        refine a_iload_n C dX12_bounded_38 (i := 2) rfl rfl ?_
        refine s_ic_le C dX12_bounded_39 (tgt := 51) rfl (fun c65 => ?_) (fun c65 => ?_)
        ·
          refine AW.sub (vs' := [some (.ref (ad 236)), none, none, some (.int z61)]) (lsub_of (by simp [lsubB])) ?_
          exact j51 _ z61 hG onm.rf (by omega) (show (σ.1 236 11).toInt = (σ.1 236 11).toInt by omega) (show (σ.1 236 13).toInt = (σ.1 236 13).toInt by omega) (show (σ.1 236 13).toInt = 0 by omega)
        ·
          refine AW.sub (vs' := [some (.ref (ad 236)), none, none, some (.int z61)]) (lsub_of (by simp [lsubB])) ?_
          exact j42 _ z61 hG onm.rf (by omega) (show (σ.1 236 11).toInt = (σ.1 236 11).toInt by omega) (show (σ.1 236 13).toInt = (σ.1 236 13).toInt by omega) (show (σ.1 236 13).toInt = 0 by omega)
    ·
      refine AW.sub (vs' := [some (.ref (ad 236)), some (.int x1), none, none]) (lsub_of (by simp [lsubB])) ?_
      exact j15 _ hG onm.rf (show (σ.1 236 11).toInt = (σ.1 236 11).toInt by omega) (show (σ.1 236 13).toInt = (σ.1 236 13).toInt by omega)
theorem dX12_toldInt_0 : decode cX12_toldInt 0 = .ok (.aload_n 0, 1) := by decide +kernel
theorem dX12_toldInt_1 : decode cX12_toldInt 1 = .ok (.invokevirtual 212, 3) := by decide +kernel
theorem dX12_toldInt_4 : decode cX12_toldInt 4 = .ok (.aload_n 0, 1) := by decide +kernel
theorem dX12_toldInt_5 : decode cX12_toldInt 5 = .ok (.iload_n 1, 1) := by decide +kernel
theorem dX12_toldInt_6 : decode cX12_toldInt 6 = .ok (.iload_n 2, 1) := by decide +kernel
theorem dX12_toldInt_7 : decode cX12_toldInt 7 = .ok (.invokevirtual 245, 3) := by decide +kernel
theorem dX12_toldInt_10 : decode cX12_toldInt 10 = .ok (.istore_n 3, 1) := by decide +kernel
theorem dX12_toldInt_11 : decode cX12_toldInt 11 = .ok (.aload_n 0, 1) := by decide +kernel
theorem dX12_toldInt_12 : decode cX12_toldInt 12 = .ok (.iconst 4, 1) := by decide +kernel
theorem dX12_toldInt_13 : decode cX12_toldInt 13 = .ok (.invokevirtual 249, 3) := by decide +kernel
theorem dX12_toldInt_16 : decode cX12_toldInt 16 = .ok (.iload_n 3, 1) := by decide +kernel
theorem dX12_toldInt_17 : decode cX12_toldInt 17 = .ok (.ireturn, 1) := by decide +kernel
set_option maxHeartbeats 4000000 in
set_option maxRecDepth 100000 in
theorem S_X12_toldInt_236 {l : Launch} {D : va_G} {ids : List Nat} {ad : Nat → Nat} {ca : Nat → ClassId} {σ : HS} {x1 : Int32} {x2 : Int32} (hid : ∀ i, i < 277 → i ∈ ids) (hG : GIm σ) (hx1 : 0 ≤ x1.toInt ∧ x1.toInt ≤ 1) : Ki l D ids ad ca yX12_toldInt cX12_toldInt 4 .int 3 64 [.ref (ad 236), .int x1, .int x2] σ (fun r σ1 => (GIm σ1) ∧ (onm [1011, 1013, 1014, 1015, 1016] σ σ1) ∧ (0 ≤ r.toInt ∧ r.toInt ≤ 9999) ∧ ((σ.1 236 11).toInt ≤ (σ1.1 236 11).toInt) ∧ (1 ≤ (σ.1 236 13).toInt → 1 ≤ (σ1.1 236 13).toInt) ∧ ((σ1.1 236 13).toInt = 0 → (σ.1 236 11).toInt + 3 ≤ (σ1.1 236 11).toInt)) := by
  refine Ki.of (by decide) (Nat.le_of_ble_eq_true rfl) 1 (fun Γ C Rt => ?_)
  show AW ids ad ca Γ 0 [some (.ref (ad 236)), some (.int x1), some (.int x2), none] [] σ
  refine a_aload_n C dX12_toldInt_0 (i := 0) rfl rfl ?_
  have g4 := bF_236_11 hG
  have g5 := bF_236_13 hG
  refine a_callVv C (i := 236) kd_236 (hid 236 (by decide)) ⟨_, _, rfl⟩ (by decide) (S_X12_goesOn_236 hid hG) mi_X12_goesOn ml_RX12_212 rfl rfl (Nat.le_of_ble_eq_true rfl) (Nat.le_of_ble_eq_true rfl) (Nat.le_of_ble_eq_true rfl) dX12_toldInt_1 (fun σ2 q3 => ?_)
  obtain ⟨hG6, ho7, w9, w10, w11, w12⟩ := q3
  refine a_aload_n C dX12_toldInt_4 (i := 0) rfl rfl ?_
  refine a_iload_n C dX12_toldInt_5 (i := 1) rfl rfl ?_
  refine a_iload_n C dX12_toldInt_6 (i := 2) rfl rfl ?_
  have g16 := bF_236_11 hG6
  have g17 := bF_236_13 hG6
  refine a_callVi C (i := 236) kd_236 (hid 236 (by decide)) ⟨_, _, rfl⟩ (by decide) (S_X12_bounded_236 (x1 := x1) (x2 := x2) hid hG6 (by omega)) mi_X12_bounded ml_RX12_245 rfl rfl (Nat.le_of_ble_eq_true rfl) (Nat.le_of_ble_eq_true rfl) (Nat.le_of_ble_eq_true rfl) dX12_toldInt_7 (fun z13 σ14 q15 => ?_)
  obtain ⟨hG18, ho19, w21, w22, w23, w24, w25, w26⟩ := q15
  refine a_istore_n C dX12_toldInt_10 (i := 3) rfl (by decide) rfl (vs1 := [some (.ref (ad 236)), some (.int x1), some (.int x2), some (.int z13)]) rfl ?_
  refine a_aload_n C dX12_toldInt_11 (i := 0) rfl rfl ?_
  refine s_iconst C dX12_toldInt_12 (4) (by decide) (fun z27 h28 => ?_)
  have g32 := bF_236_11 hG18
  have g33 := bF_236_13 hG18
  refine a_callVv C (i := 236) kd_236 (hid 236 (by decide)) ⟨_, _, rfl⟩ (by decide) (S_X12_must_236 (x1 := z27) hid hG18) mi_X12_must ml_RX12_249 rfl rfl (Nat.le_of_ble_eq_true rfl) (Nat.le_of_ble_eq_true rfl) (Nat.le_of_ble_eq_true rfl) dX12_toldInt_13 (fun σ30 q31 => ?_)
  obtain ⟨hG34, ho35, w37, w38, w39, w40, w41⟩ := q31
  refine a_iload_n C dX12_toldInt_16 (i := 3) rfl rfl ?_
  have g42 := bF_236_11 hG34
  have g43 := bF_236_13 hG34
  exact a_iret Rt dX12_toldInt_17 rfl (⟨hG34, (onm.tr (onm.tr (onm.tr onm.rf (onm.mono ho7 (by decide))) (onm.mono ho19 (by decide))) (onm.mono ho35 (by decide))), (show 0 ≤ z13.toInt ∧ z13.toInt ≤ 9999 by intros; omega), (show (σ.1 236 11).toInt ≤ (σ30.1 236 11).toInt by intros; omega), (show 1 ≤ (σ.1 236 13).toInt → 1 ≤ (σ30.1 236 13).toInt by intros; omega), (show (σ30.1 236 13).toInt = 0 → (σ.1 236 11).toInt + 3 ≤ (σ30.1 236 11).toInt by intros; omega)⟩)
theorem dX12_named_0 : decode cX12_named 0 = .ok (.aload_n 0, 1) := by decide +kernel
theorem dX12_named_1 : decode cX12_named 1 = .ok (.getfield 194, 3) := by decide +kernel
theorem dX12_named_4 : decode cX12_named 4 = .ok (.istore_n 1, 1) := by decide +kernel
theorem dX12_named_5 : decode cX12_named 5 = .ok (.aload_n 0, 1) := by decide +kernel
theorem dX12_named_6 : decode cX12_named 6 = .ok (.iconst 1, 1) := by decide +kernel
theorem dX12_named_7 : decode cX12_named 7 = .ok (.invokevirtual 249, 3) := by decide +kernel
theorem dX12_named_10 : decode cX12_named 10 = .ok (.iconst 0, 1) := by decide +kernel
theorem dX12_named_11 : decode cX12_named 11 = .ok (.istore_n 2, 1) := by decide +kernel
theorem dX12_named_12 : decode cX12_named 12 = .ok (.iload_n 2, 1) := by decide +kernel
theorem dX12_named_13 : decode cX12_named 13 = .ok (.aload_n 0, 1) := by decide +kernel
theorem dX12_named_14 : decode cX12_named 14 = .ok (.getfield 227, 3) := by decide +kernel
theorem dX12_named_17 : decode cX12_named 17 = .ok (.if_icmp .ge 38, 3) := by decide +kernel
theorem dX12_named_20 : decode cX12_named 20 = .ok (.aload_n 0, 1) := by decide +kernel
theorem dX12_named_21 : decode cX12_named 21 = .ok (.getfield 191, 3) := by decide +kernel
theorem dX12_named_24 : decode cX12_named 24 = .ok (.ifCond .ne 31, 3) := by decide +kernel
theorem dX12_named_27 : decode cX12_named 27 = .ok (.aload_n 0, 1) := by decide +kernel
theorem dX12_named_28 : decode cX12_named 28 = .ok (.getfield 40, 3) := by decide +kernel
theorem dX12_named_31 : decode cX12_named 31 = .ok (.iload_n 2, 1) := by decide +kernel
theorem dX12_named_32 : decode cX12_named 32 = .ok (.laload, 1) := by decide +kernel
theorem dX12_named_33 : decode cX12_named 33 = .ok (.aload_n 0, 1) := by decide +kernel
theorem dX12_named_34 : decode cX12_named 34 = .ok (.getfield 30, 3) := by decide +kernel
theorem dX12_named_37 : decode cX12_named 37 = .ok (.iload_n 1, 1) := by decide +kernel
theorem dX12_named_38 : decode cX12_named 38 = .ok (.laload, 1) := by decide +kernel
theorem dX12_named_39 : decode cX12_named 39 = .ok (.lcmp, 1) := by decide +kernel
theorem dX12_named_40 : decode cX12_named 40 = .ok (.ifCond .ne 9, 3) := by decide +kernel
theorem dX12_named_43 : decode cX12_named 43 = .ok (.aload_n 0, 1) := by decide +kernel
theorem dX12_named_44 : decode cX12_named 44 = .ok (.iconst 3, 1) := by decide +kernel
theorem dX12_named_45 : decode cX12_named 45 = .ok (.iload_n 1, 1) := by decide +kernel
theorem dX12_named_46 : decode cX12_named 46 = .ok (.invokevirtual 268, 3) := by decide +kernel
theorem dX12_named_49 : decode cX12_named 49 = .ok (.iinc 2 1, 3) := by decide +kernel
theorem dX12_named_52 : decode cX12_named 52 = .ok (.goto (-40), 3) := by decide +kernel
theorem dX12_named_55 : decode cX12_named 55 = .ok (.iload_n 1, 1) := by decide +kernel
theorem dX12_named_56 : decode cX12_named 56 = .ok (.ireturn, 1) := by decide +kernel
set_option maxHeartbeats 4000000 in
set_option maxRecDepth 100000 in
theorem S_X12_named_236 {l : Launch} {D : va_G} {ids : List Nat} {ad : Nat → Nat} {ca : Nat → ClassId} {σ : HS} (hid : ∀ i, i < 277 → i ∈ ids) (hG : GIm σ) : Ki l D ids ad ca yX12_named cX12_named 3 .int 3 62 [.ref (ad 236)] σ (fun r σ1 => (GIm σ1) ∧ (onm [1011, 1013, 1014, 1015, 1016] σ σ1) ∧ (0 ≤ r.toInt ∧ r.toInt ≤ 400) ∧ ((σ.1 236 11).toInt ≤ (σ1.1 236 11).toInt) ∧ ((σ1.1 236 11).toInt ≤ (σ.1 236 11).toInt + 1) ∧ (1 ≤ (σ.1 236 13).toInt → 1 ≤ (σ1.1 236 13).toInt) ∧ ((σ1.1 236 13).toInt = 0 → (σ1.1 236 11).toInt = (σ.1 236 11).toInt + 1) ∧ ((σ1.1 236 13).toInt = 0 → (σ.1 236 13).toInt = 0)) := by
  refine Ki.of (by decide) (Nat.le_of_ble_eq_true rfl) 2 (fun Γ C Rt => ?_)
  show AW ids ad ca Γ 0 [some (.ref (ad 236)), none, none] [] σ
  have j12 : ∀ (d12 : Nat) (σq12 : HS) (y12_1 : Int32) (y12_2 : Int32), 12 - y12_2.toInt < d12 → GIm σq12 → onm [1011, 1013, 1014, 1015, 1016] σ σq12 → 0 ≤ y12_1.toInt ∧ y12_1.toInt ≤ 400 → 0 ≤ y12_2.toInt ∧ y12_2.toInt ≤ 12 → ((σ.1 236 11).toInt ≤ (σq12.1 236 11).toInt) → ((σq12.1 236 11).toInt ≤ (σ.1 236 11).toInt + 1) → (1 ≤ (σ.1 236 13).toInt → 1 ≤ (σq12.1 236 13).toInt) → ((σq12.1 236 13).toInt = 0 → (σq12.1 236 11).toInt = (σ.1 236 11).toInt + 1) → ((σq12.1 236 13).toInt = 0 → (σ.1 236 13).toInt = 0) → AW ids ad ca Γ 12 [some (.ref (ad 236)), some (.int y12_1), some (.int y12_2)] [] σq12 := by
    intro d12
    induction d12 with
    | zero =>
      intro σq12 y12_1 y12_2 hd12 hGq12 hoq12 hx12_0 hx12_1 hx12_2 hx12_3 hx12_4 hx12_5 hx12_6
      exfalso
      omega
    | succ d12 ih12 =>
      intro σq12 y12_1 y12_2 hd12 hGq12 hoq12 hx12_0 hx12_1 hx12_2 hx12_3 hx12_4 hx12_5 hx12_6
      have j49 : ∀ (σq49 : HS), GIm σq49 → onm [1011, 1013, 1014, 1015, 1016] σ σq49 → 0 ≤ y12_2.toInt ∧ y12_2.toInt ≤ 11 → ((σ.1 236 11).toInt ≤ (σq49.1 236 11).toInt) → ((σq49.1 236 11).toInt ≤ (σ.1 236 11).toInt + 1) → (1 ≤ (σ.1 236 13).toInt → 1 ≤ (σq49.1 236 13).toInt) → ((σq49.1 236 13).toInt = 0 → (σq49.1 236 11).toInt = (σ.1 236 11).toInt + 1) → ((σq49.1 236 13).toInt = 0 → (σ.1 236 13).toInt = 0) → AW ids ad ca Γ 49 [some (.ref (ad 236)), some (.int y12_1), some (.int y12_2)] [] σq49 := by
        intro σq49 hGq49 hoq49 hx49_0 hx49_1 hx49_2 hx49_3 hx49_4 hx49_5
        refine s_iinc C dX12_named_49 rfl (1) (by decide) (by omega) (by decide) rfl (fun z1 h2 => ?_)
        show AW ids ad ca Γ 52 [some (.ref (ad 236)), some (.int y12_1), some (.int z1)] _ _
        refine a_goto C dX12_named_52 (tgt := 12) rfl ?_
        have g3 := bF_236_11 hGq49
        have g4 := bF_236_13 hGq49
        exact ih12 _ y12_1 z1 (by omega) hGq49 hoq49 (by omega) (by omega) (show (σ.1 236 11).toInt ≤ (σq49.1 236 11).toInt by omega) (show (σq49.1 236 11).toInt ≤ (σ.1 236 11).toInt + 1 by omega) (show 1 ≤ (σ.1 236 13).toInt → 1 ≤ (σq49.1 236 13).toInt by omega) (show (σq49.1 236 13).toInt = 0 → (σq49.1 236 11).toInt = (σ.1 236 11).toInt + 1 by omega) (show (σq49.1 236 13).toInt = 0 → (σ.1 236 13).toInt = 0 by omega)
      refine a_iload_n C dX12_named_12 (i := 2) rfl rfl ?_
      refine a_aload_n C dX12_named_13 (i := 0) rfl rfl ?_
      have g5 := bF_236_20 hGq12
      have g6 : (σq12.1 236 20).toInt = (σ.1 236 20).toInt := congrArg Int32.toInt (hoq12.1 236 20 (by decide))
      refine a_get C fl_RX12_227 (i := 236) kd_236 (hid 236 (by decide)) (v := .int (σq12.1 236 20)) rfl dX12_named_14 ?_
      refine s_ic_ge C dX12_named_17 (tgt := 55) rfl (fun c7 => ?_) (fun c7 => ?_)
      ·
        refine a_iload_n C dX12_named_55 (i := 1) rfl rfl ?_
        have g8 := bF_236_11 hGq12
        have g9 := bF_236_13 hGq12
        exact a_iret Rt dX12_named_56 rfl (⟨hGq12, hoq12, (show 0 ≤ y12_1.toInt ∧ y12_1.toInt ≤ 400 by intros; omega), (show (σ.1 236 11).toInt ≤ (σq12.1 236 11).toInt by intros; omega), (show (σq12.1 236 11).toInt ≤ (σ.1 236 11).toInt + 1 by intros; omega), (show 1 ≤ (σ.1 236 13).toInt → 1 ≤ (σq12.1 236 13).toInt by intros; omega), (show (σq12.1 236 13).toInt = 0 → (σq12.1 236 11).toInt = (σ.1 236 11).toInt + 1 by intros; omega), (show (σq12.1 236 13).toInt = 0 → (σ.1 236 13).toInt = 0 by intros; omega)⟩)
      ·
        refine a_aload_n C dX12_named_20 (i := 0) rfl rfl ?_
        have g10 := bF_236_13 hGq12
        refine a_get C fl_RX12_191 (i := 236) kd_236 (hid 236 (by decide)) (v := .int (σq12.1 236 13)) rfl dX12_named_21 ?_
        refine s_if_ne C dX12_named_24 (tgt := 55) rfl (fun c11 => ?_) (fun c11 => ?_)
        ·
          refine a_iload_n C dX12_named_55 (i := 1) rfl rfl ?_
          have g12 := bF_236_11 hGq12
          exact a_iret Rt dX12_named_56 rfl (⟨hGq12, hoq12, (show 0 ≤ y12_1.toInt ∧ y12_1.toInt ≤ 400 by intros; omega), (show (σ.1 236 11).toInt ≤ (σq12.1 236 11).toInt by intros; omega), (show (σq12.1 236 11).toInt ≤ (σ.1 236 11).toInt + 1 by intros; omega), (show 1 ≤ (σ.1 236 13).toInt → 1 ≤ (σq12.1 236 13).toInt by intros; omega), (show (σq12.1 236 13).toInt = 0 → (σq12.1 236 11).toInt = (σ.1 236 11).toInt + 1 by intros; omega), (show (σq12.1 236 13).toInt = 0 → (σ.1 236 13).toInt = 0 by intros; omega)⟩)
        ·
          refine a_aload_n C dX12_named_27 (i := 0) rfl rfl ?_
          refine a_get C fl_RX12_40 (i := 236) kd_236 (hid 236 (by decide)) (v := .ref (ad 244)) rfl dX12_named_28 ?_
          refine a_iload_n C dX12_named_31 (i := 2) rfl rfl ?_
          refine s_lald C (i := 244) kd_244 (hid 244 (by decide)) al_244 (by omega) (by omega) dX12_named_32 (fun n13 h14 => ?_)
          refine a_aload_n C dX12_named_33 (i := 0) rfl rfl ?_
          refine a_get C fl_RX12_30 (i := 236) kd_236 (hid 236 (by decide)) (v := .ref (ad 242)) rfl dX12_named_34 ?_
          refine a_iload_n C dX12_named_37 (i := 1) rfl rfl ?_
          refine s_lald C (i := 242) kd_242 (hid 242 (by decide)) al_242 (by omega) (by omega) dX12_named_38 (fun n15 h16 => ?_)
          refine s_lcmpU C dX12_named_39 (fun z17 => ?_)
          refine s_if_ne C dX12_named_40 (tgt := 49) rfl (fun c19 => ?_) (fun c19 => ?_)
          ·
            have g20 := bF_236_11 hGq12
            exact j49 _ hGq12 hoq12 (by omega) (show (σ.1 236 11).toInt ≤ (σq12.1 236 11).toInt by omega) (show (σq12.1 236 11).toInt ≤ (σ.1 236 11).toInt + 1 by omega) (show 1 ≤ (σ.1 236 13).toInt → 1 ≤ (σq12.1 236 13).toInt by omega) (show (σq12.1 236 13).toInt = 0 → (σq12.1 236 11).toInt = (σ.1 236 11).toInt + 1 by omega) (show (σq12.1 236 13).toInt = 0 → (σ.1 236 13).toInt = 0 by omega)
          ·
            refine a_aload_n C dX12_named_43 (i := 0) rfl rfl ?_
            refine s_iconst C dX12_named_44 (3) (by decide) (fun z21 h22 => ?_)
            refine a_iload_n C dX12_named_45 (i := 1) rfl rfl ?_
            refine a_callVv C (i := 236) kd_236 (hid 236 (by decide)) ⟨_, _, rfl⟩ (by decide) (S_X12_wrong_236 (x1 := z21) (x2 := y12_1) hid hGq12 (by omega)) mi_X12_wrong ml_RX12_268 rfl rfl (Nat.le_of_ble_eq_true rfl) (Nat.le_of_ble_eq_true rfl) (Nat.le_of_ble_eq_true rfl) dX12_named_46 (fun σ24 q25 => ?_)
            obtain ⟨hG26, ho27, w29⟩ := q25
            have g30 := bF_236_11 hG26
            have g31 := bF_236_11 hGq12
            have g32 : (σ24.1 236 11).toInt = (σq12.1 236 11).toInt := congrArg Int32.toInt (ho27.1 236 11 (by decide))
            have g33 := bF_236_13 hG26
            have g34 : (σ24.1 236 13).toInt = (σq12.1 236 13).toInt := congrArg Int32.toInt (ho27.1 236 13 (by decide))
            exact j49 _ hG26 (onm.tr hoq12 (onm.mono ho27 (by decide))) (by omega) (show (σ.1 236 11).toInt ≤ (σ24.1 236 11).toInt by omega) (show (σ24.1 236 11).toInt ≤ (σ.1 236 11).toInt + 1 by omega) (show 1 ≤ (σ.1 236 13).toInt → 1 ≤ (σ24.1 236 13).toInt by omega) (show (σ24.1 236 13).toInt = 0 → (σ24.1 236 11).toInt = (σ.1 236 11).toInt + 1 by omega) (show (σ24.1 236 13).toInt = 0 → (σ.1 236 13).toInt = 0 by omega)
  refine a_aload_n C dX12_named_0 (i := 0) rfl rfl ?_
  have g35 := bF_236_11 hG
  refine a_get C fl_RX12_194 (i := 236) kd_236 (hid 236 (by decide)) (v := .int (σ.1 236 11)) rfl dX12_named_1 ?_
  refine a_istore_n C dX12_named_4 (i := 1) rfl (by decide) rfl (vs1 := [some (.ref (ad 236)), some (.int (σ.1 236 11)), none]) rfl ?_
  refine a_aload_n C dX12_named_5 (i := 0) rfl rfl ?_
  refine s_iconst C dX12_named_6 (1) (by decide) (fun z36 h37 => ?_)
  have g41 := bF_236_13 hG
  refine a_callVv C (i := 236) kd_236 (hid 236 (by decide)) ⟨_, _, rfl⟩ (by decide) (S_X12_must_236 (x1 := z36) hid hG) mi_X12_must ml_RX12_249 rfl rfl (Nat.le_of_ble_eq_true rfl) (Nat.le_of_ble_eq_true rfl) (Nat.le_of_ble_eq_true rfl) dX12_named_7 (fun σ39 q40 => ?_)
  obtain ⟨hG42, ho43, w45, w46, w47, w48, w49⟩ := q40
  refine s_iconst C dX12_named_10 (0) (by decide) (fun z50 h51 => ?_)
  refine a_istore_n C dX12_named_11 (i := 2) rfl (by decide) rfl (vs1 := [some (.ref (ad 236)), some (.int (σ.1 236 11)), some (.int z50)]) rfl ?_
  have g52 := bF_236_11 hG42
  have g53 := bF_236_13 hG42
  exact j12 100000 _ (σ.1 236 11) z50 (by omega) hG42 (onm.tr onm.rf (onm.mono ho43 (by decide))) (by omega) (by omega) (show (σ.1 236 11).toInt ≤ (σ39.1 236 11).toInt by omega) (show (σ39.1 236 11).toInt ≤ (σ.1 236 11).toInt + 1 by omega) (show 1 ≤ (σ.1 236 13).toInt → 1 ≤ (σ39.1 236 13).toInt by omega) (show (σ39.1 236 13).toInt = 0 → (σ39.1 236 11).toInt = (σ.1 236 11).toInt + 1 by omega) (show (σ39.1 236 13).toInt = 0 → (σ.1 236 13).toInt = 0 by omega)
