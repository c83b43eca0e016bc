theorem nof_261 : ∀ q ∈ bdFm, ¬ q.1 = 261 := by decide
theorem wA_261 {σ : HS} {v : Int32} {j : Nat} (h : GIm σ) : GIm (hI σ 261 j v) := GIm.I h (fun q hq e1 _ => absurd e1 (nof_261 q hq)) (hAm_of (L := []) (by decide) (fun _ h => absurd h List.not_mem_nil))
theorem nof_262 : ∀ q ∈ bdFm, ¬ q.1 = 262 := by decide
theorem wA_262 {σ : HS} {v : Int32} {j : Nat} (h : GIm σ) : GIm (hI σ 262 j v) := GIm.I h (fun q hq e1 _ => absurd e1 (nof_262 q hq)) (hAm_of (L := []) (by decide) (fun _ h => absurd h List.not_mem_nil))
theorem wF_236_39 {σ : HS} {v : Int32} (h : GIm σ) : GIm (hI σ 236 39 v) := GIm.I h (hFm_of (L := []) (by decide) (fun _ h => absurd h List.not_mem_nil)) (hAm_of (L := []) (by decide) (fun _ h => absurd h List.not_mem_nil))
theorem bF_236_19 {σ : HS} (h : GIm σ) : 0 ≤ (σ.1 236 19).toInt ∧ (σ.1 236 19).toInt ≤ 1 := h.1 (236, 19, 0, 1) (by decide)
theorem wF_236_20 {σ : HS} {v : Int32} (h : GIm σ) (h1 : 0 ≤ v.toInt) (h2 : v.toInt ≤ 12) : GIm (hI σ 236 20 v) := GIm.I h (hFm_of (L := [(236, 20, 0, 12)]) (by decide) (fun q hq => by simp only [List.mem_cons, List.not_mem_nil, or_false] at hq; subst hq; exact ⟨h1, h2⟩)) (hAm_of (L := []) (by decide) (fun _ h => absurd h List.not_mem_nil))
theorem nof_246 : ∀ q ∈ bdFm, ¬ q.1 = 246 := by decide
theorem wA_246 {σ : HS} {v : Int32} {j : Nat} (h : GIm σ) : GIm (hI σ 246 j v) := GIm.I h (fun q hq e1 _ => absurd e1 (nof_246 q hq)) (hAm_of (L := []) (by decide) (fun _ h => absurd h List.not_mem_nil))
theorem nof_247 : ∀ q ∈ bdFm, ¬ q.1 = 247 := by decide
theorem wA_247 {σ : HS} {v : Int32} {j : Nat} (h : GIm σ) : GIm (hI σ 247 j v) := GIm.I h (fun q hq e1 _ => absurd e1 (nof_247 q hq)) (hAm_of (L := []) (by decide) (fun _ h => absurd h List.not_mem_nil))
theorem nof_248 : ∀ q ∈ bdFm, ¬ q.1 = 248 := by decide
theorem wA_248 {σ : HS} {v : Int32} {j : Nat} (h : GIm σ) : GIm (hI σ 248 j v) := GIm.I h (fun q hq e1 _ => absurd e1 (nof_248 q hq)) (hAm_of (L := []) (by decide) (fun _ h => absurd h List.not_mem_nil))
theorem nof_245 : ∀ q ∈ bdFm, ¬ q.1 = 245 := by decide
theorem wA_245 {σ : HS} {v : Int32} {j : Nat} (h : GIm σ) (h1 : 0 ≤ v.toInt) (h2 : v.toInt ≤ 7) : GIm (hI σ 245 j v) := GIm.I h (fun q hq e1 _ => absurd e1 (nof_245 q hq)) (hAm_of (L := [(245, 0, 7)]) (by decide) (fun q hq => by simp only [List.mem_cons, List.not_mem_nil, or_false] at hq; subst hq; exact ⟨h1, h2⟩))
theorem nof_249 : ∀ q ∈ bdFm, ¬ q.1 = 249 := by decide
theorem wA_249 {σ : HS} {v : Int32} {j : Nat} (h : GIm σ) (h1 : 0 ≤ v.toInt) (h2 : v.toInt ≤ 5) : GIm (hI σ 249 j v) := GIm.I h (fun q hq e1 _ => absurd e1 (nof_249 q hq)) (hAm_of (L := [(249, 0, 5)]) (by decide) (fun q hq => by simp only [List.mem_cons, List.not_mem_nil, or_false] at hq; subst hq; exact ⟨h1, h2⟩))
theorem nof_252 : ∀ q ∈ bdFm, ¬ q.1 = 252 := by decide
theorem wA_252 {σ : HS} {v : Int32} {j : Nat} (h : GIm σ) : GIm (hI σ 252 j v) := GIm.I h (fun q hq e1 _ => absurd e1 (nof_252 q hq)) (hAm_of (L := []) (by decide) (fun _ h => absurd h List.not_mem_nil))
theorem nof_253 : ∀ q ∈ bdFm, ¬ q.1 = 253 := by decide
theorem wA_253 {σ : HS} {v : Int32} {j : Nat} (h : GIm σ) : GIm (hI σ 253 j v) := GIm.I h (fun q hq e1 _ => absurd e1 (nof_253 q hq)) (hAm_of (L := []) (by decide) (fun _ h => absurd h List.not_mem_nil))
theorem nof_254 : ∀ q ∈ bdFm, ¬ q.1 = 254 := by decide
theorem wA_254 {σ : HS} {v : Int32} {j : Nat} (h : GIm σ) : GIm (hI σ 254 j v) := GIm.I h (fun q hq e1 _ => absurd e1 (nof_254 q hq)) (hAm_of (L := []) (by decide) (fun _ h => absurd h List.not_mem_nil))
theorem nof_255 : ∀ q ∈ bdFm, ¬ q.1 = 255 := by decide
theorem wA_255 {σ : HS} {v : Int32} {j : Nat} (h : GIm σ) : GIm (hI σ 255 j v) := GIm.I h (fun q hq e1 _ => absurd e1 (nof_255 q hq)) (hAm_of (L := []) (by decide) (fun _ h => absurd h List.not_mem_nil))
theorem dX12_emit_0 : decode cX12_emit 0 = .ok (.aload_n 0, 1) := by decide +kernel
theorem dX12_emit_1 : decode cX12_emit 1 = .ok (.getfield 92, 3) := by decide +kernel
theorem dX12_emit_4 : decode cX12_emit 4 = .ok (.aload_n 0, 1) := by decide +kernel
theorem dX12_emit_5 : decode cX12_emit 5 = .ok (.getfield 233, 3) := by decide +kernel
theorem dX12_emit_8 : decode cX12_emit 8 = .ok (.iload_n 1, 1) := by decide +kernel
theorem dX12_emit_9 : decode cX12_emit 9 = .ok (.iastore, 1) := by decide +kernel
theorem dX12_emit_10 : decode cX12_emit 10 = .ok (.aload_n 0, 1) := by decide +kernel
theorem dX12_emit_11 : decode cX12_emit 11 = .ok (.getfield 95, 3) := by decide +kernel
theorem dX12_emit_14 : decode cX12_emit 14 = .ok (.aload_n 0, 1) := by decide +kernel
theorem dX12_emit_15 : decode cX12_emit 15 = .ok (.getfield 233, 3) := by decide +kernel
theorem dX12_emit_18 : decode cX12_emit 18 = .ok (.iload_n 2, 1) := by decide +kernel
theorem dX12_emit_19 : decode cX12_emit 19 = .ok (.iastore, 1) := by decide +kernel
theorem dX12_emit_20 : decode cX12_emit 20 = .ok (.aload_n 0, 1) := by decide +kernel
theorem dX12_emit_21 : decode cX12_emit 21 = .ok (.dup, 1) := by decide +kernel
theorem dX12_emit_22 : decode cX12_emit 22 = .ok (.getfield 233, 3) := by decide +kernel
theorem dX12_emit_25 : decode cX12_emit 25 = .ok (.iconst 1, 1) := by decide +kernel
theorem dX12_emit_26 : decode cX12_emit 26 = .ok (.iadd, 1) := by decide +kernel
theorem dX12_emit_27 : decode cX12_emit 27 = .ok (.putfield 233, 3) := by decide +kernel
theorem dX12_emit_30 : decode cX12_emit 30 = .ok (.return_, 1) := by decide +kernel
set_option maxHeartbeats 4000000 in
set_option maxRecDepth 100000 in
theorem S_X12_emit_236 {l : Launch} {D : va_G} {ids : List Nat} {ad : Nat → Nat} {ca : Nat → ClassId} {σ : HS} {x1 : Int32} {x2 : Int32} (hid : ∀ i, i < 277 → i ∈ ids) (hG : GIm σ) {s : HS} (hR : AGm s σ) (hx1 : 0 ≤ x1.toInt ∧ x1.toInt ≤ 5) (hp0 : (σ.1 236 19).toInt + (s.1 236 18).toInt = 1) (hp1 : 420 * (σ.1 236 19).toInt ≤ (σ.1 236 39).toInt) (hp2 : (σ.1 236 39).toInt ≤ 420 * (σ.1 236 19).toInt + 419) : Kv l D ids ad ca yX12_emit cX12_emit 3 0 0 [.ref (ad 236), .int x1, .int x2] σ (fun σ1 => (GIm σ1) ∧ (onm [261, 262, 1039] σ σ1) ∧ (AGm s σ1) ∧ ((σ1.1 236 39).toInt = (σ.1 236 39).toInt + 1) ∧ (∀ c : Nat, (c : Int) ≠ (σ.1 236 39).toInt → σ1.1 261 c = σ.1 261 c ∧ σ1.1 262 c = σ.1 262 c) ∧ (σ1.1 261 (σ.1 236 39).toInt.toNat = x1 ∧ σ1.1 262 (σ.1 236 39).toInt.toNat = x2)) := by
  refine Kv.of (by decide) (Nat.le_of_ble_eq_true rfl) 0 (fun Γ C Rt => ?_)
  show AW ids ad ca Γ 0 [some (.ref (ad 236)), some (.int x1), some (.int x2)] [] σ
  have gsd := bF_236_19 hG
  refine a_aload_n C dX12_emit_0 (i := 0) rfl rfl ?_
  refine a_get C fl_RX12_92 (i := 236) kd_236 (hid 236 (by decide)) (v := .ref (ad 261)) rfl dX12_emit_1 ?_
  refine a_aload_n C dX12_emit_4 (i := 0) rfl rfl ?_
  refine a_get C fl_RX12_233 (i := 236) kd_236 (hid 236 (by decide)) (v := .int (σ.1 236 39)) rfl dX12_emit_5 ?_
  refine a_iload_n C dX12_emit_8 (i := 1) rfl rfl ?_
  refine s_iast C (i := 261) kd_261 (hid 261 (by decide)) al_261 (by omega) (by omega) dX12_emit_9 (fun n1 h2 => ?_)
  have hG3 := wA_261 (v := x1) (j := n1) hG
  have g5 := bF_236_19 hG
  have g6 : ((hI σ 261 n1 x1).1 236 19).toInt = (σ.1 236 19).toInt := congrArg Int32.toInt rfl
  have hR4 := AGm.W (i := 261) (k := n1) (v := x1) hR (by decide) (by omega) (by omega) (by omega) (by omega) (by omega)
  refine a_aload_n C dX12_emit_10 (i := 0) rfl rfl ?_
  refine a_get C fl_RX12_95 (i := 236) kd_236 (hid 236 (by decide)) (v := .ref (ad 262)) rfl dX12_emit_11 ?_
  refine a_aload_n C dX12_emit_14 (i := 0) rfl rfl ?_
  refine a_get C fl_RX12_233 (i := 236) kd_236 (hid 236 (by decide)) (v := .int (σ.1 236 39)) rfl dX12_emit_15 ?_
  refine a_iload_n C dX12_emit_18 (i := 2) rfl rfl ?_
  refine s_iast C (i := 262) kd_262 (hid 262 (by decide)) al_262 (by omega) (by omega) dX12_emit_19 (fun n7 h8 => ?_)
  have hG9 := wA_262 (v := x2) (j := n7) hG3
  have g11 : ((hI (hI σ 261 n1 x1) 262 n7 x2).1 236 19).toInt = (σ.1 236 19).toInt := congrArg Int32.toInt rfl
  have hR10 := AGm.W (i := 262) (k := n7) (v := x2) hR4 (by decide) (by omega) (by omega) (by omega) (by omega) (by omega)
  refine a_aload_n C dX12_emit_20 (i := 0) rfl rfl ?_
  refine a_dup C dX12_emit_21 rfl ?_
  refine a_get C fl_RX12_233 (i := 236) kd_236 (hid 236 (by decide)) (v := .int (σ.1 236 39)) rfl dX12_emit_22 ?_
  refine s_iconst C dX12_emit_25 (1) (by decide) (fun z12 h13 => ?_)
  refine s_iadd C dX12_emit_26 (by omega) (fun z14 h15 => ?_)
  refine a_put C fp_RX12_233 (i := 236) kd_236 (hid 236 (by decide)) rfl rfl dX12_emit_27 ?_
  have hG16 := wF_236_39 (v := z14) hG9
  have hR17 := AGm.ony (σ1 := hI _ 236 39 z14) hR10 (onm.F (L := [1039]) onm.rf (by decide)) (by decide)
  exact a_vret Rt dX12_emit_30 (⟨hG16, (onm.F (onm.I (onm.I onm.rf (by decide)) (by decide)) (by decide)), hR17, (show z14.toInt = (σ.1 236 39).toInt + 1 by intros; omega), (fun c hc => ⟨(show (hI σ 261 n1 x1).1 261 c = σ.1 261 c from hI_n (show c ≠ n1 by omega)), (show (hI (hI σ 261 n1 x1) 262 n7 x2).1 262 c = (hI σ 261 n1 x1).1 262 c from hI_n (show c ≠ n7 by omega))⟩), (by rw [show (σ.1 236 39).toInt.toNat = n1 by omega]; exact ⟨(show (hI σ 261 n1 x1).1 261 n1 = x1 from hI_s), (show (hI (hI σ 261 n1 x1) 262 n7 x2).1 262 n1 = x2 from (by rw [show n1 = n7 by omega]; exact hI_s))⟩)⟩)
theorem dX12_ends_0 : decode cX12_ends 0 = .ok (.aload_n 0, 1) := by decide +kernel
theorem dX12_ends_1 : decode cX12_ends 1 = .ok (.iconst 4, 1) := by decide +kernel
theorem dX12_ends_2 : decode cX12_ends 2 = .ok (.invokevirtual 249, 3) := by decide +kernel
theorem dX12_ends_5 : decode cX12_ends 5 = .ok (.aload_n 0, 1) := by decide +kernel
theorem dX12_ends_6 : decode cX12_ends 6 = .ok (.getfield 191, 3) := by decide +kernel
theorem dX12_ends_9 : decode cX12_ends 9 = .ok (.ifCond .le 4, 3) := by decide +kernel
theorem dX12_ends_12 : decode cX12_ends 12 = .ok (.return_, 1) := by decide +kernel
theorem dX12_ends_13 : decode cX12_ends 13 = .ok (.aload_n 0, 1) := by decide +kernel
theorem dX12_ends_14 : decode cX12_ends 14 = .ok (.getfield 40, 3) := by decide +kernel
theorem dX12_ends_17 : decode cX12_ends 17 = .ok (.aload_n 0, 1) := by decide +kernel
theorem dX12_ends_18 : decode cX12_ends 18 = .ok (.getfield 227, 3) := by decide +kernel
theorem dX12_ends_21 : decode cX12_ends 21 = .ok (.aload_n 0, 1) := by decide +kernel
theorem dX12_ends_22 : decode cX12_ends 22 = .ok (.getfield 30, 3) := by decide +kernel
theorem dX12_ends_25 : decode cX12_ends 25 = .ok (.iload_n 1, 1) := by decide +kernel
theorem dX12_ends_26 : decode cX12_ends 26 = .ok (.laload, 1) := by decide +kernel
theorem dX12_ends_27 : decode cX12_ends 27 = .ok (.lastore, 1) := by decide +kernel
theorem dX12_ends_28 : decode cX12_ends 28 = .ok (.aload_n 0, 1) := by decide +kernel
theorem dX12_ends_29 : decode cX12_ends 29 = .ok (.dup, 1) := by decide +kernel
theorem dX12_ends_30 : decode cX12_ends 30 = .ok (.getfield 227, 3) := by decide +kernel
theorem dX12_ends_33 : decode cX12_ends 33 = .ok (.iconst 1, 1) := by decide +kernel
theorem dX12_ends_34 : decode cX12_ends 34 = .ok (.iadd, 1) := by decide +kernel
theorem dX12_ends_35 : decode cX12_ends 35 = .ok (.putfield 227, 3) := by decide +kernel
theorem dX12_ends_38 : decode cX12_ends 38 = .ok (.return_, 1) := by decide +kernel
set_option maxHeartbeats 4000000 in
set_option maxRecDepth 100000 in
theorem S_X12_ends_236 {l : Launch} {D : va_G} {ids : List Nat} {ad : Nat → Nat} {ca : Nat → ClassId} {σ : HS} {x1 : Int32} (hid : ∀ i, i < 277 → i ∈ ids) (hG : GIm σ) (hx1 : 0 ≤ x1.toInt ∧ x1.toInt ≤ 402) (hp0 : (σ.1 236 20).toInt ≤ 11) : Kv l D ids ad ca yX12_ends cX12_ends 2 3 62 [.ref (ad 236), .int x1] σ (fun σ1 => (GIm σ1) ∧ (onm [244, 1011, 1013, 1014, 1020] σ σ1) ∧ ((σ.1 236 11).toInt ≤ (σ1.1 236 11).toInt) ∧ (1 ≤ (σ.1 236 13).toInt → 1 ≤ (σ1.1 236 13).toInt) ∧ ((σ1.1 236 13).toInt = 0 → (σ.1 236 13).toInt = 0) ∧ ((σ1.1 236 13).toInt = 0 → (σ1.1 236 11).toInt = (σ.1 236 11).toInt + 1) ∧ ((σ1.1 236 13).toInt = 0 → (σ1.1 236 20).toInt = (σ.1 236 20).toInt + 1)) := by
  refine Kv.of (by decide) (Nat.le_of_ble_eq_true rfl) 0 (fun Γ C Rt => ?_)
  show AW ids ad ca Γ 0 [some (.ref (ad 236)), some (.int x1)] [] σ
  refine a_aload_n C dX12_ends_0 (i := 0) rfl rfl ?_
  refine s_iconst C dX12_ends_1 (4) (by decide) (fun z1 h2 => ?_)
  have g6 := bF_236_11 hG
  have g7 := bF_236_13 hG
  refine a_callVv C (i := 236) kd_236 (hid 236 (by decide)) ⟨_, _, rfl⟩ (by decide) (S_X12_must_236 (x1 := z1) hid hG) mi_X12_must ml_RX12_249 rfl rfl (Nat.le_of_ble_eq_true rfl) (Nat.le_of_ble_eq_true rfl) (Nat.le_of_ble_eq_true rfl) dX12_ends_2 (fun σ4 q5 => ?_)
  obtain ⟨hG8, ho9, w11, w12, w13, w14, w15⟩ := q5
  refine a_aload_n C dX12_ends_5 (i := 0) rfl rfl ?_
  have g16 := bF_236_13 hG8
  refine a_get C fl_RX12_191 (i := 236) kd_236 (hid 236 (by decide)) (v := .int (σ4.1 236 13)) rfl dX12_ends_6 ?_
  refine s_if_le C dX12_ends_9 (tgt := 13) rfl (fun c17 => ?_) (fun c17 => ?_)
  ·
    refine a_aload_n C dX12_ends_13 (i := 0) rfl rfl ?_
    refine a_get C fl_RX12_40 (i := 236) kd_236 (hid 236 (by decide)) (v := .ref (ad 244)) rfl dX12_ends_14 ?_
    refine a_aload_n C dX12_ends_17 (i := 0) rfl rfl ?_
    have g18 := bF_236_20 hG8
    have g19 := bF_236_20 hG
    have g20 : (σ4.1 236 20).toInt = (σ.1 236 20).toInt := congrArg Int32.toInt (ho9.1 236 20 (by decide))
    refine a_get C fl_RX12_227 (i := 236) kd_236 (hid 236 (by decide)) (v := .int (σ4.1 236 20)) rfl dX12_ends_18 ?_
    refine a_aload_n C dX12_ends_21 (i := 0) rfl rfl ?_
    refine a_get C fl_RX12_30 (i := 236) kd_236 (hid 236 (by decide)) (v := .ref (ad 242)) rfl dX12_ends_22 ?_
    refine a_iload_n C dX12_ends_25 (i := 1) rfl rfl ?_
    refine s_lald C (i := 242) kd_242 (hid 242 (by decide)) al_242 (by omega) (by omega) dX12_ends_26 (fun n21 h22 => ?_)
    refine s_last C (i := 244) kd_244 (hid 244 (by decide)) al_244 (by omega) (by omega) dX12_ends_27 (fun n23 h24 => ?_)
    have hG25 := GIm.L (i := 244) (k := n23) (v := (σ4.2.1 242 n21)) hG8 (by decide)
    refine a_aload_n C dX12_ends_28 (i := 0) rfl rfl ?_
    refine a_dup C dX12_ends_29 rfl ?_
    refine a_get C fl_RX12_227 (i := 236) kd_236 (hid 236 (by decide)) (v := .int (σ4.1 236 20)) rfl dX12_ends_30 ?_
    refine s_iconst C dX12_ends_33 (1) (by decide) (fun z26 h27 => ?_)
    refine s_iadd C dX12_ends_34 (by omega) (fun z28 h29 => ?_)
    refine a_put C fp_RX12_227 (i := 236) kd_236 (hid 236 (by decide)) rfl rfl dX12_ends_35 ?_
    have hG30 := wF_236_20 (v := z28) hG25 (by omega) (by omega)
    have g31 := bF_236_11 hG8
    exact a_vret Rt dX12_ends_38 (⟨hG30, (onm.F (onm.L (onm.tr onm.rf (onm.mono ho9 (by decide))) (by decide)) (by decide)), (show (σ.1 236 11).toInt ≤ (σ4.1 236 11).toInt by intros; omega), (show 1 ≤ (σ.1 236 13).toInt → 1 ≤ (σ4.1 236 13).toInt by intros; omega), (show (σ4.1 236 13).toInt = 0 → (σ.1 236 13).toInt = 0 by intros; omega), (show (σ4.1 236 13).toInt = 0 → (σ4.1 236 11).toInt = (σ.1 236 11).toInt + 1 by intros; omega), (show (σ4.1 236 13).toInt = 0 → z28.toInt = (σ.1 236 20).toInt + 1 by intros; omega)⟩)
  ·
    have g32 := bF_236_11 hG8
    have g33 := bF_236_20 hG8
    have g34 := bF_236_20 hG
    have g35 : (σ4.1 236 20).toInt = (σ.1 236 20).toInt := congrArg Int32.toInt (ho9.1 236 20 (by decide))
    exact a_vret Rt dX12_ends_12 (⟨hG8, (onm.tr onm.rf (onm.mono ho9 (by decide))), (show (σ.1 236 11).toInt ≤ (σ4.1 236 11).toInt by intros; omega), (show 1 ≤ (σ.1 236 13).toInt → 1 ≤ (σ4.1 236 13).toInt by intros; omega), (show (σ4.1 236 13).toInt = 0 → (σ.1 236 13).toInt = 0 by intros; omega), (show (σ4.1 236 13).toInt = 0 → (σ4.1 236 11).toInt = (σ.1 236 11).toInt + 1 by intros; omega), (show (σ4.1 236 13).toInt = 0 → (σ4.1 236 20).toInt = (σ.1 236 20).toInt + 1 by intros; omega)⟩)
theorem dX12_tellThing_0 : decode cX12_tellThing 0 = .ok (.bipush 7, 2) := by decide +kernel
theorem dX12_tellThing_2 : decode cX12_tellThing 2 = .ok (.aload_n 0, 1) := by decide +kernel
theorem dX12_tellThing_3 : decode cX12_tellThing 3 = .ok (.getfield 224, 3) := by decide +kernel
theorem dX12_tellThing_6 : decode cX12_tellThing 6 = .ok (.imul, 1) := by decide +kernel
theorem dX12_tellThing_7 : decode cX12_tellThing 7 = .ok (.aload_n 0, 1) := by decide +kernel
theorem dX12_tellThing_8 : decode cX12_tellThing 8 = .ok (.getfield 43, 3) := by decide +kernel
theorem dX12_tellThing_11 : decode cX12_tellThing 11 = .ok (.aload_n 0, 1) := by decide +kernel
theorem dX12_tellThing_12 : decode cX12_tellThing 12 = .ok (.getfield 224, 3) := by decide +kernel
theorem dX12_tellThing_15 : decode cX12_tellThing 15 = .ok (.iaload, 1) := by decide +kernel
theorem dX12_tellThing_16 : decode cX12_tellThing 16 = .ok (.iadd, 1) := by decide +kernel
theorem dX12_tellThing_17 : decode cX12_tellThing 17 = .ok (.istore_n 1, 1) := by decide +kernel
theorem dX12_tellThing_18 : decode cX12_tellThing 18 = .ok (.aload_n 0, 1) := by decide +kernel
theorem dX12_tellThing_19 : decode cX12_tellThing 19 = .ok (.invokevirtual 271, 3) := by decide +kernel
theorem dX12_tellThing_22 : decode cX12_tellThing 22 = .ok (.istore_n 2, 1) := by decide +kernel
theorem dX12_tellThing_23 : decode cX12_tellThing 23 = .ok (.aload_n 0, 1) := by decide +kernel
theorem dX12_tellThing_24 : decode cX12_tellThing 24 = .ok (.getfield 46, 3) := by decide +kernel
theorem dX12_tellThing_27 : decode cX12_tellThing 27 = .ok (.iload_n 1, 1) := by decide +kernel
theorem dX12_tellThing_28 : decode cX12_tellThing 28 = .ok (.aload_n 0, 1) := by decide +kernel
theorem dX12_tellThing_29 : decode cX12_tellThing 29 = .ok (.iconst 1, 1) := by decide +kernel
theorem dX12_tellThing_30 : decode cX12_tellThing 30 = .ok (.bipush 9, 2) := by decide +kernel
theorem dX12_tellThing_32 : decode cX12_tellThing 32 = .ok (.invokevirtual 245, 3) := by decide +kernel
theorem dX12_tellThing_35 : decode cX12_tellThing 35 = .ok (.iastore, 1) := by decide +kernel
theorem dX12_tellThing_36 : decode cX12_tellThing 36 = .ok (.aload_n 0, 1) := by decide +kernel
theorem dX12_tellThing_37 : decode cX12_tellThing 37 = .ok (.getfield 49, 3) := by decide +kernel
theorem dX12_tellThing_40 : decode cX12_tellThing 40 = .ok (.iload_n 1, 1) := by decide +kernel
theorem dX12_tellThing_41 : decode cX12_tellThing 41 = .ok (.aload_n 0, 1) := by decide +kernel
theorem dX12_tellThing_42 : decode cX12_tellThing 42 = .ok (.iconst 0, 1) := by decide +kernel
theorem dX12_tellThing_43 : decode cX12_tellThing 43 = .ok (.bipush 9, 2) := by decide +kernel
theorem dX12_tellThing_45 : decode cX12_tellThing 45 = .ok (.invokevirtual 245, 3) := by decide +kernel
theorem dX12_tellThing_48 : decode cX12_tellThing 48 = .ok (.iastore, 1) := by decide +kernel
theorem dX12_tellThing_49 : decode cX12_tellThing 49 = .ok (.aload_n 0, 1) := by decide +kernel
theorem dX12_tellThing_50 : decode cX12_tellThing 50 = .ok (.getfield 52, 3) := by decide +kernel
theorem dX12_tellThing_53 : decode cX12_tellThing 53 = .ok (.iload_n 1, 1) := by decide +kernel
theorem dX12_tellThing_54 : decode cX12_tellThing 54 = .ok (.aload_n 0, 1) := by decide +kernel
theorem dX12_tellThing_55 : decode cX12_tellThing 55 = .ok (.iconst 0, 1) := by decide +kernel
theorem dX12_tellThing_56 : decode cX12_tellThing 56 = .ok (.bipush 9, 2) := by decide +kernel
theorem dX12_tellThing_58 : decode cX12_tellThing 58 = .ok (.invokevirtual 245, 3) := by decide +kernel
theorem dX12_tellThing_61 : decode cX12_tellThing 61 = .ok (.iastore, 1) := by decide +kernel
theorem dX12_tellThing_62 : decode cX12_tellThing 62 = .ok (.aload_n 0, 1) := by decide +kernel
theorem dX12_tellThing_63 : decode cX12_tellThing 63 = .ok (.iload_n 2, 1) := by decide +kernel
theorem dX12_tellThing_64 : decode cX12_tellThing 64 = .ok (.invokevirtual 275, 3) := by decide +kernel
theorem dX12_tellThing_67 : decode cX12_tellThing 67 = .ok (.aload_n 0, 1) := by decide +kernel
theorem dX12_tellThing_68 : decode cX12_tellThing 68 = .ok (.getfield 191, 3) := by decide +kernel
theorem dX12_tellThing_71 : decode cX12_tellThing 71 = .ok (.ifCond .ne 16, 3) := by decide +kernel
theorem dX12_tellThing_74 : decode cX12_tellThing 74 = .ok (.aload_n 0, 1) := by decide +kernel
theorem dX12_tellThing_75 : decode cX12_tellThing 75 = .ok (.getfield 43, 3) := by decide +kernel
theorem dX12_tellThing_78 : decode cX12_tellThing 78 = .ok (.aload_n 0, 1) := by decide +kernel
theorem dX12_tellThing_79 : decode cX12_tellThing 79 = .ok (.getfield 224, 3) := by decide +kernel
theorem dX12_tellThing_82 : decode cX12_tellThing 82 = .ok (.dup2, 1) := by decide +kernel
theorem dX12_tellThing_83 : decode cX12_tellThing 83 = .ok (.iaload, 1) := by decide +kernel
theorem dX12_tellThing_84 : decode cX12_tellThing 84 = .ok (.iconst 1, 1) := by decide +kernel
theorem dX12_tellThing_85 : decode cX12_tellThing 85 = .ok (.iadd, 1) := by decide +kernel
theorem dX12_tellThing_86 : decode cX12_tellThing 86 = .ok (.iastore, 1) := by decide +kernel
theorem dX12_tellThing_87 : decode cX12_tellThing 87 = .ok (.return_, 1) := by decide +kernel
set_option maxHeartbeats 4000000 in
set_option maxRecDepth 100000 in
theorem S_X12_tellThing_236 {l : Launch} {D : va_G} {ids : List Nat} {ad : Nat → Nat} {ca : Nat → ClassId} {σ : HS} (hid : ∀ i, i < 277 → i ∈ ids) (hG : GIm σ) (hp0 : (σ.1 245 (σ.1 236 19).toInt.toNat).toInt ≤ 6) (hp1 : (σ.1 236 20).toInt ≤ 11) : Kv l D ids ad ca yX12_tellThing cX12_tellThing 3 4 84 [.ref (ad 236)] σ (fun σ1 => (GIm σ1) ∧ (onm [244, 245, 246, 247, 248, 1011, 1013, 1014, 1015, 1016, 1020] σ σ1) ∧ ((σ.1 236 11).toInt ≤ (σ1.1 236 11).toInt) ∧ (1 ≤ (σ.1 236 13).toInt → 1 ≤ (σ1.1 236 13).toInt) ∧ ((σ1.1 236 13).toInt = 0 → (σ.1 236 11).toInt + 5 ≤ (σ1.1 236 11).toInt) ∧ ((σ1.1 236 13).toInt = 0 → (σ1.1 236 20).toInt = (σ.1 236 20).toInt + 1) ∧ ((σ1.1 236 13).toInt = 0 → (σ1.1 245 (σ.1 236 19).toInt.toNat).toInt = (σ.1 245 (σ.1 236 19).toInt.toNat).toInt + 1)) := by
  refine Kv.of (by decide) (Nat.le_of_ble_eq_true rfl) 2 (fun Γ C Rt => ?_)
  show AW ids ad ca Γ 0 [some (.ref (ad 236)), none, none] [] σ
  refine s_bipush C dX12_tellThing_0 (7) (by decide) (fun z1 h2 => ?_)
  refine a_aload_n C dX12_tellThing_2 (i := 0) rfl rfl ?_
  have g3 := bF_236_19 hG
  refine a_get C fl_RX12_224 (i := 236) kd_236 (hid 236 (by decide)) (v := .int (σ.1 236 19)) rfl dX12_tellThing_3 ?_
  refine s_imuld C dX12_tellThing_6 (7) (by omega) (by omega) (fun z4 h5 => ?_)
  refine a_aload_n C dX12_tellThing_7 (i := 0) rfl rfl ?_
  refine a_get C fl_RX12_43 (i := 236) kd_236 (hid 236 (by decide)) (v := .ref (ad 245)) rfl dX12_tellThing_8 ?_
  refine a_aload_n C dX12_tellThing_11 (i := 0) rfl rfl ?_
  refine a_get C fl_RX12_224 (i := 236) kd_236 (hid 236 (by decide)) (v := .int (σ.1 236 19)) rfl dX12_tellThing_12 ?_
  refine s_iald C (i := 245) kd_245 (hid 245 (by decide)) al_245 (by omega) (by omega) dX12_tellThing_15 (fun n6 h7 => ?_)
  refine s_val (fun z8 e9 => ?_)
  have g10 := bA_245 hG n6
  rw [e9] at g10
  have gt15 : (σ.1 245 (σ.1 236 19).toInt.toNat).toInt = z8.toInt := congrArg Int32.toInt (by rw [show (σ.1 236 19).toInt.toNat = n6 by omega, ← congrFun (rfl : σ.1 245 = σ.1 245) n6]; exact e9)
  refine s_iadd C dX12_tellThing_16 (by omega) (fun z11 h12 => ?_)
  refine a_istore_n C dX12_tellThing_17 (i := 1) rfl (by decide) rfl (vs1 := [some (.ref (ad 236)), some (.int z11), none]) rfl ?_
  refine a_aload_n C dX12_tellThing_18 (i := 0) rfl rfl ?_
  have g16 := bF_236_11 hG
  have g17 := bF_236_13 hG
  refine a_callVi C (i := 236) kd_236 (hid 236 (by decide)) ⟨_, _, rfl⟩ (by decide) (S_X12_named_236 hid hG) mi_X12_named ml_RX12_271 rfl rfl (Nat.le_of_ble_eq_true rfl) (Nat.le_of_ble_eq_true rfl) (Nat.le_of_ble_eq_true rfl) dX12_tellThing_19 (fun z13 σ14 q15 => ?_)
  obtain ⟨hG18, ho19, w21, w22, w23, w24, w25, w26⟩ := q15
  refine a_istore_n C dX12_tellThing_22 (i := 2) rfl (by decide) rfl (vs1 := [some (.ref (ad 236)), some (.int z11), some (.int z13)]) rfl ?_
  refine a_aload_n C dX12_tellThing_23 (i := 0) rfl rfl ?_
  refine a_get C fl_RX12_46 (i := 236) kd_236 (hid 236 (by decide)) (v := .ref (ad 246)) rfl dX12_tellThing_24 ?_
  refine a_iload_n C dX12_tellThing_27 (i := 1) rfl rfl ?_
  refine a_aload_n C dX12_tellThing_28 (i := 0) rfl rfl ?_
  refine s_iconst C dX12_tellThing_29 (1) (by decide) (fun z27 h28 => ?_)
  refine s_bipush C dX12_tellThing_30 (9) (by decide) (fun z29 h30 => ?_)
  have g34 := bF_236_11 hG18
  have g35 := bF_236_13 hG18
  refine a_callVi C (i := 236) kd_236 (hid 236 (by decide)) ⟨_, _, rfl⟩ (by decide) (S_X12_bounded_236 (x1 := z27) (x2 := z29) hid hG18 (by omega)) mi_X12_bounded ml_RX12_245 rfl rfl (Nat.le_of_ble_eq_true rfl) (Nat.le_of_ble_eq_true rfl) (Nat.le_of_ble_eq_true rfl) dX12_tellThing_32 (fun z31 σ32 q33 => ?_)
  obtain ⟨hG36, ho37, w39, w40, w41, w42, w43, w44⟩ := q33
  refine s_iast C (i := 246) kd_246 (hid 246 (by decide)) al_246 (by omega) (by omega) dX12_tellThing_35 (fun n45 h46 => ?_)
  have hG47 := wA_246 (v := z31) (j := n45) hG36
  refine a_aload_n C dX12_tellThing_36 (i := 0) rfl rfl ?_
  refine a_get C fl_RX12_49 (i := 236) kd_236 (hid 236 (by decide)) (v := .ref (ad 247)) rfl dX12_tellThing_37 ?_
  refine a_iload_n C dX12_tellThing_40 (i := 1) rfl rfl ?_
  refine a_aload_n C dX12_tellThing_41 (i := 0) rfl rfl ?_
  refine s_iconst C dX12_tellThing_42 (0) (by decide) (fun z48 h49 => ?_)
  refine s_bipush C dX12_tellThing_43 (9) (by decide) (fun z50 h51 => ?_)
  have g55 := bF_236_11 hG36
  have g56 : ((hI σ32 246 n45 z31).1 236 11).toInt = (σ32.1 236 11).toInt := congrArg Int32.toInt rfl
  have g57 : ((hI σ32 246 n45 z31).1 236 11).toInt = (σ32.1 236 11).toInt := congrArg Int32.toInt rfl
  have g58 := bF_236_13 hG36
  have g59 : ((hI σ32 246 n45 z31).1 236 13).toInt = (σ32.1 236 13).toInt := congrArg Int32.toInt rfl
  have g60 : ((hI σ32 246 n45 z31).1 236 11).toInt = (σ32.1 236 11).toInt := congrArg Int32.toInt rfl
  have g61 : ((hI σ32 246 n45 z31).1 236 13).toInt = (σ32.1 236 13).toInt := congrArg Int32.toInt rfl
  refine a_callVi C (i := 236) kd_236 (hid 236 (by decide)) ⟨_, _, rfl⟩ (by decide) (S_X12_bounded_236 (x1 := z48) (x2 := z50) hid hG47 (by omega)) mi_X12_bounded ml_RX12_245 rfl rfl (Nat.le_of_ble_eq_true rfl) (Nat.le_of_ble_eq_true rfl) (Nat.le_of_ble_eq_true rfl) dX12_tellThing_45 (fun z52 σ53 q54 => ?_)
  obtain ⟨hG62, ho63, w65, w66, w67, w68, w69, w70⟩ := q54
  refine s_iast C (i := 247) kd_247 (hid 247 (by decide)) al_247 (by omega) (by omega) dX12_tellThing_48 (fun n71 h72 => ?_)
  have hG73 := wA_247 (v := z52) (j := n71) hG62
  refine a_aload_n C dX12_tellThing_49 (i := 0) rfl rfl ?_
  refine a_get C fl_RX12_52 (i := 236) kd_236 (hid 236 (by decide)) (v := .ref (ad 248)) rfl dX12_tellThing_50 ?_
  refine a_iload_n C dX12_tellThing_53 (i := 1) rfl rfl ?_
  refine a_aload_n C dX12_tellThing_54 (i := 0) rfl rfl ?_
  refine s_iconst C dX12_tellThing_55 (0) (by decide) (fun z74 h75 => ?_)
  refine s_bipush C dX12_tellThing_56 (9) (by decide) (fun z76 h77 => ?_)
  have g81 := bF_236_11 hG62
  have g82 : ((hI σ53 247 n71 z52).1 236 11).toInt = (σ53.1 236 11).toInt := congrArg Int32.toInt rfl
  have g83 : ((hI σ53 247 n71 z52).1 236 11).toInt = (σ53.1 236 11).toInt := congrArg Int32.toInt rfl
  have g84 := bF_236_13 hG62
  have g85 : ((hI σ53 247 n71 z52).1 236 13).toInt = (σ53.1 236 13).toInt := congrArg Int32.toInt rfl
  have g86 : ((hI σ53 247 n71 z52).1 236 11).toInt = (σ53.1 236 11).toInt := congrArg Int32.toInt rfl
  have g87 : ((hI σ53 247 n71 z52).1 236 13).toInt = (σ53.1 236 13).toInt := congrArg Int32.toInt rfl
  refine a_callVi C (i := 236) kd_236 (hid 236 (by decide)) ⟨_, _, rfl⟩ (by decide) (S_X12_bounded_236 (x1 := z74) (x2 := z76) hid hG73 (by omega)) mi_X12_bounded ml_RX12_245 rfl rfl (Nat.le_of_ble_eq_true rfl) (Nat.le_of_ble_eq_true rfl) (Nat.le_of_ble_eq_true rfl) dX12_tellThing_58 (fun z78 σ79 q80 => ?_)
  obtain ⟨hG88, ho89, w91, w92, w93, w94, w95, w96⟩ := q80
  refine s_iast C (i := 248) kd_248 (hid 248 (by decide)) al_248 (by omega) (by omega) dX12_tellThing_61 (fun n97 h98 => ?_)
  have hG99 := wA_248 (v := z78) (j := n97) hG88
  refine a_aload_n C dX12_tellThing_62 (i := 0) rfl rfl ?_
  refine a_iload_n C dX12_tellThing_63 (i := 2) rfl rfl ?_
  have g103 := bF_236_20 hG88
  have g104 := bF_236_20 hG62
  have g105 := bF_236_20 hG36
  have g106 := bF_236_20 hG18
  have g107 := bF_236_20 hG
  have g108 : (σ14.1 236 20).toInt = (σ.1 236 20).toInt := congrArg Int32.toInt (ho19.1 236 20 (by decide))
  have g109 : (σ32.1 236 20).toInt = (σ14.1 236 20).toInt := congrArg Int32.toInt (ho37.1 236 20 (by decide))
  have g110 : (σ53.1 236 20).toInt = (σ32.1 236 20).toInt := congrArg Int32.toInt (ho63.1 236 20 (by decide))
  have g111 : (σ79.1 236 20).toInt = (σ53.1 236 20).toInt := congrArg Int32.toInt (ho89.1 236 20 (by decide))
  have g112 : ((hI σ79 248 n97 z78).1 236 20).toInt = (σ79.1 236 20).toInt := congrArg Int32.toInt rfl
  have g113 := bF_236_11 hG88
  have g114 : ((hI σ79 248 n97 z78).1 236 11).toInt = (σ79.1 236 11).toInt := congrArg Int32.toInt rfl
  have g115 := bF_236_13 hG88
  have g116 : ((hI σ79 248 n97 z78).1 236 13).toInt = (σ79.1 236 13).toInt := congrArg Int32.toInt rfl
  have g117 : ((hI σ79 248 n97 z78).1 236 13).toInt = (σ79.1 236 13).toInt := congrArg Int32.toInt rfl
  have g118 : ((hI σ79 248 n97 z78).1 236 11).toInt = (σ79.1 236 11).toInt := congrArg Int32.toInt rfl
  have g119 : ((hI σ79 248 n97 z78).1 236 20).toInt = (σ79.1 236 20).toInt := congrArg Int32.toInt rfl
  refine a_callVv C (i := 236) kd_236 (hid 236 (by decide)) ⟨_, _, rfl⟩ (by decide) (S_X12_ends_236 (x1 := z13) hid hG99 (by omega) (by omega)) mi_X12_ends ml_RX12_275 rfl rfl (Nat.le_of_ble_eq_true rfl) (Nat.le_of_ble_eq_true rfl) (Nat.le_of_ble_eq_true rfl) dX12_tellThing_64 (fun σ101 q102 => ?_)
  obtain ⟨hG120, ho121, w123, w124, w125, w126, w127⟩ := q102
  refine a_aload_n C dX12_tellThing_67 (i := 0) rfl rfl ?_
  have g128 := bF_236_13 hG120
  refine a_get C fl_RX12_191 (i := 236) kd_236 (hid 236 (by decide)) (v := .int (σ101.1 236 13)) rfl dX12_tellThing_68 ?_
  refine s_if_ne C dX12_tellThing_71 (tgt := 87) rfl (fun c129 => ?_) (fun c129 => ?_)
  ·
    have g130 := bF_236_11 hG120
    have g131 := bF_236_20 hG120
    exact a_vret Rt dX12_tellThing_87 (⟨hG120, (onm.tr (onm.I (onm.tr (onm.I (onm.tr (onm.I (onm.tr (onm.tr onm.rf (onm.mono ho19 (by decide))) (onm.mono ho37 (by decide))) (by decide)) (onm.mono ho63 (by decide))) (by decide)) (onm.mono ho89 (by decide))) (by decide)) (onm.mono ho121 (by decide))), (show (σ.1 236 11).toInt ≤ (σ101.1 236 11).toInt by intros; omega), (show 1 ≤ (σ.1 236 13).toInt → 1 ≤ (σ101.1 236 13).toInt by intros; omega), (show (σ101.1 236 13).toInt = 0 → (σ.1 236 11).toInt + 5 ≤ (σ101.1 236 11).toInt by intros; omega), (show (σ101.1 236 13).toInt = 0 → (σ101.1 236 20).toInt = (σ.1 236 20).toInt + 1 by intros; omega), (fun h9 => absurd h9 (by omega))⟩)
  ·
    refine a_aload_n C dX12_tellThing_74 (i := 0) rfl rfl ?_
    refine a_get C fl_RX12_43 (i := 236) kd_236 (hid 236 (by decide)) (v := .ref (ad 245)) rfl dX12_tellThing_75 ?_
    refine a_aload_n C dX12_tellThing_78 (i := 0) rfl rfl ?_
    have g132 := bF_236_19 hG120
    have g133 := bF_236_19 hG88
    have g134 := bF_236_19 hG62
    have g135 := bF_236_19 hG36
    have g136 := bF_236_19 hG18
    have g137 : (σ14.1 236 19).toInt = (σ.1 236 19).toInt := congrArg Int32.toInt (ho19.1 236 19 (by decide))
    have g138 : (σ32.1 236 19).toInt = (σ14.1 236 19).toInt := congrArg Int32.toInt (ho37.1 236 19 (by decide))
    have g139 : (σ53.1 236 19).toInt = (σ32.1 236 19).toInt := congrArg Int32.toInt (ho63.1 236 19 (by decide))
    have g140 : (σ79.1 236 19).toInt = (σ53.1 236 19).toInt := congrArg Int32.toInt (ho89.1 236 19 (by decide))
    have g141 : (σ101.1 236 19).toInt = (σ79.1 236 19).toInt := congrArg Int32.toInt (ho121.1 236 19 (by decide))
    refine a_get C fl_RX12_224 (i := 236) kd_236 (hid 236 (by decide)) (v := .int (σ101.1 236 19)) rfl dX12_tellThing_79 ?_
    refine a_dup2 C dX12_tellThing_82 rfl rfl ?_
    refine s_iald C (i := 245) kd_245 (hid 245 (by decide)) al_245 (by omega) (by omega) dX12_tellThing_83 (fun n142 h143 => ?_)
    refine s_val (fun z144 e145 => ?_)
    have g146 := bA_245 hG120 n142
    rw [e145] at g146
    have gt83 : (σ.1 245 (σ.1 236 19).toInt.toNat).toInt = z144.toInt := congrArg Int32.toInt (by rw [show (σ.1 236 19).toInt.toNat = n142 by omega, ← congrFun (show σ101.1 245 = σ.1 245 from ((ho121.a (i := 245) (by decide)).trans ((ho89.a (i := 245) (by decide)).trans ((ho63.a (i := 245) (by decide)).trans ((ho37.a (i := 245) (by decide)).trans (ho19.a (i := 245) (by decide))))))) n142]; exact e145)
    refine s_iconst C dX12_tellThing_84 (1) (by decide) (fun z147 h148 => ?_)
    refine s_iadd C dX12_tellThing_85 (by omega) (fun z149 h150 => ?_)
    refine s_iast C (i := 245) kd_245 (hid 245 (by decide)) al_245 (by omega) (by omega) dX12_tellThing_86 (fun n151 h152 => ?_)
    have hG153 := wA_245 (v := z149) (j := n151) hG120 (by omega) (by omega)
    have g154 := bF_236_11 hG120
    have g155 := bF_236_20 hG120
    exact a_vret Rt dX12_tellThing_87 (⟨hG153, (onm.I (onm.tr (onm.I (onm.tr (onm.I (onm.tr (onm.I (onm.tr (onm.tr onm.rf (onm.mono ho19 (by decide))) (onm.mono ho37 (by decide))) (by decide)) (onm.mono ho63 (by decide))) (by decide)) (onm.mono ho89 (by decide))) (by decide)) (onm.mono ho121 (by decide))) (by decide)), (show (σ.1 236 11).toInt ≤ (σ101.1 236 11).toInt by intros; omega), (show 1 ≤ (σ.1 236 13).toInt → 1 ≤ (σ101.1 236 13).toInt by intros; omega), (show (σ101.1 236 13).toInt = 0 → (σ.1 236 11).toInt + 5 ≤ (σ101.1 236 11).toInt by intros; omega), (show (σ101.1 236 13).toInt = 0 → (σ101.1 236 20).toInt = (σ.1 236 20).toInt + 1 by intros; omega), (fun _ => by have e9 := gt83; rw [show (σ.1 236 19).toInt.toNat = n151 by omega] at e9 ⊢; show ((hI σ101 245 n151 z149).1 245 n151).toInt = _; rw [hI_s]; omega)⟩)
theorem dX12_unit_0 : decode cX12_unit 0 = .ok (.aload_n 0, 1) := by decide +kernel
theorem dX12_unit_1 : decode cX12_unit 1 = .ok (.iconst 2, 1) := by decide +kernel
theorem dX12_unit_2 : decode cX12_unit 2 = .ok (.invokevirtual 209, 3) := by decide +kernel
theorem dX12_unit_5 : decode cX12_unit 5 = .ok (.ifCond .eq 24, 3) := by decide +kernel
theorem dX12_unit_8 : decode cX12_unit 8 = .ok (.aload_n 0, 1) := by decide +kernel
theorem dX12_unit_9 : decode cX12_unit 9 = .ok (.iconst 0, 1) := by decide +kernel
theorem dX12_unit_10 : decode cX12_unit 10 = .ok (.aload_n 0, 1) := by decide +kernel
theorem dX12_unit_11 : decode cX12_unit 11 = .ok (.getfield 27, 3) := by decide +kernel
theorem dX12_unit_14 : decode cX12_unit 14 = .ok (.aload_n 0, 1) := by decide +kernel
theorem dX12_unit_15 : decode cX12_unit 15 = .ok (.getfield 194, 3) := by decide +kernel
theorem dX12_unit_18 : decode cX12_unit 18 = .ok (.iaload, 1) := by decide +kernel
theorem dX12_unit_19 : decode cX12_unit 19 = .ok (.invokevirtual 287, 3) := by decide +kernel
theorem dX12_unit_22 : decode cX12_unit 22 = .ok (.aload_n 0, 1) := by decide +kernel
theorem dX12_unit_23 : decode cX12_unit 23 = .ok (.invokevirtual 212, 3) := by decide +kernel
theorem dX12_unit_26 : decode cX12_unit 26 = .ok (.goto 67, 3) := by decide +kernel
theorem dX12_unit_29 : decode cX12_unit 29 = .ok (.aload_n 0, 1) := by decide +kernel
theorem dX12_unit_30 : decode cX12_unit 30 = .ok (.getfield 191, 3) := by decide +kernel
theorem dX12_unit_33 : decode cX12_unit 33 = .ok (.ifCond .ne 55, 3) := by decide +kernel
theorem dX12_unit_36 : decode cX12_unit 36 = .ok (.aload_n 0, 1) := by decide +kernel
theorem dX12_unit_37 : decode cX12_unit 37 = .ok (.getfield 20, 3) := by decide +kernel
theorem dX12_unit_40 : decode cX12_unit 40 = .ok (.aload_n 0, 1) := by decide +kernel
theorem dX12_unit_41 : decode cX12_unit 41 = .ok (.getfield 194, 3) := by decide +kernel
theorem dX12_unit_44 : decode cX12_unit 44 = .ok (.iaload, 1) := by decide +kernel
theorem dX12_unit_45 : decode cX12_unit 45 = .ok (.bipush 31, 2) := by decide +kernel
theorem dX12_unit_47 : decode cX12_unit 47 = .ok (.if_icmp .lt 41, 3) := by decide +kernel
theorem dX12_unit_50 : decode cX12_unit 50 = .ok (.aload_n 0, 1) := by decide +kernel
theorem dX12_unit_51 : decode cX12_unit 51 = .ok (.getfield 20, 3) := by decide +kernel
theorem dX12_unit_54 : decode cX12_unit 54 = .ok (.aload_n 0, 1) := by decide +kernel
theorem dX12_unit_55 : decode cX12_unit 55 = .ok (.getfield 194, 3) := by decide +kernel
theorem dX12_unit_58 : decode cX12_unit 58 = .ok (.iaload, 1) := by decide +kernel
theorem dX12_unit_59 : decode cX12_unit 59 = .ok (.bipush 39, 2) := by decide +kernel
theorem dX12_unit_61 : decode cX12_unit 61 = .ok (.if_icmp .gt 27, 3) := by decide +kernel
theorem dX12_unit_64 : decode cX12_unit 64 = .ok (.aload_n 0, 1) := by decide +kernel
theorem dX12_unit_65 : decode cX12_unit 65 = .ok (.iconst 1, 1) := by decide +kernel
theorem dX12_unit_66 : decode cX12_unit 66 = .ok (.aload_n 0, 1) := by decide +kernel
theorem dX12_unit_67 : decode cX12_unit 67 = .ok (.getfield 20, 3) := by decide +kernel
theorem dX12_unit_70 : decode cX12_unit 70 = .ok (.aload_n 0, 1) := by decide +kernel
theorem dX12_unit_71 : decode cX12_unit 71 = .ok (.getfield 194, 3) := by decide +kernel
theorem dX12_unit_74 : decode cX12_unit 74 = .ok (.iaload, 1) := by decide +kernel
theorem dX12_unit_75 : decode cX12_unit 75 = .ok (.bipush 31, 2) := by decide +kernel
theorem dX12_unit_77 : decode cX12_unit 77 = .ok (.isub, 1) := by decide +kernel
theorem dX12_unit_78 : decode cX12_unit 78 = .ok (.invokevirtual 287, 3) := by decide +kernel
theorem dX12_unit_81 : decode cX12_unit 81 = .ok (.aload_n 0, 1) := by decide +kernel
theorem dX12_unit_82 : decode cX12_unit 82 = .ok (.invokevirtual 212, 3) := by decide +kernel
theorem dX12_unit_85 : decode cX12_unit 85 = .ok (.goto 8, 3) := by decide +kernel
theorem dX12_unit_88 : decode cX12_unit 88 = .ok (.aload_n 0, 1) := by decide +kernel
theorem dX12_unit_89 : decode cX12_unit 89 = .ok (.iconst 1, 1) := by decide +kernel
theorem dX12_unit_90 : decode cX12_unit 90 = .ok (.invokevirtual 206, 3) := by decide +kernel
theorem dX12_unit_93 : decode cX12_unit 93 = .ok (.return_, 1) := by decide +kernel
set_option maxHeartbeats 4000000 in
set_option maxRecDepth 100000 in
theorem S_X12_unit_236 {l : Launch} {D : va_G} {ids : List Nat} {ad : Nat → Nat} {ca : Nat → ClassId} {σ : HS} (hid : ∀ i, i < 277 → i ∈ ids) (hG : GIm σ) {s : HS} (hR : AGm s σ) (hp0 : (σ.1 236 19).toInt + (s.1 236 18).toInt = 1) (hp1 : 420 * (σ.1 236 19).toInt ≤ (σ.1 236 39).toInt) (hp2 : (σ.1 236 39).toInt ≤ 420 * (σ.1 236 19).toInt + 419) : Kv l D ids ad ca yX12_unit cX12_unit 1 2 41 [.ref (ad 236)] σ (fun σ1 => (GIm σ1) ∧ (onm [261, 262, 1011, 1013, 1014, 1039] σ σ1) ∧ (AGm s σ1) ∧ ((σ.1 236 39).toInt ≤ (σ1.1 236 39).toInt) ∧ ((σ1.1 236 39).toInt ≤ (σ.1 236 39).toInt + 1) ∧ ((σ.1 236 11).toInt ≤ (σ1.1 236 11).toInt) ∧ ((σ1.1 236 11).toInt ≤ (σ.1 236 11).toInt + 1) ∧ ((σ1.1 236 13).toInt = 0 → (σ1.1 236 11).toInt = (σ.1 236 11).toInt + 1 ∧ (σ1.1 236 39).toInt = (σ.1 236 39).toInt + 1) ∧ ((σ1.1 236 13).toInt = 0 → (σ.1 236 13).toInt = 0) ∧ (∀ c : Nat, (c : Int) ≠ (σ.1 236 39).toInt → σ1.1 261 c = σ.1 261 c ∧ σ1.1 262 c = σ.1 262 c) ∧ ((σ1.1 236 13).toInt = 0 → 0 ≤ (σ1.1 261 (σ.1 236 39).toInt.toNat).toInt ∧ (σ1.1 261 (σ.1 236 39).toInt.toNat).toInt ≤ 1 ∧ (σ1.1 261 (σ.1 236 39).toInt.toNat).toInt < 2 ∧ ((σ1.1 261 (σ.1 236 39).toInt.toNat).toInt = 1 → 0 ≤ (σ1.1 262 (σ.1 236 39).toInt.toNat).toInt ∧ (σ1.1 262 (σ.1 236 39).toInt.toNat).toInt ≤ 8))) := by
  refine Kv.of (by decide) (Nat.le_of_ble_eq_true rfl) 0 (fun Γ C Rt => ?_)
  show AW ids ad ca Γ 0 [some (.ref (ad 236))] [] σ
  have j88 : ∀ (σq88 : HS), GIm σq88 → onm [261, 262, 1011, 1013, 1014, 1039] σ σq88 → AGm s σq88 → ((σq88.1 236 39).toInt = (σ.1 236 39).toInt) → ((σq88.1 236 11).toInt = (σ.1 236 11).toInt) → (∀ c : Nat, (c : Int) ≠ (σ.1 236 39).toInt → σq88.1 261 c = σ.1 261 c ∧ σq88.1 262 c = σ.1 262 c) → AW ids ad ca Γ 88 [some (.ref (ad 236))] [] σq88 := by
    intro σq88 hGq88 hoq88 hRq88 hx88_0 hx88_1 hx88_2
    refine a_aload_n C dX12_unit_88 (i := 0) rfl rfl ?_
    refine s_iconst C dX12_unit_89 (1) (by decide) (fun z1 h2 => ?_)
    have g6 := bF_236_13 hGq88
    refine a_callVv C (i := 236) kd_236 (hid 236 (by decide)) ⟨_, _, rfl⟩ (by decide) (S_X12_fail_236 (x1 := z1) hid hGq88 (by omega)) mi_X12_fail ml_RX12_206 rfl rfl (Nat.le_of_ble_eq_true rfl) (Nat.le_of_ble_eq_true rfl) (Nat.le_of_ble_eq_true rfl) dX12_unit_90 (fun σ4 q5 => ?_)
    obtain ⟨hG7, ho8, w10, w11⟩ := q5
    have hR9 := AGm.ony hRq88 ho8 (by decide)
    have g12 : (σ4.1 236 39).toInt = (σq88.1 236 39).toInt := congrArg Int32.toInt (ho8.1 236 39 (by decide))
    have g13 := bF_236_11 hG7
    have g14 := bF_236_11 hGq88
    have g15 : (σ4.1 236 11).toInt = (σq88.1 236 11).toInt := congrArg Int32.toInt (ho8.1 236 11 (by decide))
    have g16 := bF_236_13 hG7
    exact a_vret Rt dX12_unit_93 (⟨hG7, (onm.tr hoq88 (onm.mono ho8 (by decide))), hR9, (show (σ.1 236 39).toInt ≤ (σ4.1 236 39).toInt by intros; omega), (show (σ4.1 236 39).toInt ≤ (σ.1 236 39).toInt + 1 by intros; omega), (show (σ.1 236 11).toInt ≤ (σ4.1 236 11).toInt by intros; omega), (show (σ4.1 236 11).toInt ≤ (σ.1 236 11).toInt + 1 by intros; omega), (show (σ4.1 236 13).toInt = 0 → (σ4.1 236 11).toInt = (σ.1 236 11).toInt + 1 ∧ (σ4.1 236 39).toInt = (σ.1 236 39).toInt + 1 by intros; omega), (show (σ4.1 236 13).toInt = 0 → (σ.1 236 13).toInt = 0 by intros; omega), (fun c hc => ⟨(congrFun (ho8.a (i := 261) (by decide)) c).trans (hx88_2 c hc).1, (congrFun (ho8.a (i := 262) (by decide)) c).trans (hx88_2 c hc).2⟩), (fun h9 => absurd h9 (by omega))⟩)
  refine a_aload_n C dX12_unit_0 (i := 0) rfl rfl ?_
  refine s_iconst C dX12_unit_1 (2) (by decide) (fun z17 h18 => ?_)
  have g22 := bF_236_13 hG
  have g23 := bF_236_11 hG
  refine a_callVi C (i := 236) kd_236 (hid 236 (by decide)) ⟨_, _, rfl⟩ (by decide) (S_X12_is_236 (x1 := z17) hid hG) mi_X12_is ml_RX12_209 rfl rfl (Nat.le_of_ble_eq_true rfl) (Nat.le_of_ble_eq_true rfl) (Nat.le_of_ble_eq_true rfl) dX12_unit_2 (fun z19 σ20 q21 => ?_)
  obtain ⟨w24, w25, w26, w27⟩ := q21
  rw [w24]
  refine s_if_eq C dX12_unit_5 (tgt := 29) rfl (fun c28 => ?_) (fun c28 => ?_)
  ·
    refine a_aload_n C dX12_unit_29 (i := 0) rfl rfl ?_
    refine a_get C fl_RX12_191 (i := 236) kd_236 (hid 236 (by decide)) (v := .int (σ.1 236 13)) rfl dX12_unit_30 ?_
    refine s_if_ne C dX12_unit_33 (tgt := 88) rfl (fun c29 => ?_) (fun c29 => ?_)
    ·
      exact j88 _ hG onm.rf hR (show (σ.1 236 39).toInt = (σ.1 236 39).toInt by omega) (show (σ.1 236 11).toInt = (σ.1 236 11).toInt by omega) (fun c hc => ⟨rfl, rfl⟩)
    ·
      refine a_aload_n C dX12_unit_36 (i := 0) rfl rfl ?_
      refine a_get C fl_RX12_20 (i := 236) kd_236 (hid 236 (by decide)) (v := .ref (ad 239)) rfl dX12_unit_37 ?_
      refine a_aload_n C dX12_unit_40 (i := 0) rfl rfl ?_
      refine a_get C fl_RX12_194 (i := 236) kd_236 (hid 236 (by decide)) (v := .int (σ.1 236 11)) rfl dX12_unit_41 ?_
      refine s_iald C (i := 239) kd_239 (hid 239 (by decide)) al_239 (by omega) (by omega) dX12_unit_44 (fun n30 h31 => ?_)
      refine s_val (fun z32 e33 => ?_)
      have g34 := bA_239 hG n30
      rw [e33] at g34
      refine s_bipush C dX12_unit_45 (31) (by decide) (fun z35 h36 => ?_)
      refine s_ic_lt C dX12_unit_47 (tgt := 88) rfl (fun c37 => ?_) (fun c37 => ?_)
      ·
        exact j88 _ hG onm.rf hR (show (σ.1 236 39).toInt = (σ.1 236 39).toInt by omega) (show (σ.1 236 11).toInt = (σ.1 236 11).toInt by omega) (fun c hc => ⟨rfl, rfl⟩)
      ·
        refine a_aload_n C dX12_unit_50 (i := 0) rfl rfl ?_
        refine a_get C fl_RX12_20 (i := 236) kd_236 (hid 236 (by decide)) (v := .ref (ad 239)) rfl dX12_unit_51 ?_
        refine a_aload_n C dX12_unit_54 (i := 0) rfl rfl ?_
        refine a_get C fl_RX12_194 (i := 236) kd_236 (hid 236 (by decide)) (v := .int (σ.1 236 11)) rfl dX12_unit_55 ?_
        refine s_iald C (i := 239) kd_239 (hid 239 (by decide)) al_239 (by omega) (by omega) dX12_unit_58 (fun n38 h39 => ?_)
        refine s_val (fun z40 e41 => ?_)
        have g42 : z40.toInt = z32.toInt := congrArg Int32.toInt (e41.symm.trans ((congrArg (σ.1 239) (show n38 = n30 by omega)).trans e33))
        have g43 := bA_239 hG n38
        rw [e41] at g43
        refine s_bipush C dX12_unit_59 (39) (by decide) (fun z44 h45 => ?_)
        refine s_ic_gt C dX12_unit_61 (tgt := 88) rfl (fun c46 => absurd c46 (by omega)) (fun c46 => ?_)
        refine a_aload_n C dX12_unit_64 (i := 0) rfl rfl ?_
        refine s_iconst C dX12_unit_65 (1) (by decide) (fun z47 h48 => ?_)
        refine a_aload_n C dX12_unit_66 (i := 0) rfl rfl ?_
        refine a_get C fl_RX12_20 (i := 236) kd_236 (hid 236 (by decide)) (v := .ref (ad 239)) rfl dX12_unit_67 ?_
        refine a_aload_n C dX12_unit_70 (i := 0) rfl rfl ?_
        refine a_get C fl_RX12_194 (i := 236) kd_236 (hid 236 (by decide)) (v := .int (σ.1 236 11)) rfl dX12_unit_71 ?_
        refine s_iald C (i := 239) kd_239 (hid 239 (by decide)) al_239 (by omega) (by omega) dX12_unit_74 (fun n49 h50 => ?_)
        refine s_val (fun z51 e52 => ?_)
        have g53 : z51.toInt = z40.toInt := congrArg Int32.toInt (e52.symm.trans ((congrArg (σ.1 239) (show n49 = n38 by omega)).trans e41))
        have g54 := bA_239 hG n49
        rw [e52] at g54
        refine s_bipush C dX12_unit_75 (31) (by decide) (fun z55 h56 => ?_)
        refine s_isub C dX12_unit_77 (by omega) (fun z57 h58 => ?_)
        have g62 := bF_236_19 hG
        refine a_callVv C (i := 236) kd_236 (hid 236 (by decide)) ⟨_, _, rfl⟩ (by decide) (S_X12_emit_236 (x1 := z47) (x2 := z57) hid hG hR (by omega) (by omega) (by omega) (by omega)) mi_X12_emit ml_RX12_287 rfl rfl (Nat.le_of_ble_eq_true rfl) (Nat.le_of_ble_eq_true rfl) (Nat.le_of_ble_eq_true rfl) dX12_unit_78 (fun σ60 q61 => ?_)
        obtain ⟨hG63, ho64, hR65, w66, w67, w68⟩ := q61
        have gcod := w66
        refine a_aload_n C dX12_unit_81 (i := 0) rfl rfl ?_
        have g72 := bF_236_11 hG63
        have g73 : (σ60.1 236 11).toInt = (σ.1 236 11).toInt := congrArg Int32.toInt (ho64.1 236 11 (by decide))
        have g74 := bF_236_13 hG63
        have g75 : (σ60.1 236 13).toInt = (σ.1 236 13).toInt := congrArg Int32.toInt (ho64.1 236 13 (by decide))
        refine a_callVv C (i := 236) kd_236 (hid 236 (by decide)) ⟨_, _, rfl⟩ (by decide) (S_X12_goesOn_236 hid hG63) mi_X12_goesOn ml_RX12_212 rfl rfl (Nat.le_of_ble_eq_true rfl) (Nat.le_of_ble_eq_true rfl) (Nat.le_of_ble_eq_true rfl) dX12_unit_82 (fun σ70 q71 => ?_)
        obtain ⟨hG76, ho77, w79, w80, w81, w82⟩ := q71
        have hR78 := AGm.ony hR65 ho77 (by decide)
        refine a_goto C dX12_unit_85 (tgt := 93) rfl ?_
        have g83 : (σ70.1 236 39).toInt = (σ60.1 236 39).toInt := congrArg Int32.toInt (ho77.1 236 39 (by decide))
        have g84 := bF_236_11 hG76
        have g85 := bF_236_13 hG76
        exact a_vret Rt dX12_unit_93 (⟨hG76, (onm.tr (onm.tr onm.rf (onm.mono ho64 (by decide))) (onm.mono ho77 (by decide))), hR78, (show (σ.1 236 39).toInt ≤ (σ70.1 236 39).toInt by intros; omega), (show (σ70.1 236 39).toInt ≤ (σ.1 236 39).toInt + 1 by intros; omega), (show (σ.1 236 11).toInt ≤ (σ70.1 236 11).toInt by intros; omega), (show (σ70.1 236 11).toInt ≤ (σ.1 236 11).toInt + 1 by intros; omega), (show (σ70.1 236 13).toInt = 0 → (σ70.1 236 11).toInt = (σ.1 236 11).toInt + 1 ∧ (σ70.1 236 39).toInt = (σ.1 236 39).toInt + 1 by intros; omega), (show (σ70.1 236 13).toInt = 0 → (σ.1 236 13).toInt = 0 by intros; omega), (fun c hc => ⟨(congrFun (ho77.a (i := 261) (by decide)) c).trans (w67 c hc).1, (congrFun (ho77.a (i := 262) (by decide)) c).trans (w67 c hc).2⟩), (fun _ => by rw [congrFun (ho77.a (i := 261) (by decide)) (σ.1 236 39).toInt.toNat, congrFun (ho77.a (i := 262) (by decide)) (σ.1 236 39).toInt.toNat, w68.1, w68.2]; exact ⟨by omega, by omega, by omega, fun _ => by omega⟩)⟩)
  ·
    refine a_aload_n C dX12_unit_8 (i := 0) rfl rfl ?_
    refine s_iconst C dX12_unit_9 (0) (by decide) (fun z86 h87 => ?_)
    refine a_aload_n C dX12_unit_10 (i := 0) rfl rfl ?_
    refine a_get C fl_RX12_27 (i := 236) kd_236 (hid 236 (by decide)) (v := .ref (ad 241)) rfl dX12_unit_11 ?_
    refine a_aload_n C dX12_unit_14 (i := 0) rfl rfl ?_
    refine a_get C fl_RX12_194 (i := 236) kd_236 (hid 236 (by decide)) (v := .int (σ.1 236 11)) rfl dX12_unit_15 ?_
    refine s_iald C (i := 241) kd_241 (hid 241 (by decide)) al_241 (by omega) (by omega) dX12_unit_18 (fun n88 h89 => ?_)
    refine s_val (fun z90 e91 => ?_)
    have g92 := bA_241 hG n88
    rw [e91] at g92
    have g96 := bF_236_19 hG
    refine a_callVv C (i := 236) kd_236 (hid 236 (by decide)) ⟨_, _, rfl⟩ (by decide) (S_X12_emit_236 (x1 := z86) (x2 := z90) hid hG hR (by omega) (by omega) (by omega) (by omega)) mi_X12_emit ml_RX12_287 rfl rfl (Nat.le_of_ble_eq_true rfl) (Nat.le_of_ble_eq_true rfl) (Nat.le_of_ble_eq_true rfl) dX12_unit_19 (fun σ94 q95 => ?_)
    obtain ⟨hG97, ho98, hR99, w100, w101, w102⟩ := q95
    have gcod := w100
    refine a_aload_n C dX12_unit_22 (i := 0) rfl rfl ?_
    have g106 := bF_236_11 hG97
    have g107 : (σ94.1 236 11).toInt = (σ.1 236 11).toInt := congrArg Int32.toInt (ho98.1 236 11 (by decide))
    have g108 := bF_236_13 hG97
    have g109 : (σ94.1 236 13).toInt = (σ.1 236 13).toInt := congrArg Int32.toInt (ho98.1 236 13 (by decide))
    refine a_callVv C (i := 236) kd_236 (hid 236 (by decide)) ⟨_, _, rfl⟩ (by decide) (S_X12_goesOn_236 hid hG97) mi_X12_goesOn ml_RX12_212 rfl rfl (Nat.le_of_ble_eq_true rfl) (Nat.le_of_ble_eq_true rfl) (Nat.le_of_ble_eq_true rfl) dX12_unit_23 (fun σ104 q105 => ?_)
    obtain ⟨hG110, ho111, w113, w114, w115, w116⟩ := q105
    have hR112 := AGm.ony hR99 ho111 (by decide)
    refine a_goto C dX12_unit_26 (tgt := 93) rfl ?_
    have g117 : (σ104.1 236 39).toInt = (σ94.1 236 39).toInt := congrArg Int32.toInt (ho111.1 236 39 (by decide))
    have g118 := bF_236_11 hG110
    have g119 := bF_236_13 hG110
    exact a_vret Rt dX12_unit_93 (⟨hG110, (onm.tr (onm.tr onm.rf (onm.mono ho98 (by decide))) (onm.mono ho111 (by decide))), hR112, (show (σ.1 236 39).toInt ≤ (σ104.1 236 39).toInt by intros; omega), (show (σ104.1 236 39).toInt ≤ (σ.1 236 39).toInt + 1 by intros; omega), (show (σ.1 236 11).toInt ≤ (σ104.1 236 11).toInt by intros; omega), (show (σ104.1 236 11).toInt ≤ (σ.1 236 11).toInt + 1 by intros; omega), (show (σ104.1 236 13).toInt = 0 → (σ104.1 236 11).toInt = (σ.1 236 11).toInt + 1 ∧ (σ104.1 236 39).toInt = (σ.1 236 39).toInt + 1 by intros; omega), (show (σ104.1 236 13).toInt = 0 → (σ.1 236 13).toInt = 0 by intros; omega), (fun c hc => ⟨(congrFun (ho111.a (i := 261) (by decide)) c).trans (w101 c hc).1, (congrFun (ho111.a (i := 262) (by decide)) c).trans (w101 c hc).2⟩), (fun _ => by rw [congrFun (ho111.a (i := 261) (by decide)) (σ.1 236 39).toInt.toNat, congrFun (ho111.a (i := 262) (by decide)) (σ.1 236 39).toInt.toNat, w102.1, w102.2]; exact ⟨by omega, by omega, by omega, fun _ => by omega⟩)⟩)
set_option maxHeartbeats 4000000 in
set_option maxRecDepth 100000 in
theorem S_X12_plain_236 {l : Launch} {D : va_G} {ids : List Nat} {ad : Nat → Nat} {ca : Nat → ClassId} {σ : HS} {x1 : Int32} (hid : ∀ i, i < 277 → i ∈ ids) (hG : GIm σ) {s : HS} (hR : AGm s σ) (hx1 : 0 ≤ x1.toInt ∧ x1.toInt ≤ 1) (hp0 : x1.toInt + (s.1 236 18).toInt = 1) : Kv l D ids ad ca yX12_plain cX12_plain 3 0 0 [.ref (ad 236), .int x1] σ (fun σ1 => (GIm σ1) ∧ (onm [245, 249, 252, 253, 254, 255] σ σ1) ∧ (AGm s σ1) ∧ ((σ1.1 245 x1.toInt.toNat).toInt = 0 ∧ (σ1.1 249 x1.toInt.toNat).toInt = 0) ∧ (∀ q : Nat, q < 4 → (σ1.1 254 (4 * x1.toInt.toNat + q)).toInt = 0 ∧ (σ1.1 255 (4 * x1.toInt.toNat + q)).toInt = 0)) := by
  refine Kv.of (by decide) (Nat.le_of_ble_eq_true rfl) 1 (fun Γ C Rt => ?_)
  show AW ids ad ca Γ 0 [some (.ref (ad 236)), some (.int x1), none] [] σ
  have j30 : ∀ (d30 : Nat) (σq30 : HS) (y30_2 : Int32), 4 - y30_2.toInt < d30 → GIm σq30 → onm [245, 249, 252, 253, 254, 255] σ σq30 → AGm s σq30 → 0 ≤ y30_2.toInt ∧ y30_2.toInt ≤ 4 → ((σq30.1 245 x1.toInt.toNat).toInt = 0 ∧ (σq30.1 249 x1.toInt.toNat).toInt = 0) → (∀ q : Nat, (q : Int) < y30_2.toInt → (σq30.1 254 (4 * x1.toInt.toNat + q)).toInt = 0 ∧ (σq30.1 255 (4 * x1.toInt.toNat + q)).toInt = 0) → AW ids ad ca Γ 30 [some (.ref (ad 236)), some (.int x1), some (.int y30_2)] [] σq30 := by
    intro d30
    induction d30 with
    | zero =>
      intro σq30 y30_2 hd30 hGq30 hoq30 hRq30 hx30_0 hx30_1 hx30_2
      exfalso
      omega
    | succ d30 ih30 =>
      intro σq30 y30_2 hd30 hGq30 hoq30 hRq30 hx30_0 hx30_1 hx30_2
      refine a_iload_n C dX12_plain_30 (i := 2) rfl rfl ?_
      refine s_iconst C dX12_plain_31 (4) (by decide) (fun z1 h2 => ?_)
      refine s_ic_ge C dX12_plain_32 (tgt := 63) rfl (fun c3 => ?_) (fun c3 => ?_)
      ·
        exact a_vret Rt dX12_plain_63 (⟨hGq30, hoq30, hRq30, hx30_1, (fun q hq => hx30_2 q (by omega))⟩)
      ·
        refine a_aload_n C dX12_plain_35 (i := 0) rfl rfl ?_
        refine a_get C fl_RX12_70 (i := 236) kd_236 (hid 236 (by decide)) (v := .ref (ad 254)) rfl dX12_plain_36 ?_
        refine s_iconst C dX12_plain_39 (4) (by decide) (fun z4 h5 => ?_)
        refine a_iload_n C dX12_plain_40 (i := 1) rfl rfl ?_
        refine s_imuld C dX12_plain_41 (4) (by omega) (by omega) (fun z6 h7 => ?_)
        refine a_iload_n C dX12_plain_42 (i := 2) rfl rfl ?_
        refine s_iadd C dX12_plain_43 (by omega) (fun z8 h9 => ?_)
        refine s_iconst C dX12_plain_44 (0) (by decide) (fun z10 h11 => ?_)
        refine s_iast C (i := 254) kd_254 (hid 254 (by decide)) al_254 (by omega) (by omega) dX12_plain_45 (fun n12 h13 => ?_)
        have hG14 := wA_254 (v := z10) (j := n12) hGq30
        have g16 := bF_236_19 hGq30
        have g17 : (σq30.1 236 19).toInt = (σ.1 236 19).toInt := congrArg Int32.toInt (hoq30.1 236 19 (by decide))
        have g18 : ((hI σq30 254 n12 z10).1 236 19).toInt = (σq30.1 236 19).toInt := congrArg Int32.toInt rfl
        have hR15 := AGm.W (i := 254) (k := n12) (v := z10) hRq30 (by decide) (by omega) (by omega) (by omega) (by omega) (by omega)
        refine a_aload_n C dX12_plain_46 (i := 0) rfl rfl ?_
        refine a_get C fl_RX12_73 (i := 236) kd_236 (hid 236 (by decide)) (v := .ref (ad 255)) rfl dX12_plain_47 ?_
        refine s_iconst C dX12_plain_50 (4) (by decide) (fun z19 h20 => ?_)
        refine a_iload_n C dX12_plain_51 (i := 1) rfl rfl ?_
        refine s_imuld C dX12_plain_52 (4) (by omega) (by omega) (fun z21 h22 => ?_)
        refine a_iload_n C dX12_plain_53 (i := 2) rfl rfl ?_
        refine s_iadd C dX12_plain_54 (by omega) (fun z23 h24 => ?_)
        refine s_iconst C dX12_plain_55 (0) (by decide) (fun z25 h26 => ?_)
        refine s_iast C (i := 255) kd_255 (hid 255 (by decide)) al_255 (by omega) (by omega) dX12_plain_56 (fun n27 h28 => ?_)
        have hG29 := wA_255 (v := z25) (j := n27) hG14
        have g31 : ((hI (hI σq30 254 n12 z10) 255 n27 z25).1 236 19).toInt = (σq30.1 236 19).toInt := congrArg Int32.toInt rfl
        have hR30 := AGm.W (i := 255) (k := n27) (v := z25) hR15 (by decide) (by omega) (by omega) (by omega) (by omega) (by omega)
        refine s_iinc C dX12_plain_57 rfl (1) (by decide) (by omega) (by decide) rfl (fun z32 h33 => ?_)
        show AW ids ad ca Γ 60 [some (.ref (ad 236)), some (.int x1), some (.int z32)] _ _
        refine a_goto C dX12_plain_60 (tgt := 30) rfl ?_
        exact ih30 _ z32 (by omega) hG29 (onm.I (onm.I hoq30 (by decide)) (by decide)) hR30 (by omega) hx30_1 (pl_step (a := 4 * x1.toInt.toNat) (n := n12) (n1 := n27) hx30_2 (by omega) (by omega) (by omega) (by omega) (by omega))
  refine a_aload_n C dX12_plain_0 (i := 0) rfl rfl ?_
  refine a_get C fl_RX12_43 (i := 236) kd_236 (hid 236 (by decide)) (v := .ref (ad 245)) rfl dX12_plain_1 ?_
  refine a_iload_n C dX12_plain_4 (i := 1) rfl rfl ?_
  refine s_iconst C dX12_plain_5 (0) (by decide) (fun z34 h35 => ?_)
  refine s_iast C (i := 245) kd_245 (hid 245 (by decide)) al_245 (by omega) (by omega) dX12_plain_6 (fun n36 h37 => ?_)
  have hG38 := wA_245 (v := z34) (j := n36) hG (by omega) (by omega)
  have hR39 := AGm.ony (σ1 := hI _ 245 n36 z34) hR (onm.I (L := [245]) onm.rf (by decide)) (by decide)
  refine a_aload_n C dX12_plain_7 (i := 0) rfl rfl ?_
  refine a_get C fl_RX12_55 (i := 236) kd_236 (hid 236 (by decide)) (v := .ref (ad 249)) rfl dX12_plain_8 ?_
  refine a_iload_n C dX12_plain_11 (i := 1) rfl rfl ?_
  refine s_iconst C dX12_plain_12 (0) (by decide) (fun z40 h41 => ?_)
  refine s_iast C (i := 249) kd_249 (hid 249 (by decide)) al_249 (by omega) (by omega) dX12_plain_13 (fun n42 h43 => ?_)
  have hG44 := wA_249 (v := z40) (j := n42) hG38 (by omega) (by omega)
  have g46 := bF_236_19 hG
  have g47 : ((hI (hI σ 245 n36 z34) 249 n42 z40).1 236 19).toInt = (σ.1 236 19).toInt := congrArg Int32.toInt rfl
  have hR45 := AGm.W (i := 249) (k := n42) (v := z40) hR39 (by decide) (by omega) (by omega) (by omega) (by omega) (by omega)
  refine a_aload_n C dX12_plain_14 (i := 0) rfl rfl ?_
  refine a_get C fl_RX12_64 (i := 236) kd_236 (hid 236 (by decide)) (v := .ref (ad 252)) rfl dX12_plain_15 ?_
  refine a_iload_n C dX12_plain_18 (i := 1) rfl rfl ?_
  refine s_iconst C dX12_plain_19 (1) (by decide) (fun z48 h49 => ?_)
  refine s_iast C (i := 252) kd_252 (hid 252 (by decide)) al_252 (by omega) (by omega) dX12_plain_20 (fun n50 h51 => ?_)
  have hG52 := wA_252 (v := z48) (j := n50) hG44
  have hR53 := AGm.ony (σ1 := hI _ 252 n50 z48) hR45 (onm.I (L := [252]) onm.rf (by decide)) (by decide)
  refine a_aload_n C dX12_plain_21 (i := 0) rfl rfl ?_
  refine a_get C fl_RX12_67 (i := 236) kd_236 (hid 236 (by decide)) (v := .ref (ad 253)) rfl dX12_plain_22 ?_
  refine a_iload_n C dX12_plain_25 (i := 1) rfl rfl ?_
  refine s_iconst C dX12_plain_26 (0) (by decide) (fun z54 h55 => ?_)
  refine s_iast C (i := 253) kd_253 (hid 253 (by decide)) al_253 (by omega) (by omega) dX12_plain_27 (fun n56 h57 => ?_)
  have hG58 := wA_253 (v := z54) (j := n56) hG52
  have hR59 := AGm.ony (σ1 := hI _ 253 n56 z54) hR53 (onm.I (L := [253]) onm.rf (by decide)) (by decide)
  refine s_iconst C dX12_plain_28 (0) (by decide) (fun z60 h61 => ?_)
  refine a_istore_n C dX12_plain_29 (i := 2) rfl (by decide) rfl (vs1 := [some (.ref (ad 236)), some (.int x1), some (.int z60)]) rfl ?_
  exact j30 100000 _ z60 (by omega) hG58 (onm.I (onm.I (onm.I (onm.I onm.rf (by decide)) (by decide)) (by decide)) (by decide)) hR59 (by omega) (by
        refine ⟨?_, ?_⟩
        · rw [show x1.toInt.toNat = n36 by omega]; show ((hI σ 245 n36 z34).1 245 n36).toInt = 0; rw [hI_s]; omega
        · rw [show x1.toInt.toNat = n42 by omega]; show ((hI (hI σ 245 n36 z34) 249 n42 z40).1 249 n42).toInt = 0; rw [hI_s]; omega) (fun q hq => absurd hq (by omega))
