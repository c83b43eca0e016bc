theorem dX12_term_0 : decode cX12_term 0 = .ok (.aload_n 0, 1) := by decide +kernel
theorem dX12_term_1 : decode cX12_term 1 = .ok (.getfield 86, 3) := by decide +kernel
theorem dX12_term_4 : decode cX12_term 4 = .ok (.aload_n 0, 1) := by decide +kernel
theorem dX12_term_5 : decode cX12_term 5 = .ok (.getfield 230, 3) := by decide +kernel
theorem dX12_term_8 : decode cX12_term 8 = .ok (.aload_n 0, 1) := by decide +kernel
theorem dX12_term_9 : decode cX12_term 9 = .ok (.getfield 233, 3) := by decide +kernel
theorem dX12_term_12 : decode cX12_term 12 = .ok (.iastore, 1) := by decide +kernel
theorem dX12_term_13 : decode cX12_term 13 = .ok (.aload_n 0, 1) := by decide +kernel
theorem dX12_term_14 : decode cX12_term 14 = .ok (.getfield 191, 3) := by decide +kernel
theorem dX12_term_17 : decode cX12_term 17 = .ok (.ifCond .ne 7, 3) := by decide +kernel
theorem dX12_term_20 : decode cX12_term 20 = .ok (.aload_n 0, 1) := by decide +kernel
theorem dX12_term_21 : decode cX12_term 21 = .ok (.invokevirtual 278, 3) := by decide +kernel
theorem dX12_term_24 : decode cX12_term 24 = .ok (.aload_n 0, 1) := by decide +kernel
theorem dX12_term_25 : decode cX12_term 25 = .ok (.getfield 89, 3) := by decide +kernel
theorem dX12_term_28 : decode cX12_term 28 = .ok (.aload_n 0, 1) := by decide +kernel
theorem dX12_term_29 : decode cX12_term 29 = .ok (.getfield 230, 3) := by decide +kernel
theorem dX12_term_32 : decode cX12_term 32 = .ok (.aload_n 0, 1) := by decide +kernel
theorem dX12_term_33 : decode cX12_term 33 = .ok (.getfield 233, 3) := by decide +kernel
theorem dX12_term_36 : decode cX12_term 36 = .ok (.iastore, 1) := by decide +kernel
theorem dX12_term_37 : decode cX12_term 37 = .ok (.aload_n 0, 1) := by decide +kernel
theorem dX12_term_38 : decode cX12_term 38 = .ok (.dup, 1) := by decide +kernel
theorem dX12_term_39 : decode cX12_term 39 = .ok (.getfield 230, 3) := by decide +kernel
theorem dX12_term_42 : decode cX12_term 42 = .ok (.iconst 1, 1) := by decide +kernel
theorem dX12_term_43 : decode cX12_term 43 = .ok (.iadd, 1) := by decide +kernel
theorem dX12_term_44 : decode cX12_term 44 = .ok (.putfield 230, 3) := by decide +kernel
theorem dX12_term_47 : decode cX12_term 47 = .ok (.return_, 1) := by decide +kernel
set_option maxHeartbeats 4000000 in
set_option maxRecDepth 100000 in
theorem S_X12_term_236 {l : Launch} {D : va_G} {ids : List Nat} {ad : Nat → Nat} {ca : Nat → ClassId} {σ : HS} (hid : ∀ i, i < 277 → i ∈ ids) (hG : GIm σ) {s : HS} (hR : AGm s σ) (hp0 : (σ.1 236 19).toInt + (s.1 236 18).toInt = 1) (hp1 : 420 * (σ.1 236 19).toInt ≤ (σ.1 236 39).toInt) (hp2 : (σ.1 236 39).toInt ≤ 420 * (σ.1 236 19).toInt + 412) (hp3 : (σ.1 236 13).toInt = 0 → (σ.1 236 39).toInt ≤ 420 * (σ.1 236 19).toInt + (σ.1 236 11).toInt) (hp4 : (σ.1 236 13).toInt = 0 → (σ.1 236 12).toInt ≤ 6) (hp5 : 130 * (σ.1 236 19).toInt ≤ (σ.1 236 33).toInt) (hp6 : (σ.1 236 33).toInt ≤ 130 * (σ.1 236 19).toInt + 129) : Kv l D ids ad ca yX12_term cX12_term 1 4 83 [.ref (ad 236)] σ (fun σ1 => (GIm σ1) ∧ (onm [259, 260, 261, 262, 263, 1011, 1012, 1013, 1014, 1033, 1039, 1043] σ σ1) ∧ (AGm s σ1) ∧ ((σ1.1 236 13).toInt = 0 → (σ1.1 236 39).toInt ≤ 420 * (σ.1 236 19).toInt + (σ1.1 236 11).toInt) ∧ ((σ1.1 236 39).toInt ≤ 420 * (σ.1 236 19).toInt + 412) ∧ ((σ.1 236 11).toInt ≤ (σ1.1 236 11).toInt) ∧ ((σ1.1 236 13).toInt = 0 → (σ.1 236 13).toInt = 0) ∧ ((σ1.1 236 13).toInt = 0 → (σ1.1 236 12).toInt = (σ.1 236 12).toInt) ∧ ((σ1.1 236 13).toInt = 0 → (σ.1 236 11).toInt + 1 ≤ (σ1.1 236 11).toInt) ∧ ((σ.1 236 39).toInt ≤ (σ1.1 236 39).toInt) ∧ ((σ1.1 236 33).toInt = (σ.1 236 33).toInt + 1) ∧ (TRM σ σ1)) := by
  refine Kv.of (by decide) (Nat.le_of_ble_eq_true rfl) 0 (fun Γ C Rt => ?_)
  show AW ids ad ca Γ 0 [some (.ref (ad 236))] [] σ
  have j24 : ∀ (σq24 : HS), GIm σq24 → onm [259, 260, 261, 262, 263, 1011, 1012, 1013, 1014, 1033, 1039, 1043] σ σq24 → AGm s σq24 → ((σq24.1 236 13).toInt = 0 → (σq24.1 236 39).toInt ≤ 420 * (σ.1 236 19).toInt + (σq24.1 236 11).toInt) → ((σq24.1 236 39).toInt ≤ 420 * (σ.1 236 19).toInt + 412) → ((σ.1 236 11).toInt ≤ (σq24.1 236 11).toInt) → ((σq24.1 236 13).toInt = 0 → (σ.1 236 13).toInt = 0) → ((σq24.1 236 13).toInt = 0 → (σq24.1 236 12).toInt = (σ.1 236 12).toInt) → ((σq24.1 236 13).toInt = 0 → (σ.1 236 11).toInt + 1 ≤ (σq24.1 236 11).toInt) → ((σ.1 236 39).toInt ≤ (σq24.1 236 39).toInt) → ((σq24.1 236 33).toInt = (σ.1 236 33).toInt) → ((σq24.1 259 (σ.1 236 33).toInt.toNat).toInt = (σ.1 236 39).toInt) → (∀ q : Nat, (q : Int) ≠ (σ.1 236 33).toInt → σq24.1 259 q = σ.1 259 q) → (σq24.1 260 = σ.1 260) → (EXh σ σq24) → AW ids ad ca Γ 24 [some (.ref (ad 236))] [] σq24 := by
    intro σq24 hGq24 hoq24 hRq24 hx24_0 hx24_1 hx24_2 hx24_3 hx24_4 hx24_5 hx24_6 hx24_7 hx24_8 hx24_9 hx24_10 hx24_11
    have gsd := bF_236_19 hG
    have gop := bF_236_12 hG
    refine a_aload_n C dX12_term_24 (i := 0) rfl rfl ?_
    refine a_get C fl_RX12_89 (i := 236) kd_236 (hid 236 (by decide)) (v := .ref (ad 260)) rfl dX12_term_25 ?_
    refine a_aload_n C dX12_term_28 (i := 0) rfl rfl ?_
    refine a_get C fl_RX12_230 (i := 236) kd_236 (hid 236 (by decide)) (v := .int (σq24.1 236 33)) rfl dX12_term_29 ?_
    refine a_aload_n C dX12_term_32 (i := 0) rfl rfl ?_
    refine a_get C fl_RX12_233 (i := 236) kd_236 (hid 236 (by decide)) (v := .int (σq24.1 236 39)) rfl dX12_term_33 ?_
    refine s_iast C (i := 260) kd_260 (hid 260 (by decide)) al_260 (by omega) (by omega) dX12_term_36 (fun n1 h2 => ?_)
    have hG3 := wA_260 (v := (σq24.1 236 39)) (j := n1) hGq24
    have g5 := bF_236_19 hGq24
    have g6 : (σq24.1 236 19).toInt = (σ.1 236 19).toInt := congrArg Int32.toInt (hoq24.1 236 19 (by decide))
    have g7 : ((hI σq24 260 n1 (σq24.1 236 39)).1 236 19).toInt = (σq24.1 236 19).toInt := congrArg Int32.toInt rfl
    have hR4 := AGm.W (i := 260) (k := n1) (v := (σq24.1 236 39)) hRq24 (by decide) (by omega) (by omega) (by omega) (by omega) (by omega)
    refine a_aload_n C dX12_term_37 (i := 0) rfl rfl ?_
    refine a_dup C dX12_term_38 rfl ?_
    refine a_get C fl_RX12_230 (i := 236) kd_236 (hid 236 (by decide)) (v := .int (σq24.1 236 33)) rfl dX12_term_39 ?_
    refine s_iconst C dX12_term_42 (1) (by decide) (fun z8 h9 => ?_)
    refine s_iadd C dX12_term_43 (by omega) (fun z10 h11 => ?_)
    refine a_put C fp_RX12_230 (i := 236) kd_236 (hid 236 (by decide)) rfl rfl dX12_term_44 ?_
    have hG12 := wF_236_33 (v := z10) hG3
    have hR13 := AGm.ony (σ1 := hI _ 236 33 z10) hR4 (onm.F (L := [1033]) onm.rf (by decide)) (by decide)
    have g14 := bF_236_13 hGq24
    have g15 := bF_236_11 hGq24
    have g16 := bF_236_12 hGq24
    have g17 : ((hI (hI σq24 260 n1 (σq24.1 236 39)) 236 33 z10).1 236 33).toInt = z10.toInt := congrArg Int32.toInt rfl
    have g18 : ((hI (hI σq24 260 n1 (σq24.1 236 39)) 236 33 z10).1 236 39).toInt = (σq24.1 236 39).toInt := congrArg Int32.toInt rfl
    exact a_vret Rt dX12_term_47 (⟨hG12, (onm.F (onm.I hoq24 (by decide)) (by decide)), hR13, (show (σq24.1 236 13).toInt = 0 → (σq24.1 236 39).toInt ≤ 420 * (σ.1 236 19).toInt + (σq24.1 236 11).toInt by intros; omega), (show (σq24.1 236 39).toInt ≤ 420 * (σ.1 236 19).toInt + 412 by intros; omega), (show (σ.1 236 11).toInt ≤ (σq24.1 236 11).toInt by intros; omega), (show (σq24.1 236 13).toInt = 0 → (σ.1 236 13).toInt = 0 by intros; omega), (show (σq24.1 236 13).toInt = 0 → (σq24.1 236 12).toInt = (σ.1 236 12).toInt by intros; omega), (show (σq24.1 236 13).toInt = 0 → (σ.1 236 11).toInt + 1 ≤ (σq24.1 236 11).toInt by intros; omega), (show (σ.1 236 39).toInt ≤ (σq24.1 236 39).toInt by intros; omega), (show z10.toInt = (σ.1 236 33).toInt + 1 by intros; omega), ⟨⟨by omega, by omega⟩, fun q hq => ⟨(show (hI (hI σq24 260 n1 (σq24.1 236 39)) 236 33 z10).1 259 q = σq24.1 259 q from ((congrFun (hI_o (by decide)) q).trans (congrFun (hI_o (by decide)) q))).trans (hx24_9 q hq), (show (hI (hI σq24 260 n1 (σq24.1 236 39)) 236 33 z10).1 260 q = σq24.1 260 q from ((congrFun (hI_o (by decide)) q).trans (hI_n (by omega)))).trans (congrFun hx24_10 q)⟩, ⟨(show (σq24.1 259 (σ.1 236 33).toInt.toNat).toInt = _ from hx24_8), (by rw [show (σ.1 236 33).toInt.toNat = n1 by omega]; show ((hI σq24 260 n1 (σq24.1 236 39)).1 260 n1).toInt = _; rw [hI_s] <;> omega)⟩, (show EXh σ (hI (hI σq24 260 n1 (σq24.1 236 39)) 236 33 z10) from hx24_11)⟩⟩)
  have gsd := bF_236_19 hG
  have gop := bF_236_12 hG
  refine a_aload_n C dX12_term_0 (i := 0) rfl rfl ?_
  refine a_get C fl_RX12_86 (i := 236) kd_236 (hid 236 (by decide)) (v := .ref (ad 259)) rfl dX12_term_1 ?_
  refine a_aload_n C dX12_term_4 (i := 0) rfl rfl ?_
  refine a_get C fl_RX12_230 (i := 236) kd_236 (hid 236 (by decide)) (v := .int (σ.1 236 33)) rfl dX12_term_5 ?_
  refine a_aload_n C dX12_term_8 (i := 0) rfl rfl ?_
  refine a_get C fl_RX12_233 (i := 236) kd_236 (hid 236 (by decide)) (v := .int (σ.1 236 39)) rfl dX12_term_9 ?_
  refine s_iast C (i := 259) kd_259 (hid 259 (by decide)) al_259 (by omega) (by omega) dX12_term_12 (fun n19 h20 => ?_)
  have hG21 := wA_259 (v := (σ.1 236 39)) (j := n19) hG
  have g23 := bF_236_19 hG
  have g24 : ((hI σ 259 n19 (σ.1 236 39)).1 236 19).toInt = (σ.1 236 19).toInt := congrArg Int32.toInt rfl
  have hR22 := AGm.W (i := 259) (k := n19) (v := (σ.1 236 39)) hR (by decide) (by omega) (by omega) (by omega) (by omega) (by omega)
  refine a_aload_n C dX12_term_13 (i := 0) rfl rfl ?_
  have g25 := bF_236_13 hG
  refine a_get C fl_RX12_191 (i := 236) kd_236 (hid 236 (by decide)) (v := .int (σ.1 236 13)) rfl dX12_term_14 ?_
  refine s_if_ne C dX12_term_17 (tgt := 24) rfl (fun c26 => ?_) (fun c26 => ?_)
  ·
    have g27 := bF_236_11 hG
    have g28 := bF_236_12 hG
    have g29 : ((hI σ 259 n19 (σ.1 236 39)).1 236 13).toInt = (σ.1 236 13).toInt := congrArg Int32.toInt rfl
    exact j24 _ hG21 (onm.I onm.rf (by decide)) hR22 (show (σ.1 236 13).toInt = 0 → (σ.1 236 39).toInt ≤ 420 * (σ.1 236 19).toInt + (σ.1 236 11).toInt by omega) (show (σ.1 236 39).toInt ≤ 420 * (σ.1 236 19).toInt + 412 by omega) (show (σ.1 236 11).toInt ≤ (σ.1 236 11).toInt by omega) (show (σ.1 236 13).toInt = 0 → (σ.1 236 13).toInt = 0 by omega) (show (σ.1 236 13).toInt = 0 → (σ.1 236 12).toInt = (σ.1 236 12).toInt by omega) (show (σ.1 236 13).toInt = 0 → (σ.1 236 11).toInt + 1 ≤ (σ.1 236 11).toInt by omega) (show (σ.1 236 39).toInt ≤ (σ.1 236 39).toInt by omega) (show (σ.1 236 33).toInt = (σ.1 236 33).toInt by omega) (by rw [show (σ.1 236 33).toInt.toNat = n19 by omega]; show ((hI σ 259 n19 (σ.1 236 39)).1 259 n19).toInt = _; rw [hI_s] <;> omega) (fun q hq => (show (hI σ 259 n19 (σ.1 236 39)).1 259 q = σ.1 259 q from (hI_n (by omega)))) (show (hI σ 259 n19 (σ.1 236 39)).1 260 = σ.1 260 from (hI_o (by decide))) ⟨fun c hc => ⟨rfl, rfl⟩, fun h9 => absurd h9 (by omega)⟩
  ·
    refine a_aload_n C dX12_term_20 (i := 0) rfl rfl ?_
    have g33 : ((hI σ 259 n19 (σ.1 236 39)).1 236 19).toInt = (σ.1 236 19).toInt := congrArg Int32.toInt rfl
    have g34 : ((hI σ 259 n19 (σ.1 236 39)).1 236 19).toInt = (σ.1 236 19).toInt := congrArg Int32.toInt rfl
    have g35 : ((hI σ 259 n19 (σ.1 236 39)).1 236 39).toInt = (σ.1 236 39).toInt := congrArg Int32.toInt rfl
    have g36 : ((hI σ 259 n19 (σ.1 236 39)).1 236 39).toInt = (σ.1 236 39).toInt := congrArg Int32.toInt rfl
    have g37 : ((hI σ 259 n19 (σ.1 236 39)).1 236 19).toInt = (σ.1 236 19).toInt := congrArg Int32.toInt rfl
    have g38 : ((hI σ 259 n19 (σ.1 236 39)).1 236 13).toInt = (σ.1 236 13).toInt := congrArg Int32.toInt rfl
    have g39 : ((hI σ 259 n19 (σ.1 236 39)).1 236 39).toInt = (σ.1 236 39).toInt := congrArg Int32.toInt rfl
    have g40 : ((hI σ 259 n19 (σ.1 236 39)).1 236 19).toInt = (σ.1 236 19).toInt := congrArg Int32.toInt rfl
    have g41 := bF_236_11 hG
    have g42 : ((hI σ 259 n19 (σ.1 236 39)).1 236 11).toInt = (σ.1 236 11).toInt := congrArg Int32.toInt rfl
    have g43 : ((hI σ 259 n19 (σ.1 236 39)).1 236 13).toInt = (σ.1 236 13).toInt := congrArg Int32.toInt rfl
    have g44 := bF_236_12 hG
    have g45 : ((hI σ 259 n19 (σ.1 236 39)).1 236 12).toInt = (σ.1 236 12).toInt := congrArg Int32.toInt rfl
    have g46 : ((hI σ 259 n19 (σ.1 236 39)).1 236 39).toInt = (σ.1 236 39).toInt := congrArg Int32.toInt rfl
    have g47 : ((hI σ 259 n19 (σ.1 236 39)).1 236 19).toInt = (σ.1 236 19).toInt := congrArg Int32.toInt rfl
    have g48 : ((hI σ 259 n19 (σ.1 236 39)).1 236 19).toInt = (σ.1 236 19).toInt := congrArg Int32.toInt rfl
    have g49 : ((hI σ 259 n19 (σ.1 236 39)).1 236 11).toInt = (σ.1 236 11).toInt := congrArg Int32.toInt rfl
    have g50 : ((hI σ 259 n19 (σ.1 236 39)).1 236 13).toInt = (σ.1 236 13).toInt := congrArg Int32.toInt rfl
    have g51 : ((hI σ 259 n19 (σ.1 236 39)).1 236 12).toInt = (σ.1 236 12).toInt := congrArg Int32.toInt rfl
    have g52 : ((hI σ 259 n19 (σ.1 236 39)).1 236 11).toInt = (σ.1 236 11).toInt := congrArg Int32.toInt rfl
    refine a_callVv C (i := 236) kd_236 (hid 236 (by decide)) ⟨_, _, rfl⟩ (by decide) (S_X12_expression_236 hid hG21 hR22 (by omega) (by omega) (by omega) (by omega) (by omega)) mi_X12_expression ml_RX12_278 rfl rfl (Nat.le_of_ble_eq_true rfl) (Nat.le_of_ble_eq_true rfl) (Nat.le_of_ble_eq_true rfl) dX12_term_21 (fun σ31 q32 => ?_)
    obtain ⟨hG53, ho54, hR55, w56, w57, w58, w59, w60, w61, w62, w63⟩ := q32
    have g64 := bF_236_13 hG53
    have g65 := bF_236_11 hG53
    have g66 := bF_236_12 hG53
    have g67 : (σ31.1 236 33).toInt = (σ.1 236 33).toInt := congrArg Int32.toInt (ho54.1 236 33 (by decide))
    exact j24 _ hG53 (onm.tr (onm.I onm.rf (by decide)) (onm.mono ho54 (by decide))) hR55 (show (σ31.1 236 13).toInt = 0 → (σ31.1 236 39).toInt ≤ 420 * (σ.1 236 19).toInt + (σ31.1 236 11).toInt by omega) (show (σ31.1 236 39).toInt ≤ 420 * (σ.1 236 19).toInt + 412 by omega) (show (σ.1 236 11).toInt ≤ (σ31.1 236 11).toInt by omega) (show (σ31.1 236 13).toInt = 0 → (σ.1 236 13).toInt = 0 by omega) (show (σ31.1 236 13).toInt = 0 → (σ31.1 236 12).toInt = (σ.1 236 12).toInt by omega) (show (σ31.1 236 13).toInt = 0 → (σ.1 236 11).toInt + 1 ≤ (σ31.1 236 11).toInt by omega) (show (σ.1 236 39).toInt ≤ (σ31.1 236 39).toInt by omega) (show (σ31.1 236 33).toInt = (σ.1 236 33).toInt by omega) (by rw [(show σ31.1 259 = (hI σ 259 n19 (σ.1 236 39)).1 259 from (ho54.a (i := 259) (by decide)))]; rw [show (σ.1 236 33).toInt.toNat = n19 by omega]; show ((hI σ 259 n19 (σ.1 236 39)).1 259 n19).toInt = _; rw [hI_s] <;> omega) (fun q hq => (show σ31.1 259 q = σ.1 259 q from ((congrFun (ho54.a (i := 259) (by decide)) q).trans (hI_n (by omega))))) (show σ31.1 260 = σ.1 260 from ((ho54.a (i := 260) (by decide)).trans (hI_o (by decide)))) (show EXh σ σ31 from w63)
theorem dX12_tellLaw_0 : decode cX12_tellLaw 0 = .ok (.aload_n 0, 1) := by decide +kernel
theorem dX12_tellLaw_1 : decode cX12_tellLaw 1 = .ok (.iconst 5, 1) := by decide +kernel
theorem dX12_tellLaw_2 : decode cX12_tellLaw 2 = .ok (.invokevirtual 249, 3) := by decide +kernel
theorem dX12_tellLaw_5 : decode cX12_tellLaw 5 = .ok (.aload_n 0, 1) := by decide +kernel
theorem dX12_tellLaw_6 : decode cX12_tellLaw 6 = .ok (.getfield 230, 3) := by decide +kernel
theorem dX12_tellLaw_9 : decode cX12_tellLaw 9 = .ok (.istore_n 2, 1) := by decide +kernel
theorem dX12_tellLaw_10 : decode cX12_tellLaw 10 = .ok (.iconst 0, 1) := by decide +kernel
theorem dX12_tellLaw_11 : decode cX12_tellLaw 11 = .ok (.istore_n 3, 1) := by decide +kernel
theorem dX12_tellLaw_12 : decode cX12_tellLaw 12 = .ok (.aload_n 0, 1) := by decide +kernel
theorem dX12_tellLaw_13 : decode cX12_tellLaw 13 = .ok (.getfield 191, 3) := by decide +kernel
theorem dX12_tellLaw_16 : decode cX12_tellLaw 16 = .ok (.ifCond .ne 113, 3) := by decide +kernel
theorem dX12_tellLaw_19 : decode cX12_tellLaw 19 = .ok (.aload_n 0, 1) := by decide +kernel
theorem dX12_tellLaw_20 : decode cX12_tellLaw 20 = .ok (.bipush 28, 2) := by decide +kernel
theorem dX12_tellLaw_22 : decode cX12_tellLaw 22 = .ok (.invokevirtual 209, 3) := by decide +kernel
theorem dX12_tellLaw_25 : decode cX12_tellLaw 25 = .ok (.ifCond .eq 104, 3) := by decide +kernel
theorem dX12_tellLaw_28 : decode cX12_tellLaw 28 = .ok (.iload_n 3, 1) := by decide +kernel
theorem dX12_tellLaw_29 : decode cX12_tellLaw 29 = .ok (.iconst 4, 1) := by decide +kernel
theorem dX12_tellLaw_30 : decode cX12_tellLaw 30 = .ok (.if_icmp .ne 8, 3) := by decide +kernel
theorem dX12_tellLaw_33 : decode cX12_tellLaw 33 = .ok (.aload_n 0, 1) := by decide +kernel
theorem dX12_tellLaw_34 : decode cX12_tellLaw 34 = .ok (.iconst 2, 1) := by decide +kernel
theorem dX12_tellLaw_35 : decode cX12_tellLaw 35 = .ok (.invokevirtual 206, 3) := by decide +kernel
theorem dX12_tellLaw_38 : decode cX12_tellLaw 38 = .ok (.aload_n 0, 1) := by decide +kernel
theorem dX12_tellLaw_39 : decode cX12_tellLaw 39 = .ok (.getfield 191, 3) := by decide +kernel
theorem dX12_tellLaw_42 : decode cX12_tellLaw 42 = .ok (.ifCond .le 4, 3) := by decide +kernel
theorem dX12_tellLaw_45 : decode cX12_tellLaw 45 = .ok (.return_, 1) := by decide +kernel
theorem dX12_tellLaw_46 : decode cX12_tellLaw 46 = .ok (.iinc 3 1, 3) := by decide +kernel
theorem dX12_tellLaw_49 : decode cX12_tellLaw 49 = .ok (.aload_n 0, 1) := by decide +kernel
theorem dX12_tellLaw_50 : decode cX12_tellLaw 50 = .ok (.invokevirtual 212, 3) := by decide +kernel
theorem dX12_tellLaw_53 : decode cX12_tellLaw 53 = .ok (.aload_n 0, 1) := by decide +kernel
theorem dX12_tellLaw_54 : decode cX12_tellLaw 54 = .ok (.getfield 76, 3) := by decide +kernel
theorem dX12_tellLaw_57 : decode cX12_tellLaw 57 = .ok (.aload_n 0, 1) := by decide +kernel
theorem dX12_tellLaw_58 : decode cX12_tellLaw 58 = .ok (.getfield 230, 3) := by decide +kernel
theorem dX12_tellLaw_61 : decode cX12_tellLaw 61 = .ok (.iconst 1, 1) := by decide +kernel
theorem dX12_tellLaw_62 : decode cX12_tellLaw 62 = .ok (.bastore, 1) := by decide +kernel
theorem dX12_tellLaw_63 : decode cX12_tellLaw 63 = .ok (.aload_n 0, 1) := by decide +kernel
theorem dX12_tellLaw_64 : decode cX12_tellLaw 64 = .ok (.getfield 80, 3) := by decide +kernel
theorem dX12_tellLaw_67 : decode cX12_tellLaw 67 = .ok (.aload_n 0, 1) := by decide +kernel
theorem dX12_tellLaw_68 : decode cX12_tellLaw 68 = .ok (.getfield 230, 3) := by decide +kernel
theorem dX12_tellLaw_71 : decode cX12_tellLaw 71 = .ok (.aload_n 0, 1) := by decide +kernel
theorem dX12_tellLaw_72 : decode cX12_tellLaw 72 = .ok (.getfield 233, 3) := by decide +kernel
theorem dX12_tellLaw_75 : decode cX12_tellLaw 75 = .ok (.iastore, 1) := by decide +kernel
theorem dX12_tellLaw_76 : decode cX12_tellLaw 76 = .ok (.aload_n 0, 1) := by decide +kernel
theorem dX12_tellLaw_77 : decode cX12_tellLaw 77 = .ok (.invokevirtual 278, 3) := by decide +kernel
theorem dX12_tellLaw_80 : decode cX12_tellLaw 80 = .ok (.aload_n 0, 1) := by decide +kernel
theorem dX12_tellLaw_81 : decode cX12_tellLaw 81 = .ok (.bipush 13, 2) := by decide +kernel
theorem dX12_tellLaw_83 : decode cX12_tellLaw 83 = .ok (.invokevirtual 249, 3) := by decide +kernel
theorem dX12_tellLaw_86 : decode cX12_tellLaw 86 = .ok (.aload_n 0, 1) := by decide +kernel
theorem dX12_tellLaw_87 : decode cX12_tellLaw 87 = .ok (.getfield 83, 3) := by decide +kernel
theorem dX12_tellLaw_90 : decode cX12_tellLaw 90 = .ok (.aload_n 0, 1) := by decide +kernel
theorem dX12_tellLaw_91 : decode cX12_tellLaw 91 = .ok (.getfield 230, 3) := by decide +kernel
theorem dX12_tellLaw_94 : decode cX12_tellLaw 94 = .ok (.aload_n 0, 1) := by decide +kernel
theorem dX12_tellLaw_95 : decode cX12_tellLaw 95 = .ok (.getfield 233, 3) := by decide +kernel
theorem dX12_tellLaw_98 : decode cX12_tellLaw 98 = .ok (.iastore, 1) := by decide +kernel
theorem dX12_tellLaw_99 : decode cX12_tellLaw 99 = .ok (.aload_n 0, 1) := by decide +kernel
theorem dX12_tellLaw_100 : decode cX12_tellLaw 100 = .ok (.getfield 191, 3) := by decide +kernel
theorem dX12_tellLaw_103 : decode cX12_tellLaw 103 = .ok (.ifCond .ne 7, 3) := by decide +kernel
theorem dX12_tellLaw_106 : decode cX12_tellLaw 106 = .ok (.aload_n 0, 1) := by decide +kernel
theorem dX12_tellLaw_107 : decode cX12_tellLaw 107 = .ok (.invokevirtual 278, 3) := by decide +kernel
theorem dX12_tellLaw_110 : decode cX12_tellLaw 110 = .ok (.aload_n 0, 1) := by decide +kernel
theorem dX12_tellLaw_111 : decode cX12_tellLaw 111 = .ok (.bipush 29, 2) := by decide +kernel
theorem dX12_tellLaw_113 : decode cX12_tellLaw 113 = .ok (.invokevirtual 249, 3) := by decide +kernel
theorem dX12_tellLaw_116 : decode cX12_tellLaw 116 = .ok (.aload_n 0, 1) := by decide +kernel
theorem dX12_tellLaw_117 : decode cX12_tellLaw 117 = .ok (.invokevirtual 281, 3) := by decide +kernel
theorem dX12_tellLaw_120 : decode cX12_tellLaw 120 = .ok (.aload_n 0, 1) := by decide +kernel
theorem dX12_tellLaw_121 : decode cX12_tellLaw 121 = .ok (.bipush 30, 2) := by decide +kernel
theorem dX12_tellLaw_123 : decode cX12_tellLaw 123 = .ok (.invokevirtual 249, 3) := by decide +kernel
theorem dX12_tellLaw_126 : decode cX12_tellLaw 126 = .ok (.goto (-114), 3) := by decide +kernel
theorem dX12_tellLaw_129 : decode cX12_tellLaw 129 = .ok (.aload_n 0, 1) := by decide +kernel
theorem dX12_tellLaw_130 : decode cX12_tellLaw 130 = .ok (.getfield 76, 3) := by decide +kernel
theorem dX12_tellLaw_133 : decode cX12_tellLaw 133 = .ok (.aload_n 0, 1) := by decide +kernel
theorem dX12_tellLaw_134 : decode cX12_tellLaw 134 = .ok (.getfield 230, 3) := by decide +kernel
theorem dX12_tellLaw_137 : decode cX12_tellLaw 137 = .ok (.iconst 0, 1) := by decide +kernel
theorem dX12_tellLaw_138 : decode cX12_tellLaw 138 = .ok (.bastore, 1) := by decide +kernel
theorem dX12_tellLaw_139 : decode cX12_tellLaw 139 = .ok (.aload_n 0, 1) := by decide +kernel
theorem dX12_tellLaw_140 : decode cX12_tellLaw 140 = .ok (.invokevirtual 281, 3) := by decide +kernel
theorem dX12_tellLaw_143 : decode cX12_tellLaw 143 = .ok (.aload_n 0, 1) := by decide +kernel
theorem dX12_tellLaw_144 : decode cX12_tellLaw 144 = .ok (.iconst 4, 1) := by decide +kernel
theorem dX12_tellLaw_145 : decode cX12_tellLaw 145 = .ok (.invokevirtual 249, 3) := by decide +kernel
theorem dX12_tellLaw_148 : decode cX12_tellLaw 148 = .ok (.aload_n 0, 1) := by decide +kernel
theorem dX12_tellLaw_149 : decode cX12_tellLaw 149 = .ok (.getfield 191, 3) := by decide +kernel
theorem dX12_tellLaw_152 : decode cX12_tellLaw 152 = .ok (.ifCond .le 4, 3) := by decide +kernel
theorem dX12_tellLaw_155 : decode cX12_tellLaw 155 = .ok (.return_, 1) := by decide +kernel
theorem dX12_tellLaw_156 : decode cX12_tellLaw 156 = .ok (.aload_n 0, 1) := by decide +kernel
theorem dX12_tellLaw_157 : decode cX12_tellLaw 157 = .ok (.getfield 70, 3) := by decide +kernel
theorem dX12_tellLaw_160 : decode cX12_tellLaw 160 = .ok (.iconst 4, 1) := by decide +kernel
theorem dX12_tellLaw_161 : decode cX12_tellLaw 161 = .ok (.aload_n 0, 1) := by decide +kernel
theorem dX12_tellLaw_162 : decode cX12_tellLaw 162 = .ok (.getfield 224, 3) := by decide +kernel
theorem dX12_tellLaw_165 : decode cX12_tellLaw 165 = .ok (.imul, 1) := by decide +kernel
theorem dX12_tellLaw_166 : decode cX12_tellLaw 166 = .ok (.iload_n 1, 1) := by decide +kernel
theorem dX12_tellLaw_167 : decode cX12_tellLaw 167 = .ok (.iadd, 1) := by decide +kernel
theorem dX12_tellLaw_168 : decode cX12_tellLaw 168 = .ok (.iload_n 2, 1) := by decide +kernel
theorem dX12_tellLaw_169 : decode cX12_tellLaw 169 = .ok (.iastore, 1) := by decide +kernel
theorem dX12_tellLaw_170 : decode cX12_tellLaw 170 = .ok (.aload_n 0, 1) := by decide +kernel
theorem dX12_tellLaw_171 : decode cX12_tellLaw 171 = .ok (.getfield 73, 3) := by decide +kernel
theorem dX12_tellLaw_174 : decode cX12_tellLaw 174 = .ok (.iconst 4, 1) := by decide +kernel
theorem dX12_tellLaw_175 : decode cX12_tellLaw 175 = .ok (.aload_n 0, 1) := by decide +kernel
theorem dX12_tellLaw_176 : decode cX12_tellLaw 176 = .ok (.getfield 224, 3) := by decide +kernel
theorem dX12_tellLaw_179 : decode cX12_tellLaw 179 = .ok (.imul, 1) := by decide +kernel
theorem dX12_tellLaw_180 : decode cX12_tellLaw 180 = .ok (.iload_n 1, 1) := by decide +kernel
theorem dX12_tellLaw_181 : decode cX12_tellLaw 181 = .ok (.iadd, 1) := by decide +kernel
theorem dX12_tellLaw_182 : decode cX12_tellLaw 182 = .ok (.aload_n 0, 1) := by decide +kernel
theorem dX12_tellLaw_183 : decode cX12_tellLaw 183 = .ok (.getfield 230, 3) := by decide +kernel
theorem dX12_tellLaw_186 : decode cX12_tellLaw 186 = .ok (.iastore, 1) := by decide +kernel
theorem dX12_tellLaw_187 : decode cX12_tellLaw 187 = .ok (.return_, 1) := by decide +kernel
set_option maxHeartbeats 4000000 in
set_option maxRecDepth 100000 in
theorem S_X12_tellLaw_236 {l : Launch} {D : va_G} {ids : List Nat} {ad : Nat → Nat} {ca : Nat → ClassId} {σ : HS} {x1 : Int32} (hid : ∀ i, i < 277 → i ∈ ids) (hG : GIm σ) {s : HS} (hR : AGm s σ) (hx1 : 0 ≤ x1.toInt ∧ x1.toInt ≤ 3) (hp0 : (σ.1 236 19).toInt + (s.1 236 18).toInt = 1) (hp1 : 130 * (σ.1 236 19).toInt ≤ (σ.1 236 33).toInt) (hp2 : (σ.1 236 33).toInt ≤ 130 * (σ.1 236 19).toInt + 110) (hp3 : 420 * (σ.1 236 19).toInt ≤ (σ.1 236 39).toInt) (hp4 : (σ.1 236 39).toInt ≤ 420 * (σ.1 236 19).toInt + 412) (hp5 : (σ.1 236 13).toInt = 0 → (σ.1 236 39).toInt ≤ 420 * (σ.1 236 19).toInt + (σ.1 236 11).toInt) (hp6 : (σ.1 236 13).toInt = 0 → 4 * ((σ.1 236 33).toInt - 130 * (σ.1 236 19).toInt) + 1 ≤ (σ.1 236 11).toInt) (hp7 : (σ.1 236 13).toInt = 0 → (σ.1 236 12).toInt ≤ 6) (hp8 : (σ.1 236 13).toInt = 0 → LAW σ) : Kv l D ids ad ca yX12_tellLaw cX12_tellLaw 4 5 103 [.ref (ad 236), .int x1] σ (fun σ1 => (GIm σ1) ∧ (onm [254, 255, 256, 257, 258, 259, 260, 261, 262, 263, 1011, 1012, 1013, 1014, 1033, 1039, 1043] σ σ1) ∧ (AGm s σ1) ∧ (130 * (σ.1 236 19).toInt ≤ (σ1.1 236 33).toInt) ∧ (420 * (σ.1 236 19).toInt ≤ (σ1.1 236 39).toInt) ∧ ((σ1.1 236 13).toInt = 0 → (σ1.1 236 39).toInt ≤ 420 * (σ.1 236 19).toInt + (σ1.1 236 11).toInt) ∧ ((σ1.1 236 13).toInt = 0 → 4 * ((σ1.1 236 33).toInt - 130 * (σ.1 236 19).toInt) ≤ (σ1.1 236 11).toInt) ∧ ((σ1.1 236 13).toInt = 0 → (σ1.1 236 12).toInt ≤ 6) ∧ ((σ1.1 236 13).toInt = 0 → (σ.1 236 13).toInt = 0) ∧ ((σ.1 236 11).toInt ≤ (σ1.1 236 11).toInt) ∧ ((σ1.1 236 13).toInt = 0 → (σ.1 236 11).toInt + 1 ≤ (σ1.1 236 11).toInt) ∧ ((σ1.1 236 13).toInt = 0 → LAW σ1)) := by
  refine Kv.of (by decide) (Nat.le_of_ble_eq_true rfl) 2 (fun Γ C Rt => ?_)
  show AW ids ad ca Γ 0 [some (.ref (ad 236)), some (.int x1), none, none] [] σ
  have j129 : ∀ (σq129 : HS) (y129_2 : Int32), GIm σq129 → onm [254, 255, 256, 257, 258, 259, 260, 261, 262, 263, 1011, 1012, 1013, 1014, 1033, 1039, 1043] σ σq129 → AGm s σq129 → (130 * (σ.1 236 19).toInt ≤ (σq129.1 236 33).toInt) → ((σq129.1 236 33).toInt ≤ 130 * (σ.1 236 19).toInt + 110) → (420 * (σ.1 236 19).toInt ≤ (σq129.1 236 39).toInt) → ((σq129.1 236 39).toInt ≤ 420 * (σ.1 236 19).toInt + 412) → ((σq129.1 236 13).toInt = 0 → (σq129.1 236 39).toInt ≤ 420 * (σ.1 236 19).toInt + (σq129.1 236 11).toInt) → ((σq129.1 236 13).toInt = 0 → 4 * ((σq129.1 236 33).toInt - 130 * (σ.1 236 19).toInt) + 2 ≤ (σq129.1 236 11).toInt) → ((σq129.1 236 13).toInt = 0 → (σq129.1 236 12).toInt ≤ 6) → ((σq129.1 236 13).toInt = 0 → (σ.1 236 13).toInt = 0) → ((σ.1 236 11).toInt ≤ (σq129.1 236 11).toInt) → ((σq129.1 236 11).toInt ≤ 400) → ((σq129.1 236 13).toInt = 0 → (σ.1 236 11).toInt + 1 ≤ (σq129.1 236 11).toInt) → (130 * (σ.1 236 19).toInt ≤ y129_2.toInt) → (y129_2.toInt ≤ (σq129.1 236 33).toInt) → ((σq129.1 236 13).toInt = 0 → LAW σq129) → AW ids ad ca Γ 129 [some (.ref (ad 236)), some (.int x1), some (.int y129_2), none] [] σq129 := by
    intro σq129 y129_2 hGq129 hoq129 hRq129 hx129_0 hx129_1 hx129_2 hx129_3 hx129_4 hx129_5 hx129_6 hx129_7 hx129_8 hx129_9 hx129_10 hx129_11 hx129_12 hx129_13
    have g1 := bF_236_11 hGq129
    have g2 := bF_236_12 hGq129
    have g3 := bF_236_13 hGq129
    have g4 := bF_236_19 hGq129
    have g5 : (σq129.1 236 19).toInt = (σ.1 236 19).toInt := congrArg Int32.toInt (hoq129.1 236 19 (by decide))
    refine a_aload_n C dX12_tellLaw_129 (i := 0) rfl rfl ?_
    refine a_get C fl_RX12_76 (i := 236) kd_236 (hid 236 (by decide)) (v := .ref (ad 256)) rfl dX12_tellLaw_130 ?_
    refine a_aload_n C dX12_tellLaw_133 (i := 0) rfl rfl ?_
    refine a_get C fl_RX12_230 (i := 236) kd_236 (hid 236 (by decide)) (v := .int (σq129.1 236 33)) rfl dX12_tellLaw_134 ?_
    refine s_iconst C dX12_tellLaw_137 (0) (by decide) (fun z6 h7 => ?_)
    refine s_zast C (i := 256) (nar_v (by omega)) kd_256 (hid 256 (by decide)) al_256 (by omega) (by omega) dX12_tellLaw_138 (fun n8 h9 => ?_)
    have hG10 := wA_256 (v := z6) (j := n8) hGq129
    have g12 : ((hI σq129 256 n8 z6).1 236 19).toInt = (σq129.1 236 19).toInt := congrArg Int32.toInt rfl
    have hR11 := AGm.W (i := 256) (k := n8) (v := z6) hRq129 (by decide) (by omega) (by omega) (by omega) (by omega) (by omega)
    refine a_aload_n C dX12_tellLaw_139 (i := 0) rfl rfl ?_
    have g16 : ((hI σq129 256 n8 z6).1 236 19).toInt = (σq129.1 236 19).toInt := congrArg Int32.toInt rfl
    have g17 : ((hI σq129 256 n8 z6).1 236 19).toInt = (σq129.1 236 19).toInt := congrArg Int32.toInt rfl
    have g18 : ((hI σq129 256 n8 z6).1 236 39).toInt = (σq129.1 236 39).toInt := congrArg Int32.toInt rfl
    have g19 : ((hI σq129 256 n8 z6).1 236 39).toInt = (σq129.1 236 39).toInt := congrArg Int32.toInt rfl
    have g20 : ((hI σq129 256 n8 z6).1 236 19).toInt = (σq129.1 236 19).toInt := congrArg Int32.toInt rfl
    have g21 : ((hI σq129 256 n8 z6).1 236 13).toInt = (σq129.1 236 13).toInt := congrArg Int32.toInt rfl
    have g22 : ((hI σq129 256 n8 z6).1 236 39).toInt = (σq129.1 236 39).toInt := congrArg Int32.toInt rfl
    have g23 : ((hI σq129 256 n8 z6).1 236 19).toInt = (σq129.1 236 19).toInt := congrArg Int32.toInt rfl
    have g24 : ((hI σq129 256 n8 z6).1 236 11).toInt = (σq129.1 236 11).toInt := congrArg Int32.toInt rfl
    have g25 : ((hI σq129 256 n8 z6).1 236 13).toInt = (σq129.1 236 13).toInt := congrArg Int32.toInt rfl
    have g26 : ((hI σq129 256 n8 z6).1 236 12).toInt = (σq129.1 236 12).toInt := congrArg Int32.toInt rfl
    have g27 : ((hI σq129 256 n8 z6).1 236 19).toInt = (σq129.1 236 19).toInt := congrArg Int32.toInt rfl
    have g28 : ((hI σq129 256 n8 z6).1 236 33).toInt = (σq129.1 236 33).toInt := congrArg Int32.toInt rfl
    have g29 : ((hI σq129 256 n8 z6).1 236 33).toInt = (σq129.1 236 33).toInt := congrArg Int32.toInt rfl
    have g30 : ((hI σq129 256 n8 z6).1 236 19).toInt = (σq129.1 236 19).toInt := congrArg Int32.toInt rfl
    have g31 : ((hI σq129 256 n8 z6).1 236 19).toInt = (σq129.1 236 19).toInt := congrArg Int32.toInt rfl
    have g32 : ((hI σq129 256 n8 z6).1 236 19).toInt = (σq129.1 236 19).toInt := congrArg Int32.toInt rfl
    have g33 : ((hI σq129 256 n8 z6).1 236 11).toInt = (σq129.1 236 11).toInt := congrArg Int32.toInt rfl
    have g34 : ((hI σq129 256 n8 z6).1 236 13).toInt = (σq129.1 236 13).toInt := congrArg Int32.toInt rfl
    have g35 : ((hI σq129 256 n8 z6).1 236 12).toInt = (σq129.1 236 12).toInt := congrArg Int32.toInt rfl
    have g36 : ((hI σq129 256 n8 z6).1 236 11).toInt = (σq129.1 236 11).toInt := congrArg Int32.toInt rfl
    have g37 : ((hI σq129 256 n8 z6).1 236 39).toInt = (σq129.1 236 39).toInt := congrArg Int32.toInt rfl
    have g38 : ((hI σq129 256 n8 z6).1 236 33).toInt = (σq129.1 236 33).toInt := congrArg Int32.toInt rfl
    refine a_callVv C (i := 236) kd_236 (hid 236 (by decide)) ⟨_, _, rfl⟩ (by decide) (S_X12_term_236 hid hG10 hR11 (by omega) (by omega) (by omega) (by omega) (by omega) (by omega) (by omega)) mi_X12_term ml_RX12_281 rfl rfl (Nat.le_of_ble_eq_true rfl) (Nat.le_of_ble_eq_true rfl) (Nat.le_of_ble_eq_true rfl) dX12_tellLaw_140 (fun σ14 q15 => ?_)
    obtain ⟨hG39, ho40, hR41, w42, w43, w44, w45, w46, w47, w48, w49, w50⟩ := q15
    have g51 := bF_236_11 hG39
    have g52 := bF_236_12 hG39
    have g53 := bF_236_13 hG39
    have g54 := bF_236_19 hG39
    have g55 : (σ14.1 236 19).toInt = (σq129.1 236 19).toInt := congrArg Int32.toInt (ho40.1 236 19 (by decide))
    have hT140 : TL1 σq129 (hI σq129 256 n8 z6) := ⟨⟨by omega, by omega, by omega⟩, ⟨rfl, rfl, rfl, rfl⟩, fun q hq => ⟨hI_n (by omega), rfl, rfl⟩, fun c hc => ⟨rfl, rfl⟩, fun _ hn => absurd (by rw [show (σq129.1 236 33).toInt.toNat = n8 by omega]; show ((hI σq129 256 n8 z6).1 256 n8).toInt = 0; rw [hI_s]; omega) hn⟩
    have hL140 : (σ14.1 236 13).toInt = 0 → LAW σ14 := fun h9 => LAW.add (hx129_13 (by omega)) hT140 w50 (by omega) (show σ14.1 254 = (hI σq129 256 n8 z6).1 254 from (ho40.a (i := 254) (by decide))) (show σ14.1 255 = (hI σq129 256 n8 z6).1 255 from (ho40.a (i := 255) (by decide))) (show σ14.1 256 = (hI σq129 256 n8 z6).1 256 from (ho40.a (i := 256) (by decide))) (show σ14.1 257 = (hI σq129 256 n8 z6).1 257 from (ho40.a (i := 257) (by decide))) (show σ14.1 258 = (hI σq129 256 n8 z6).1 258 from (ho40.a (i := 258) (by decide))) (by omega) (by omega) (by omega) (by omega) (by omega) (by omega) (by omega)
    refine a_aload_n C dX12_tellLaw_143 (i := 0) rfl rfl ?_
    refine s_iconst C dX12_tellLaw_144 (4) (by decide) (fun z56 h57 => ?_)
    refine a_callVv C (i := 236) kd_236 (hid 236 (by decide)) ⟨_, _, rfl⟩ (by decide) (S_X12_must_236 (x1 := z56) hid hG39) mi_X12_must ml_RX12_249 rfl rfl (Nat.le_of_ble_eq_true rfl) (Nat.le_of_ble_eq_true rfl) (Nat.le_of_ble_eq_true rfl) dX12_tellLaw_145 (fun σ59 q60 => ?_)
    obtain ⟨hG61, ho62, w64, w65, w66, w67, w68⟩ := q60
    have hR63 := AGm.ony hR41 ho62 (by decide)
    have g69 := bF_236_11 hG61
    have g70 := bF_236_12 hG61
    have g71 : (σ59.1 236 12).toInt = (σ14.1 236 12).toInt := congrArg Int32.toInt (ho62.1 236 12 (by decide))
    have g72 := bF_236_13 hG61
    have g73 := bF_236_19 hG61
    have g74 : (σ59.1 236 19).toInt = (σ14.1 236 19).toInt := congrArg Int32.toInt (ho62.1 236 19 (by decide))
    have g75 : (σ59.1 236 33).toInt = (σ14.1 236 33).toInt := congrArg Int32.toInt (ho62.1 236 33 (by decide))
    have g76 : (σ59.1 236 39).toInt = (σ14.1 236 39).toInt := congrArg Int32.toInt (ho62.1 236 39 (by decide))
    have hL145 : (σ59.1 236 13).toInt = 0 → LAW σ59 := fun h9 => LAW.ony (hL140 (by omega)) ho62 (by decide)
    refine a_aload_n C dX12_tellLaw_148 (i := 0) rfl rfl ?_
    refine a_get C fl_RX12_191 (i := 236) kd_236 (hid 236 (by decide)) (v := .int (σ59.1 236 13)) rfl dX12_tellLaw_149 ?_
    refine s_if_le C dX12_tellLaw_152 (tgt := 156) rfl (fun c77 => ?_) (fun c77 => ?_)
    ·
      refine a_aload_n C dX12_tellLaw_156 (i := 0) rfl rfl ?_
      refine a_get C fl_RX12_70 (i := 236) kd_236 (hid 236 (by decide)) (v := .ref (ad 254)) rfl dX12_tellLaw_157 ?_
      refine s_iconst C dX12_tellLaw_160 (4) (by decide) (fun z78 h79 => ?_)
      refine a_aload_n C dX12_tellLaw_161 (i := 0) rfl rfl ?_
      refine a_get C fl_RX12_224 (i := 236) kd_236 (hid 236 (by decide)) (v := .int (σ59.1 236 19)) rfl dX12_tellLaw_162 ?_
      refine s_imuld C dX12_tellLaw_165 (4) (by omega) (by omega) (fun z80 h81 => ?_)
      refine a_iload_n C dX12_tellLaw_166 (i := 1) rfl rfl ?_
      refine s_iadd C dX12_tellLaw_167 (by omega) (fun z82 h83 => ?_)
      refine a_iload_n C dX12_tellLaw_168 (i := 2) rfl rfl ?_
      refine s_iast C (i := 254) kd_254 (hid 254 (by decide)) al_254 (by omega) (by omega) dX12_tellLaw_169 (fun n84 h85 => ?_)
      have hG86 := wA_254 (v := y129_2) (j := n84) hG61
      have g88 : ((hI σ59 254 n84 y129_2).1 236 19).toInt = (σ59.1 236 19).toInt := congrArg Int32.toInt rfl
      have hR87 := AGm.W (i := 254) (k := n84) (v := y129_2) hR63 (by decide) (by omega) (by omega) (by omega) (by omega) (by omega)
      refine a_aload_n C dX12_tellLaw_170 (i := 0) rfl rfl ?_
      refine a_get C fl_RX12_73 (i := 236) kd_236 (hid 236 (by decide)) (v := .ref (ad 255)) rfl dX12_tellLaw_171 ?_
      refine s_iconst C dX12_tellLaw_174 (4) (by decide) (fun z89 h90 => ?_)
      refine a_aload_n C dX12_tellLaw_175 (i := 0) rfl rfl ?_
      refine a_get C fl_RX12_224 (i := 236) kd_236 (hid 236 (by decide)) (v := .int (σ59.1 236 19)) rfl dX12_tellLaw_176 ?_
      refine s_imuld C dX12_tellLaw_179 (4) (by omega) (by omega) (fun z91 h92 => ?_)
      refine a_iload_n C dX12_tellLaw_180 (i := 1) rfl rfl ?_
      refine s_iadd C dX12_tellLaw_181 (by omega) (fun z93 h94 => ?_)
      refine a_aload_n C dX12_tellLaw_182 (i := 0) rfl rfl ?_
      refine a_get C fl_RX12_230 (i := 236) kd_236 (hid 236 (by decide)) (v := .int (σ59.1 236 33)) rfl dX12_tellLaw_183 ?_
      refine s_iast C (i := 255) kd_255 (hid 255 (by decide)) al_255 (by omega) (by omega) dX12_tellLaw_186 (fun n95 h96 => ?_)
      have hG97 := wA_255 (v := (σ59.1 236 33)) (j := n95) hG86
      have g99 : ((hI (hI σ59 254 n84 y129_2) 255 n95 (σ59.1 236 33)).1 236 19).toInt = (σ59.1 236 19).toInt := congrArg Int32.toInt rfl
      have hR98 := AGm.W (i := 255) (k := n95) (v := (σ59.1 236 33)) hR87 (by decide) (by omega) (by omega) (by omega) (by omega) (by omega)
      have g100 : ((hI (hI σ59 254 n84 y129_2) 255 n95 (σ59.1 236 33)).1 236 13).toInt = (σ59.1 236 13).toInt := congrArg Int32.toInt rfl
      have g101 : ((hI (hI σ59 254 n84 y129_2) 255 n95 (σ59.1 236 33)).1 236 19).toInt = (σ59.1 236 19).toInt := congrArg Int32.toInt rfl
      have g102 : ((hI (hI σ59 254 n84 y129_2) 255 n95 (σ59.1 236 33)).1 236 33).toInt = (σ59.1 236 33).toInt := congrArg Int32.toInt rfl
      have g103 : ((hI (hI σ59 254 n84 y129_2) 255 n95 (σ59.1 236 33)).1 236 39).toInt = (σ59.1 236 39).toInt := congrArg Int32.toInt rfl
      exact a_vret Rt dX12_tellLaw_187 (⟨hG97, (onm.I (onm.I (onm.tr (onm.tr (onm.I hoq129 (by decide)) (onm.mono ho40 (by decide))) (onm.mono ho62 (by decide))) (by decide)) (by decide)), hR98, (show 130 * (σ.1 236 19).toInt ≤ (σ59.1 236 33).toInt by intros; omega), (show 420 * (σ.1 236 19).toInt ≤ (σ59.1 236 39).toInt by intros; omega), (show (σ59.1 236 13).toInt = 0 → (σ59.1 236 39).toInt ≤ 420 * (σ.1 236 19).toInt + (σ59.1 236 11).toInt by intros; omega), (show (σ59.1 236 13).toInt = 0 → 4 * ((σ59.1 236 33).toInt - 130 * (σ.1 236 19).toInt) ≤ (σ59.1 236 11).toInt by intros; omega), (show (σ59.1 236 13).toInt = 0 → (σ59.1 236 12).toInt ≤ 6 by intros; omega), (show (σ59.1 236 13).toInt = 0 → (σ.1 236 13).toInt = 0 by intros; omega), (show (σ.1 236 11).toInt ≤ (σ59.1 236 11).toInt by intros; omega), (show (σ59.1 236 13).toInt = 0 → (σ.1 236 11).toInt + 1 ≤ (σ59.1 236 11).toInt by intros; omega), (fun _ => LAW.law (x1 := x1) (hL145 (by omega)) (by omega) (by omega) (by omega) (by omega) (by omega) rfl rfl rfl rfl rfl rfl rfl (fun j hj => ⟨(show (hI (hI σ59 254 n84 y129_2) 255 n95 (σ59.1 236 33)).1 254 j = σ59.1 254 j from ((congrFun (hI_o (by decide)) j).trans (hI_n (by omega)))), (show (hI (hI σ59 254 n84 y129_2) 255 n95 (σ59.1 236 33)).1 255 j = σ59.1 255 j from ((hI_n (by omega)).trans (congrFun (hI_o (by decide)) j)))⟩) (by rw [show (4 * (σ59.1 236 19).toInt + x1.toInt).toNat = n84 by omega]; show 130 * _ ≤ ((hI σ59 254 n84 y129_2).1 254 n84).toInt ∧ ((hI σ59 254 n84 y129_2).1 254 n84).toInt ≤ 260; rw [hI_s]; omega) (by rw [show (4 * (σ59.1 236 19).toInt + x1.toInt).toNat = n95 by omega]; show ((hI (hI σ59 254 n84 y129_2) 255 n95 (σ59.1 236 33)).1 255 n95).toInt = _; rw [hI_s] <;> omega) (by omega))⟩)
    ·
      exact a_vret Rt dX12_tellLaw_155 (⟨hG61, (onm.tr (onm.tr (onm.I hoq129 (by decide)) (onm.mono ho40 (by decide))) (onm.mono ho62 (by decide))), hR63, (show 130 * (σ.1 236 19).toInt ≤ (σ59.1 236 33).toInt by intros; omega), (show 420 * (σ.1 236 19).toInt ≤ (σ59.1 236 39).toInt by intros; omega), (show (σ59.1 236 13).toInt = 0 → (σ59.1 236 39).toInt ≤ 420 * (σ.1 236 19).toInt + (σ59.1 236 11).toInt by intros; omega), (show (σ59.1 236 13).toInt = 0 → 4 * ((σ59.1 236 33).toInt - 130 * (σ.1 236 19).toInt) ≤ (σ59.1 236 11).toInt by intros; omega), (show (σ59.1 236 13).toInt = 0 → (σ59.1 236 12).toInt ≤ 6 by intros; omega), (show (σ59.1 236 13).toInt = 0 → (σ.1 236 13).toInt = 0 by intros; omega), (show (σ.1 236 11).toInt ≤ (σ59.1 236 11).toInt by intros; omega), (show (σ59.1 236 13).toInt = 0 → (σ.1 236 11).toInt + 1 ≤ (σ59.1 236 11).toInt by intros; omega), (fun h9 => absurd h9 (by omega))⟩)
  have j12 : ∀ (d12 : Nat) (σq12 : HS) (y12_2 : Int32) (y12_3 : Int32), 4 - y12_3.toInt < d12 → GIm σq12 → onm [254, 255, 256, 257, 258, 259, 260, 261, 262, 263, 1011, 1012, 1013, 1014, 1033, 1039, 1043] σ σq12 → AGm s σq12 → 0 ≤ y12_3.toInt ∧ y12_3.toInt ≤ 4 → (130 * (σ.1 236 19).toInt ≤ (σq12.1 236 33).toInt) → ((σq12.1 236 33).toInt ≤ 130 * (σ.1 236 19).toInt + 110) → (420 * (σ.1 236 19).toInt ≤ (σq12.1 236 39).toInt) → ((σq12.1 236 39).toInt ≤ 420 * (σ.1 236 19).toInt + 412) → ((σq12.1 236 13).toInt = 0 → (σq12.1 236 39).toInt ≤ 420 * (σ.1 236 19).toInt + (σq12.1 236 11).toInt) → ((σq12.1 236 13).toInt = 0 → 4 * ((σq12.1 236 33).toInt - 130 * (σ.1 236 19).toInt) + 2 ≤ (σq12.1 236 11).toInt) → ((σq12.1 236 13).toInt = 0 → (σq12.1 236 12).toInt ≤ 6) → ((σq12.1 236 13).toInt = 0 → (σ.1 236 13).toInt = 0) → ((σ.1 236 11).toInt ≤ (σq12.1 236 11).toInt) → ((σq12.1 236 11).toInt ≤ 400) → ((σq12.1 236 13).toInt = 0 → (σ.1 236 11).toInt + 1 ≤ (σq12.1 236 11).toInt) → (130 * (σ.1 236 19).toInt ≤ y12_2.toInt) → (y12_2.toInt ≤ (σq12.1 236 33).toInt) → ((σq12.1 236 13).toInt = 0 → LAW σq12) → AW ids ad ca Γ 12 [some (.ref (ad 236)), some (.int x1), some (.int y12_2), some (.int y12_3)] [] σq12 := by
    intro d12
    induction d12 with
    | zero =>
      intro σq12 y12_2 y12_3 hd12 hGq12 hoq12 hRq12 hx12_0 hx12_1 hx12_2 hx12_3 hx12_4 hx12_5 hx12_6 hx12_7 hx12_8 hx12_9 hx12_10 hx12_11 hx12_12 hx12_13 hx12_14
      exfalso
      omega
    | succ d12 ih12 =>
      intro σq12 y12_2 y12_3 hd12 hGq12 hoq12 hRq12 hx12_0 hx12_1 hx12_2 hx12_3 hx12_4 hx12_5 hx12_6 hx12_7 hx12_8 hx12_9 hx12_10 hx12_11 hx12_12 hx12_13 hx12_14
      have j110 : ∀ (σq110 : HS) (y110_3 : Int32), GIm σq110 → onm [254, 255, 256, 257, 258, 259, 260, 261, 262, 263, 1011, 1012, 1013, 1014, 1033, 1039, 1043] σ σq110 → AGm s σq110 → 1 ≤ y110_3.toInt ∧ y110_3.toInt ≤ 5 → ((σq12.1 236 13).toInt = 0) → ((σq110.1 236 33).toInt = (σq12.1 236 33).toInt) → (420 * (σ.1 236 19).toInt ≤ (σq110.1 236 39).toInt) → ((σq110.1 236 39).toInt ≤ 420 * (σ.1 236 19).toInt + 412) → ((σq110.1 236 13).toInt = 0 → (σq110.1 236 39).toInt ≤ 420 * (σ.1 236 19).toInt + (σq110.1 236 11).toInt) → ((σq110.1 236 13).toInt = 0 → (σq110.1 236 12).toInt ≤ 6) → ((σq110.1 236 13).toInt = 0 → (σ.1 236 13).toInt = 0) → ((σq12.1 236 11).toInt ≤ (σq110.1 236 11).toInt) → ((σq110.1 236 11).toInt ≤ 400) → ((σq110.1 236 13).toInt = 0 → (σq12.1 236 11).toInt + 4 ≤ (σq110.1 236 11).toInt) → (y110_3.toInt = y12_3.toInt + 1) → (y12_3.toInt ≤ 3) → (TL1 σq12 σq110) → AW ids ad ca Γ 110 [some (.ref (ad 236)), some (.int x1), some (.int y12_2), some (.int y110_3)] [] σq110 := by
        intro σq110 y110_3 hGq110 hoq110 hRq110 hx110_0 hx110_1 hx110_2 hx110_3 hx110_4 hx110_5 hx110_6 hx110_7 hx110_8 hx110_9 hx110_10 hx110_11 hx110_12 hx110_13
        have g104 := bF_236_11 hGq110
        have g105 := bF_236_12 hGq110
        have g106 := bF_236_13 hGq110
        have g107 := bF_236_19 hGq110
        have g108 : (σq110.1 236 19).toInt = (σ.1 236 19).toInt := congrArg Int32.toInt (hoq110.1 236 19 (by decide))
        refine a_aload_n C dX12_tellLaw_110 (i := 0) rfl rfl ?_
        refine s_bipush C dX12_tellLaw_111 (29) (by decide) (fun z109 h110 => ?_)
        refine a_callVv C (i := 236) kd_236 (hid 236 (by decide)) ⟨_, _, rfl⟩ (by decide) (S_X12_must_236 (x1 := z109) hid hGq110) mi_X12_must ml_RX12_249 rfl rfl (Nat.le_of_ble_eq_true rfl) (Nat.le_of_ble_eq_true rfl) (Nat.le_of_ble_eq_true rfl) dX12_tellLaw_113 (fun σ112 q113 => ?_)
        obtain ⟨hG114, ho115, w117, w118, w119, w120, w121⟩ := q113
        have hR116 := AGm.ony hRq110 ho115 (by decide)
        have g122 := bF_236_11 hG114
        have g123 := bF_236_12 hG114
        have g124 : (σ112.1 236 12).toInt = (σq110.1 236 12).toInt := congrArg Int32.toInt (ho115.1 236 12 (by decide))
        have g125 := bF_236_13 hG114
        have g126 := bF_236_19 hG114
        have g127 : (σ112.1 236 19).toInt = (σq110.1 236 19).toInt := congrArg Int32.toInt (ho115.1 236 19 (by decide))
        have g128 : (σ112.1 236 33).toInt = (σq110.1 236 33).toInt := congrArg Int32.toInt (ho115.1 236 33 (by decide))
        have g129 : (σ112.1 236 39).toInt = (σq110.1 236 39).toInt := congrArg Int32.toInt (ho115.1 236 39 (by decide))
        have hT113 := TL1.ony hx110_13 ho115 (by decide) (by omega)
        refine a_aload_n C dX12_tellLaw_116 (i := 0) rfl rfl ?_
        refine a_callVv C (i := 236) kd_236 (hid 236 (by decide)) ⟨_, _, rfl⟩ (by decide) (S_X12_term_236 hid hG114 hR116 (by omega) (by omega) (by omega) (by omega) (by omega) (by omega) (by omega)) mi_X12_term ml_RX12_281 rfl rfl (Nat.le_of_ble_eq_true rfl) (Nat.le_of_ble_eq_true rfl) (Nat.le_of_ble_eq_true rfl) dX12_tellLaw_117 (fun σ131 q132 => ?_)
        obtain ⟨hG133, ho134, hR135, w136, w137, w138, w139, w140, w141, w142, w143, w144⟩ := q132
        have g145 := bF_236_11 hG133
        have g146 := bF_236_12 hG133
        have g147 := bF_236_13 hG133
        have g148 := bF_236_19 hG133
        have g149 : (σ131.1 236 19).toInt = (σ112.1 236 19).toInt := congrArg Int32.toInt (ho134.1 236 19 (by decide))
        refine a_aload_n C dX12_tellLaw_120 (i := 0) rfl rfl ?_
        refine s_bipush C dX12_tellLaw_121 (30) (by decide) (fun z150 h151 => ?_)
        refine a_callVv C (i := 236) kd_236 (hid 236 (by decide)) ⟨_, _, rfl⟩ (by decide) (S_X12_must_236 (x1 := z150) hid hG133) mi_X12_must ml_RX12_249 rfl rfl (Nat.le_of_ble_eq_true rfl) (Nat.le_of_ble_eq_true rfl) (Nat.le_of_ble_eq_true rfl) dX12_tellLaw_123 (fun σ153 q154 => ?_)
        obtain ⟨hG155, ho156, w158, w159, w160, w161, w162⟩ := q154
        have hR157 := AGm.ony hR135 ho156 (by decide)
        refine a_goto C dX12_tellLaw_126 (tgt := 12) rfl ?_
        have g163 : (σ153.1 236 33).toInt = (σ131.1 236 33).toInt := congrArg Int32.toInt (ho156.1 236 33 (by decide))
        have g164 : (σ153.1 236 39).toInt = (σ131.1 236 39).toInt := congrArg Int32.toInt (ho156.1 236 39 (by decide))
        have g165 := bF_236_13 hG155
        have g166 := bF_236_11 hG155
        have g167 := bF_236_12 hG155
        have g168 : (σ153.1 236 12).toInt = (σ131.1 236 12).toInt := congrArg Int32.toInt (ho156.1 236 12 (by decide))
        have g169 := bF_236_19 hG155
        have g170 : (σ153.1 236 19).toInt = (σ131.1 236 19).toInt := congrArg Int32.toInt (ho156.1 236 19 (by decide))
        exact ih12 _ y12_2 y110_3 (by omega) hG155 (onm.tr (onm.tr (onm.tr hoq110 (onm.mono ho115 (by decide))) (onm.mono ho134 (by decide))) (onm.mono ho156 (by decide))) hR157 (by omega) (show 130 * (σ.1 236 19).toInt ≤ (σ153.1 236 33).toInt by omega) (show (σ153.1 236 33).toInt ≤ 130 * (σ.1 236 19).toInt + 110 by omega) (show 420 * (σ.1 236 19).toInt ≤ (σ153.1 236 39).toInt by omega) (show (σ153.1 236 39).toInt ≤ 420 * (σ.1 236 19).toInt + 412 by omega) (show (σ153.1 236 13).toInt = 0 → (σ153.1 236 39).toInt ≤ 420 * (σ.1 236 19).toInt + (σ153.1 236 11).toInt by omega) (show (σ153.1 236 13).toInt = 0 → 4 * ((σ153.1 236 33).toInt - 130 * (σ.1 236 19).toInt) + 2 ≤ (σ153.1 236 11).toInt by omega) (show (σ153.1 236 13).toInt = 0 → (σ153.1 236 12).toInt ≤ 6 by omega) (show (σ153.1 236 13).toInt = 0 → (σ.1 236 13).toInt = 0 by omega) (show (σ.1 236 11).toInt ≤ (σ153.1 236 11).toInt by omega) (show (σ153.1 236 11).toInt ≤ 400 by omega) (show (σ153.1 236 13).toInt = 0 → (σ.1 236 11).toInt + 1 ≤ (σ153.1 236 11).toInt by omega) (show 130 * (σ.1 236 19).toInt ≤ y12_2.toInt by omega) (show y12_2.toInt ≤ (σ153.1 236 33).toInt by omega) (fun h9 => LAW.ony (LAW.add (hx12_14 (by omega)) hT113 w144 (by omega) (show σ131.1 254 = σ112.1 254 from (ho134.a (i := 254) (by decide))) (show σ131.1 255 = σ112.1 255 from (ho134.a (i := 255) (by decide))) (show σ131.1 256 = σ112.1 256 from (ho134.a (i := 256) (by decide))) (show σ131.1 257 = σ112.1 257 from (ho134.a (i := 257) (by decide))) (show σ131.1 258 = σ112.1 258 from (ho134.a (i := 258) (by decide))) (by omega) (by omega) (by omega) (by omega) (by omega) (by omega) (by omega)) ho156 (by decide))
      have j38 : ∀ (σq38 : HS), GIm σq38 → onm [254, 255, 256, 257, 258, 259, 260, 261, 262, 263, 1011, 1012, 1013, 1014, 1033, 1039, 1043] σ σq38 → AGm s σq38 → ((σq12.1 236 13).toInt = 0) → ((σq38.1 236 13).toInt = 0 → y12_3.toInt ≤ 3) → (0 ≤ (σq38.1 236 13).toInt) → (onm [1013, 1014] σq12 σq38) → AW ids ad ca Γ 38 [some (.ref (ad 236)), some (.int x1), some (.int y12_2), some (.int y12_3)] [] σq38 := by
        intro σq38 hGq38 hoq38 hRq38 hx38_0 hx38_1 hx38_2 hx38_3
        have g171 := bF_236_11 hGq38
        have g172 := bF_236_12 hGq38
        have g173 := bF_236_13 hGq38
        have g174 := bF_236_19 hGq38
        have g175 : (σq38.1 236 19).toInt = (σ.1 236 19).toInt := congrArg Int32.toInt (hoq38.1 236 19 (by decide))
        have g38_11 : (σq38.1 236 11).toInt = (σq12.1 236 11).toInt := congrArg Int32.toInt (hx38_3.1 236 11 (by decide))
        have g38_12 : (σq38.1 236 12).toInt = (σq12.1 236 12).toInt := congrArg Int32.toInt (hx38_3.1 236 12 (by decide))
        have g38_19 : (σq38.1 236 19).toInt = (σq12.1 236 19).toInt := congrArg Int32.toInt (hx38_3.1 236 19 (by decide))
        have g38_33 : (σq38.1 236 33).toInt = (σq12.1 236 33).toInt := congrArg Int32.toInt (hx38_3.1 236 33 (by decide))
        have g38_39 : (σq38.1 236 39).toInt = (σq12.1 236 39).toInt := congrArg Int32.toInt (hx38_3.1 236 39 (by decide))
        refine a_aload_n C dX12_tellLaw_38 (i := 0) rfl rfl ?_
        refine a_get C fl_RX12_191 (i := 236) kd_236 (hid 236 (by decide)) (v := .int (σq38.1 236 13)) rfl dX12_tellLaw_39 ?_
        refine s_if_le C dX12_tellLaw_42 (tgt := 46) rfl (fun c176 => ?_) (fun c176 => ?_)
        ·
          refine s_iinc C dX12_tellLaw_46 rfl (1) (by decide) (by omega) (by decide) rfl (fun z177 h178 => ?_)
          show AW ids ad ca Γ 49 [some (.ref (ad 236)), some (.int x1), some (.int y12_2), some (.int z177)] _ _
          refine a_aload_n C dX12_tellLaw_49 (i := 0) rfl rfl ?_
          refine a_callVv C (i := 236) kd_236 (hid 236 (by decide)) ⟨_, _, rfl⟩ (by decide) (S_X12_goesOn_236 hid hGq38) mi_X12_goesOn ml_RX12_212 rfl rfl (Nat.le_of_ble_eq_true rfl) (Nat.le_of_ble_eq_true rfl) (Nat.le_of_ble_eq_true rfl) dX12_tellLaw_50 (fun σ180 q181 => ?_)
          obtain ⟨hG182, ho183, w185, w186, w187, w188⟩ := q181
          have hR184 := AGm.ony hRq38 ho183 (by decide)
          refine a_aload_n C dX12_tellLaw_53 (i := 0) rfl rfl ?_
          refine a_get C fl_RX12_76 (i := 236) kd_236 (hid 236 (by decide)) (v := .ref (ad 256)) rfl dX12_tellLaw_54 ?_
          refine a_aload_n C dX12_tellLaw_57 (i := 0) rfl rfl ?_
          have g189 : (σ180.1 236 33).toInt = (σq38.1 236 33).toInt := congrArg Int32.toInt (ho183.1 236 33 (by decide))
          refine a_get C fl_RX12_230 (i := 236) kd_236 (hid 236 (by decide)) (v := .int (σ180.1 236 33)) rfl dX12_tellLaw_58 ?_
          refine s_iconst C dX12_tellLaw_61 (1) (by decide) (fun z190 h191 => ?_)
          refine s_zast C (i := 256) (nar_v (by omega)) kd_256 (hid 256 (by decide)) al_256 (by omega) (by omega) dX12_tellLaw_62 (fun n192 h193 => ?_)
          have hG194 := wA_256 (v := z190) (j := n192) hG182
          have g196 := bF_236_19 hG182
          have g197 : (σ180.1 236 19).toInt = (σq38.1 236 19).toInt := congrArg Int32.toInt (ho183.1 236 19 (by decide))
          have g198 : ((hI σ180 256 n192 z190).1 236 19).toInt = (σ180.1 236 19).toInt := congrArg Int32.toInt rfl
          have hR195 := AGm.W (i := 256) (k := n192) (v := z190) hR184 (by decide) (by omega) (by omega) (by omega) (by omega) (by omega)
          refine a_aload_n C dX12_tellLaw_63 (i := 0) rfl rfl ?_
          refine a_get C fl_RX12_80 (i := 236) kd_236 (hid 236 (by decide)) (v := .ref (ad 257)) rfl dX12_tellLaw_64 ?_
          refine a_aload_n C dX12_tellLaw_67 (i := 0) rfl rfl ?_
          refine a_get C fl_RX12_230 (i := 236) kd_236 (hid 236 (by decide)) (v := .int (σ180.1 236 33)) rfl dX12_tellLaw_68 ?_
          refine a_aload_n C dX12_tellLaw_71 (i := 0) rfl rfl ?_
          have g199 : (σ180.1 236 39).toInt = (σq38.1 236 39).toInt := congrArg Int32.toInt (ho183.1 236 39 (by decide))
          refine a_get C fl_RX12_233 (i := 236) kd_236 (hid 236 (by decide)) (v := .int (σ180.1 236 39)) rfl dX12_tellLaw_72 ?_
          refine s_iast C (i := 257) kd_257 (hid 257 (by decide)) al_257 (by omega) (by omega) dX12_tellLaw_75 (fun n200 h201 => ?_)
          have hG202 := wA_257 (v := (σ180.1 236 39)) (j := n200) hG194
          have g204 : ((hI (hI σ180 256 n192 z190) 257 n200 (σ180.1 236 39)).1 236 19).toInt = (σ180.1 236 19).toInt := congrArg Int32.toInt rfl
          have hR203 := AGm.W (i := 257) (k := n200) (v := (σ180.1 236 39)) hR195 (by decide) (by omega) (by omega) (by omega) (by omega) (by omega)
          refine a_aload_n C dX12_tellLaw_76 (i := 0) rfl rfl ?_
          have g208 : ((hI (hI σ180 256 n192 z190) 257 n200 (σ180.1 236 39)).1 236 19).toInt = (σ180.1 236 19).toInt := congrArg Int32.toInt rfl
          have g209 : ((hI (hI σ180 256 n192 z190) 257 n200 (σ180.1 236 39)).1 236 19).toInt = (σ180.1 236 19).toInt := congrArg Int32.toInt rfl
          have g210 : ((hI (hI σ180 256 n192 z190) 257 n200 (σ180.1 236 39)).1 236 39).toInt = (σ180.1 236 39).toInt := congrArg Int32.toInt rfl
          have g211 : ((hI (hI σ180 256 n192 z190) 257 n200 (σ180.1 236 39)).1 236 39).toInt = (σ180.1 236 39).toInt := congrArg Int32.toInt rfl
          have g212 : ((hI (hI σ180 256 n192 z190) 257 n200 (σ180.1 236 39)).1 236 19).toInt = (σ180.1 236 19).toInt := congrArg Int32.toInt rfl
          have g213 := bF_236_13 hG182
          have g214 : ((hI (hI σ180 256 n192 z190) 257 n200 (σ180.1 236 39)).1 236 13).toInt = (σ180.1 236 13).toInt := congrArg Int32.toInt rfl
          have g215 : ((hI (hI σ180 256 n192 z190) 257 n200 (σ180.1 236 39)).1 236 39).toInt = (σ180.1 236 39).toInt := congrArg Int32.toInt rfl
          have g216 : ((hI (hI σ180 256 n192 z190) 257 n200 (σ180.1 236 39)).1 236 19).toInt = (σ180.1 236 19).toInt := congrArg Int32.toInt rfl
          have g217 := bF_236_11 hG182
          have g218 : ((hI (hI σ180 256 n192 z190) 257 n200 (σ180.1 236 39)).1 236 11).toInt = (σ180.1 236 11).toInt := congrArg Int32.toInt rfl
          have g219 : ((hI (hI σ180 256 n192 z190) 257 n200 (σ180.1 236 39)).1 236 13).toInt = (σ180.1 236 13).toInt := congrArg Int32.toInt rfl
          have g220 := bF_236_12 hG182
          have g221 : (σ180.1 236 12).toInt = (σq38.1 236 12).toInt := congrArg Int32.toInt (ho183.1 236 12 (by decide))
          have g222 : ((hI (hI σ180 256 n192 z190) 257 n200 (σ180.1 236 39)).1 236 12).toInt = (σ180.1 236 12).toInt := congrArg Int32.toInt rfl
          have g223 : ((hI (hI σ180 256 n192 z190) 257 n200 (σ180.1 236 39)).1 236 39).toInt = (σ180.1 236 39).toInt := congrArg Int32.toInt rfl
          have g224 : ((hI (hI σ180 256 n192 z190) 257 n200 (σ180.1 236 39)).1 236 19).toInt = (σ180.1 236 19).toInt := congrArg Int32.toInt rfl
          have g225 : ((hI (hI σ180 256 n192 z190) 257 n200 (σ180.1 236 39)).1 236 19).toInt = (σ180.1 236 19).toInt := congrArg Int32.toInt rfl
          have g226 : ((hI (hI σ180 256 n192 z190) 257 n200 (σ180.1 236 39)).1 236 11).toInt = (σ180.1 236 11).toInt := congrArg Int32.toInt rfl
          have g227 : ((hI (hI σ180 256 n192 z190) 257 n200 (σ180.1 236 39)).1 236 13).toInt = (σ180.1 236 13).toInt := congrArg Int32.toInt rfl
          have g228 : ((hI (hI σ180 256 n192 z190) 257 n200 (σ180.1 236 39)).1 236 12).toInt = (σ180.1 236 12).toInt := congrArg Int32.toInt rfl
          have g229 : ((hI (hI σ180 256 n192 z190) 257 n200 (σ180.1 236 39)).1 236 11).toInt = (σ180.1 236 11).toInt := congrArg Int32.toInt rfl
          refine a_callVv C (i := 236) kd_236 (hid 236 (by decide)) ⟨_, _, rfl⟩ (by decide) (S_X12_expression_236 hid hG202 hR203 (by omega) (by omega) (by omega) (by omega) (by omega)) mi_X12_expression ml_RX12_278 rfl rfl (Nat.le_of_ble_eq_true rfl) (Nat.le_of_ble_eq_true rfl) (Nat.le_of_ble_eq_true rfl) dX12_tellLaw_77 (fun σ206 q207 => ?_)
          obtain ⟨hG230, ho231, hR232, w233, w234, w235, w236, w237, w238, w239, w240⟩ := q207
          have g241 := bF_236_11 hG230
          have g242 := bF_236_12 hG230
          have g243 := bF_236_13 hG230
          have g244 := bF_236_19 hG230
          have g245 : (σ206.1 236 19).toInt = (σ180.1 236 19).toInt := congrArg Int32.toInt (ho231.1 236 19 (by decide))
          have g246 : (σ206.1 236 33).toInt = (σ180.1 236 33).toInt := congrArg Int32.toInt (ho231.1 236 33 (by decide))
          have gf77 : ∀ c : Nat, (c : Int) < (σq38.1 236 39).toInt → σ206.1 261 c = σq38.1 261 c ∧ σ206.1 262 c = σq38.1 262 c := fun c hc => ⟨(w240.1 c (by omega)).1.trans (congrFun (show (hI (hI σ180 256 n192 z190) 257 n200 (σ180.1 236 39)).1 261 = σq38.1 261 from ((hI_o (by decide)).trans ((hI_o (by decide)).trans (ho183.a (i := 261) (by decide))))) c), (w240.1 c (by omega)).2.trans (congrFun (show (hI (hI σ180 256 n192 z190) 257 n200 (σ180.1 236 39)).1 262 = σq38.1 262 from ((hI_o (by decide)).trans ((hI_o (by decide)).trans (ho183.a (i := 262) (by decide))))) c)⟩
          refine a_aload_n C dX12_tellLaw_80 (i := 0) rfl rfl ?_
          refine s_bipush C dX12_tellLaw_81 (13) (by decide) (fun z247 h248 => ?_)
          refine a_callVv C (i := 236) kd_236 (hid 236 (by decide)) ⟨_, _, rfl⟩ (by decide) (S_X12_must_236 (x1 := z247) hid hG230) mi_X12_must ml_RX12_249 rfl rfl (Nat.le_of_ble_eq_true rfl) (Nat.le_of_ble_eq_true rfl) (Nat.le_of_ble_eq_true rfl) dX12_tellLaw_83 (fun σ250 q251 => ?_)
          obtain ⟨hG252, ho253, w255, w256, w257, w258, w259⟩ := q251
          have hR254 := AGm.ony hR232 ho253 (by decide)
          have g260 := bF_236_11 hG252
          have g261 := bF_236_12 hG252
          have g262 : (σ250.1 236 12).toInt = (σ206.1 236 12).toInt := congrArg Int32.toInt (ho253.1 236 12 (by decide))
          have g263 := bF_236_13 hG252
          have g264 := bF_236_19 hG252
          have g265 : (σ250.1 236 19).toInt = (σ206.1 236 19).toInt := congrArg Int32.toInt (ho253.1 236 19 (by decide))
          have g266 : (σ250.1 236 33).toInt = (σ206.1 236 33).toInt := congrArg Int32.toInt (ho253.1 236 33 (by decide))
          have g267 : (σ250.1 236 39).toInt = (σ206.1 236 39).toInt := congrArg Int32.toInt (ho253.1 236 39 (by decide))
          refine a_aload_n C dX12_tellLaw_86 (i := 0) rfl rfl ?_
          refine a_get C fl_RX12_83 (i := 236) kd_236 (hid 236 (by decide)) (v := .ref (ad 258)) rfl dX12_tellLaw_87 ?_
          refine a_aload_n C dX12_tellLaw_90 (i := 0) rfl rfl ?_
          refine a_get C fl_RX12_230 (i := 236) kd_236 (hid 236 (by decide)) (v := .int (σ250.1 236 33)) rfl dX12_tellLaw_91 ?_
          refine a_aload_n C dX12_tellLaw_94 (i := 0) rfl rfl ?_
          refine a_get C fl_RX12_233 (i := 236) kd_236 (hid 236 (by decide)) (v := .int (σ250.1 236 39)) rfl dX12_tellLaw_95 ?_
          refine s_iast C (i := 258) kd_258 (hid 258 (by decide)) al_258 (by omega) (by omega) dX12_tellLaw_98 (fun n268 h269 => ?_)
          have hG270 := wA_258 (v := (σ250.1 236 39)) (j := n268) hG252
          have g272 : ((hI σ250 258 n268 (σ250.1 236 39)).1 236 19).toInt = (σ250.1 236 19).toInt := congrArg Int32.toInt rfl
          have hR271 := AGm.W (i := 258) (k := n268) (v := (σ250.1 236 39)) hR254 (by decide) (by omega) (by omega) (by omega) (by omega) (by omega)
          refine a_aload_n C dX12_tellLaw_99 (i := 0) rfl rfl ?_
          refine a_get C fl_RX12_191 (i := 236) kd_236 (hid 236 (by decide)) (v := .int (σ250.1 236 13)) rfl dX12_tellLaw_100 ?_
          refine s_if_ne C dX12_tellLaw_103 (tgt := 110) rfl (fun c273 => ?_) (fun c273 => ?_)
          ·
            have g274 : ((hI σ250 258 n268 (σ250.1 236 39)).1 236 11).toInt = (σ250.1 236 11).toInt := congrArg Int32.toInt rfl
            have g275 : ((hI σ250 258 n268 (σ250.1 236 39)).1 236 12).toInt = (σ250.1 236 12).toInt := congrArg Int32.toInt rfl
            have g276 : ((hI σ250 258 n268 (σ250.1 236 39)).1 236 13).toInt = (σ250.1 236 13).toInt := congrArg Int32.toInt rfl
            have g277 : ((hI σ250 258 n268 (σ250.1 236 39)).1 236 19).toInt = (σ250.1 236 19).toInt := congrArg Int32.toInt rfl
            have g278 : ((hI σ250 258 n268 (σ250.1 236 39)).1 236 33).toInt = (σ250.1 236 33).toInt := congrArg Int32.toInt rfl
            have g279 : ((hI σ250 258 n268 (σ250.1 236 39)).1 236 39).toInt = (σ250.1 236 39).toInt := congrArg Int32.toInt rfl
            exact j110 _ z177 hG270 (onm.I (onm.tr (onm.tr (onm.I (onm.I (onm.tr hoq38 (onm.mono ho183 (by decide))) (by decide)) (by decide)) (onm.mono ho231 (by decide))) (onm.mono ho253 (by decide))) (by decide)) hR271 (by omega) (show (σq12.1 236 13).toInt = 0 by omega) (show (σ250.1 236 33).toInt = (σq12.1 236 33).toInt by omega) (show 420 * (σ.1 236 19).toInt ≤ (σ250.1 236 39).toInt by omega) (show (σ250.1 236 39).toInt ≤ 420 * (σ.1 236 19).toInt + 412 by omega) (show (σ250.1 236 13).toInt = 0 → (σ250.1 236 39).toInt ≤ 420 * (σ.1 236 19).toInt + (σ250.1 236 11).toInt by omega) (show (σ250.1 236 13).toInt = 0 → (σ250.1 236 12).toInt ≤ 6 by omega) (show (σ250.1 236 13).toInt = 0 → (σ.1 236 13).toInt = 0 by omega) (show (σq12.1 236 11).toInt ≤ (σ250.1 236 11).toInt by omega) (show (σ250.1 236 11).toInt ≤ 400 by omega) (show (σ250.1 236 13).toInt = 0 → (σq12.1 236 11).toInt + 4 ≤ (σ250.1 236 11).toInt by omega) (show z177.toInt = y12_3.toInt + 1 by omega) (show y12_3.toInt ≤ 3 by omega) (TL1.base (s1 := σq38) ⟨⟨by omega, by omega, by omega⟩, ⟨(show (hI σ250 258 n268 (σ250.1 236 39)).1 254 = σq38.1 254 from ((hI_o (by decide)).trans ((ho253.a (i := 254) (by decide)).trans ((ho231.a (i := 254) (by decide)).trans ((hI_o (by decide)).trans ((hI_o (by decide)).trans (ho183.a (i := 254) (by decide)))))))), (show (hI σ250 258 n268 (σ250.1 236 39)).1 255 = σq38.1 255 from ((hI_o (by decide)).trans ((ho253.a (i := 255) (by decide)).trans ((ho231.a (i := 255) (by decide)).trans ((hI_o (by decide)).trans ((hI_o (by decide)).trans (ho183.a (i := 255) (by decide)))))))), (show (hI σ250 258 n268 (σ250.1 236 39)).1 259 = σq38.1 259 from ((hI_o (by decide)).trans ((ho253.a (i := 259) (by decide)).trans ((ho231.a (i := 259) (by decide)).trans ((hI_o (by decide)).trans ((hI_o (by decide)).trans (ho183.a (i := 259) (by decide)))))))), (show (hI σ250 258 n268 (σ250.1 236 39)).1 260 = σq38.1 260 from ((hI_o (by decide)).trans ((ho253.a (i := 260) (by decide)).trans ((ho231.a (i := 260) (by decide)).trans ((hI_o (by decide)).trans ((hI_o (by decide)).trans (ho183.a (i := 260) (by decide))))))))⟩, fun q hq => ⟨(show (hI σ250 258 n268 (σ250.1 236 39)).1 256 q = σq38.1 256 q from ((congrFun (hI_o (by decide)) q).trans ((congrFun (ho253.a (i := 256) (by decide)) q).trans ((congrFun (ho231.a (i := 256) (by decide)) q).trans ((congrFun (hI_o (by decide)) q).trans ((hI_n (by omega)).trans (congrFun (ho183.a (i := 256) (by decide)) q))))))), (show (hI σ250 258 n268 (σ250.1 236 39)).1 257 q = σq38.1 257 q from ((congrFun (hI_o (by decide)) q).trans ((congrFun (ho253.a (i := 257) (by decide)) q).trans ((congrFun (ho231.a (i := 257) (by decide)) q).trans ((hI_n (by omega)).trans ((congrFun (hI_o (by decide)) q).trans (congrFun (ho183.a (i := 257) (by decide)) q))))))), (show (hI σ250 258 n268 (σ250.1 236 39)).1 258 q = σq38.1 258 q from ((hI_n (by omega)).trans ((congrFun (ho253.a (i := 258) (by decide)) q).trans ((congrFun (ho231.a (i := 258) (by decide)) q).trans ((congrFun (hI_o (by decide)) q).trans ((congrFun (hI_o (by decide)) q).trans (congrFun (ho183.a (i := 258) (by decide)) q)))))))⟩, (fun c hc => ⟨(congrFun (show (hI σ250 258 n268 (σ250.1 236 39)).1 261 = σ206.1 261 from ((hI_o (by decide)).trans (ho253.a (i := 261) (by decide)))) c).trans (gf77 c hc).1, (congrFun (show (hI σ250 258 n268 (σ250.1 236 39)).1 262 = σ206.1 262 from ((hI_o (by decide)).trans (ho253.a (i := 262) (by decide)))) c).trans (gf77 c hc).2⟩), (fun h9 _ => absurd h9 (by omega))⟩ hx38_3 (by decide))
          ·
            refine a_aload_n C dX12_tellLaw_106 (i := 0) rfl rfl ?_
            have g283 : ((hI σ250 258 n268 (σ250.1 236 39)).1 236 19).toInt = (σ250.1 236 19).toInt := congrArg Int32.toInt rfl
            have g284 : ((hI σ250 258 n268 (σ250.1 236 39)).1 236 19).toInt = (σ250.1 236 19).toInt := congrArg Int32.toInt rfl
            have g285 : ((hI σ250 258 n268 (σ250.1 236 39)).1 236 39).toInt = (σ250.1 236 39).toInt := congrArg Int32.toInt rfl
            have g286 : ((hI σ250 258 n268 (σ250.1 236 39)).1 236 39).toInt = (σ250.1 236 39).toInt := congrArg Int32.toInt rfl
            have g287 : ((hI σ250 258 n268 (σ250.1 236 39)).1 236 19).toInt = (σ250.1 236 19).toInt := congrArg Int32.toInt rfl
            have g288 : ((hI σ250 258 n268 (σ250.1 236 39)).1 236 13).toInt = (σ250.1 236 13).toInt := congrArg Int32.toInt rfl
            have g289 : ((hI σ250 258 n268 (σ250.1 236 39)).1 236 39).toInt = (σ250.1 236 39).toInt := congrArg Int32.toInt rfl
            have g290 : ((hI σ250 258 n268 (σ250.1 236 39)).1 236 19).toInt = (σ250.1 236 19).toInt := congrArg Int32.toInt rfl
            have g291 : ((hI σ250 258 n268 (σ250.1 236 39)).1 236 11).toInt = (σ250.1 236 11).toInt := congrArg Int32.toInt rfl
            have g292 : ((hI σ250 258 n268 (σ250.1 236 39)).1 236 13).toInt = (σ250.1 236 13).toInt := congrArg Int32.toInt rfl
            have g293 : ((hI σ250 258 n268 (σ250.1 236 39)).1 236 12).toInt = (σ250.1 236 12).toInt := congrArg Int32.toInt rfl
            have g294 : ((hI σ250 258 n268 (σ250.1 236 39)).1 236 39).toInt = (σ250.1 236 39).toInt := congrArg Int32.toInt rfl
            have g295 : ((hI σ250 258 n268 (σ250.1 236 39)).1 236 19).toInt = (σ250.1 236 19).toInt := congrArg Int32.toInt rfl
            have g296 : ((hI σ250 258 n268 (σ250.1 236 39)).1 236 19).toInt = (σ250.1 236 19).toInt := congrArg Int32.toInt rfl
            have g297 : ((hI σ250 258 n268 (σ250.1 236 39)).1 236 11).toInt = (σ250.1 236 11).toInt := congrArg Int32.toInt rfl
            have g298 : ((hI σ250 258 n268 (σ250.1 236 39)).1 236 13).toInt = (σ250.1 236 13).toInt := congrArg Int32.toInt rfl
            have g299 : ((hI σ250 258 n268 (σ250.1 236 39)).1 236 12).toInt = (σ250.1 236 12).toInt := congrArg Int32.toInt rfl
            have g300 : ((hI σ250 258 n268 (σ250.1 236 39)).1 236 11).toInt = (σ250.1 236 11).toInt := congrArg Int32.toInt rfl
            refine a_callVv C (i := 236) kd_236 (hid 236 (by decide)) ⟨_, _, rfl⟩ (by decide) (S_X12_expression_236 hid hG270 hR271 (by omega) (by omega) (by omega) (by omega) (by omega)) mi_X12_expression ml_RX12_278 rfl rfl (Nat.le_of_ble_eq_true rfl) (Nat.le_of_ble_eq_true rfl) (Nat.le_of_ble_eq_true rfl) dX12_tellLaw_107 (fun σ281 q282 => ?_)
            obtain ⟨hG301, ho302, hR303, w304, w305, w306, w307, w308, w309, w310, w311⟩ := q282
            have g312 := bF_236_11 hG301
            have g313 := bF_236_12 hG301
            have g314 := bF_236_13 hG301
            have g315 := bF_236_19 hG301
            have g316 : (σ281.1 236 19).toInt = (σ250.1 236 19).toInt := congrArg Int32.toInt (ho302.1 236 19 (by decide))
            have g317 : (σ281.1 236 33).toInt = (σ250.1 236 33).toInt := congrArg Int32.toInt (ho302.1 236 33 (by decide))
            have gh107 : ∀ c : Nat, (c : Int) < (σ206.1 236 39).toInt → σ281.1 261 c = σ206.1 261 c ∧ σ281.1 262 c = σ206.1 262 c := fun c hc => ⟨(w311.1 c (by omega)).1.trans (congrFun (show (hI σ250 258 n268 (σ250.1 236 39)).1 261 = σ206.1 261 from ((hI_o (by decide)).trans (ho253.a (i := 261) (by decide)))) c), (w311.1 c (by omega)).2.trans (congrFun (show (hI σ250 258 n268 (σ250.1 236 39)).1 262 = σ206.1 262 from ((hI_o (by decide)).trans (ho253.a (i := 262) (by decide)))) c)⟩
            have gf107 : ∀ c : Nat, (c : Int) < (σq38.1 236 39).toInt → σ281.1 261 c = σq38.1 261 c ∧ σ281.1 262 c = σq38.1 262 c := fun c hc => ⟨(gh107 c (by omega)).1.trans (gf77 c hc).1, (gh107 c (by omega)).2.trans (gf77 c hc).2⟩
            exact j110 _ z177 hG301 (onm.tr (onm.I (onm.tr (onm.tr (onm.I (onm.I (onm.tr hoq38 (onm.mono ho183 (by decide))) (by decide)) (by decide)) (onm.mono ho231 (by decide))) (onm.mono ho253 (by decide))) (by decide)) (onm.mono ho302 (by decide))) hR303 (by omega) (show (σq12.1 236 13).toInt = 0 by omega) (show (σ281.1 236 33).toInt = (σq12.1 236 33).toInt by omega) (show 420 * (σ.1 236 19).toInt ≤ (σ281.1 236 39).toInt by omega) (show (σ281.1 236 39).toInt ≤ 420 * (σ.1 236 19).toInt + 412 by omega) (show (σ281.1 236 13).toInt = 0 → (σ281.1 236 39).toInt ≤ 420 * (σ.1 236 19).toInt + (σ281.1 236 11).toInt by omega) (show (σ281.1 236 13).toInt = 0 → (σ281.1 236 12).toInt ≤ 6 by omega) (show (σ281.1 236 13).toInt = 0 → (σ.1 236 13).toInt = 0 by omega) (show (σq12.1 236 11).toInt ≤ (σ281.1 236 11).toInt by omega) (show (σ281.1 236 11).toInt ≤ 400 by omega) (show (σ281.1 236 13).toInt = 0 → (σq12.1 236 11).toInt + 4 ≤ (σ281.1 236 11).toInt by omega) (show z177.toInt = y12_3.toInt + 1 by omega) (show y12_3.toInt ≤ 3 by omega) (TL1.base (s1 := σq38) ⟨⟨by omega, by omega, by omega⟩, ⟨(show σ281.1 254 = σq38.1 254 from ((ho302.a (i := 254) (by decide)).trans ((hI_o (by decide)).trans ((ho253.a (i := 254) (by decide)).trans ((ho231.a (i := 254) (by decide)).trans ((hI_o (by decide)).trans ((hI_o (by decide)).trans (ho183.a (i := 254) (by decide))))))))), (show σ281.1 255 = σq38.1 255 from ((ho302.a (i := 255) (by decide)).trans ((hI_o (by decide)).trans ((ho253.a (i := 255) (by decide)).trans ((ho231.a (i := 255) (by decide)).trans ((hI_o (by decide)).trans ((hI_o (by decide)).trans (ho183.a (i := 255) (by decide))))))))), (show σ281.1 259 = σq38.1 259 from ((ho302.a (i := 259) (by decide)).trans ((hI_o (by decide)).trans ((ho253.a (i := 259) (by decide)).trans ((ho231.a (i := 259) (by decide)).trans ((hI_o (by decide)).trans ((hI_o (by decide)).trans (ho183.a (i := 259) (by decide))))))))), (show σ281.1 260 = σq38.1 260 from ((ho302.a (i := 260) (by decide)).trans ((hI_o (by decide)).trans ((ho253.a (i := 260) (by decide)).trans ((ho231.a (i := 260) (by decide)).trans ((hI_o (by decide)).trans ((hI_o (by decide)).trans (ho183.a (i := 260) (by decide)))))))))⟩, fun q hq => ⟨(show σ281.1 256 q = σq38.1 256 q from ((congrFun (ho302.a (i := 256) (by decide)) q).trans ((congrFun (hI_o (by decide)) q).trans ((congrFun (ho253.a (i := 256) (by decide)) q).trans ((congrFun (ho231.a (i := 256) (by decide)) q).trans ((congrFun (hI_o (by decide)) q).trans ((hI_n (by omega)).trans (congrFun (ho183.a (i := 256) (by decide)) q)))))))), (show σ281.1 257 q = σq38.1 257 q from ((congrFun (ho302.a (i := 257) (by decide)) q).trans ((congrFun (hI_o (by decide)) q).trans ((congrFun (ho253.a (i := 257) (by decide)) q).trans ((congrFun (ho231.a (i := 257) (by decide)) q).trans ((hI_n (by omega)).trans ((congrFun (hI_o (by decide)) q).trans (congrFun (ho183.a (i := 257) (by decide)) q)))))))), (show σ281.1 258 q = σq38.1 258 q from ((congrFun (ho302.a (i := 258) (by decide)) q).trans ((hI_n (by omega)).trans ((congrFun (ho253.a (i := 258) (by decide)) q).trans ((congrFun (ho231.a (i := 258) (by decide)) q).trans ((congrFun (hI_o (by decide)) q).trans ((congrFun (hI_o (by decide)) q).trans (congrFun (ho183.a (i := 258) (by decide)) q))))))))⟩, gf107, (fun h9 _ => ⟨(σ206.1 236 39).toInt, (by rw [(show σ281.1 257 = (hI (hI σ180 256 n192 z190) 257 n200 (σ180.1 236 39)).1 257 from ((ho302.a (i := 257) (by decide)).trans ((hI_o (by decide)).trans ((ho253.a (i := 257) (by decide)).trans (ho231.a (i := 257) (by decide)))))), show (σq38.1 236 33).toInt.toNat = n200 by omega]; show ((hI (hI σ180 256 n192 z190) 257 n200 (σ180.1 236 39)).1 257 n200).toInt = _; rw [hI_s] <;> omega), (by rw [(show σ281.1 258 = (hI σ250 258 n268 (σ250.1 236 39)).1 258 from (ho302.a (i := 258) (by decide))), show (σq38.1 236 33).toInt.toNat = n268 by omega]; show ((hI σ250 258 n268 (σ250.1 236 39)).1 258 n268).toInt = _; rw [hI_s] <;> omega), by omega, by omega, (((w240.2 (by omega)).cong (fun c c1 c2 => gh107 c (by omega))).re (by omega) (by omega)), ((w311.2 (by omega)).re (by omega) (by omega))⟩)⟩ hx38_3 (by decide))
        ·
          exact a_vret Rt dX12_tellLaw_45 (⟨hGq38, hoq38, hRq38, (show 130 * (σ.1 236 19).toInt ≤ (σq38.1 236 33).toInt by intros; omega), (show 420 * (σ.1 236 19).toInt ≤ (σq38.1 236 39).toInt by intros; omega), (show (σq38.1 236 13).toInt = 0 → (σq38.1 236 39).toInt ≤ 420 * (σ.1 236 19).toInt + (σq38.1 236 11).toInt by intros; omega), (show (σq38.1 236 13).toInt = 0 → 4 * ((σq38.1 236 33).toInt - 130 * (σ.1 236 19).toInt) ≤ (σq38.1 236 11).toInt by intros; omega), (show (σq38.1 236 13).toInt = 0 → (σq38.1 236 12).toInt ≤ 6 by intros; omega), (show (σq38.1 236 13).toInt = 0 → (σ.1 236 13).toInt = 0 by intros; omega), (show (σ.1 236 11).toInt ≤ (σq38.1 236 11).toInt by intros; omega), (show (σq38.1 236 13).toInt = 0 → (σ.1 236 11).toInt + 1 ≤ (σq38.1 236 11).toInt by intros; omega), (fun h9 => absurd h9 (by omega))⟩)
      have g318 := bF_236_11 hGq12
      have g319 := bF_236_12 hGq12
      have g320 := bF_236_13 hGq12
      have g321 := bF_236_19 hGq12
      have g322 : (σq12.1 236 19).toInt = (σ.1 236 19).toInt := congrArg Int32.toInt (hoq12.1 236 19 (by decide))
      refine a_aload_n C dX12_tellLaw_12 (i := 0) rfl rfl ?_
      refine a_get C fl_RX12_191 (i := 236) kd_236 (hid 236 (by decide)) (v := .int (σq12.1 236 13)) rfl dX12_tellLaw_13 ?_
      refine s_if_ne C dX12_tellLaw_16 (tgt := 129) rfl (fun c323 => ?_) (fun c323 => ?_)
      ·
        refine AW.sub (vs' := [some (.ref (ad 236)), some (.int x1), some (.int y12_2), none]) (lsub_of (by simp [lsubB])) ?_
        exact j129 _ y12_2 hGq12 hoq12 hRq12 (show 130 * (σ.1 236 19).toInt ≤ (σq12.1 236 33).toInt by omega) (show (σq12.1 236 33).toInt ≤ 130 * (σ.1 236 19).toInt + 110 by omega) (show 420 * (σ.1 236 19).toInt ≤ (σq12.1 236 39).toInt by omega) (show (σq12.1 236 39).toInt ≤ 420 * (σ.1 236 19).toInt + 412 by omega) (show (σq12.1 236 13).toInt = 0 → (σq12.1 236 39).toInt ≤ 420 * (σ.1 236 19).toInt + (σq12.1 236 11).toInt by omega) (show (σq12.1 236 13).toInt = 0 → 4 * ((σq12.1 236 33).toInt - 130 * (σ.1 236 19).toInt) + 2 ≤ (σq12.1 236 11).toInt by omega) (show (σq12.1 236 13).toInt = 0 → (σq12.1 236 12).toInt ≤ 6 by omega) (show (σq12.1 236 13).toInt = 0 → (σ.1 236 13).toInt = 0 by omega) (show (σ.1 236 11).toInt ≤ (σq12.1 236 11).toInt by omega) (show (σq12.1 236 11).toInt ≤ 400 by omega) (show (σq12.1 236 13).toInt = 0 → (σ.1 236 11).toInt + 1 ≤ (σq12.1 236 11).toInt by omega) (show 130 * (σ.1 236 19).toInt ≤ y12_2.toInt by omega) (show y12_2.toInt ≤ (σq12.1 236 33).toInt by omega) hx12_14
      ·
        refine a_aload_n C dX12_tellLaw_19 (i := 0) rfl rfl ?_
        refine s_bipush C dX12_tellLaw_20 (28) (by decide) (fun z324 h325 => ?_)
        refine a_callVi C (i := 236) kd_236 (hid 236 (by decide)) ⟨_, _, rfl⟩ (by decide) (S_X12_is_236 (x1 := z324) hid hGq12) mi_X12_is ml_RX12_209 rfl rfl (Nat.le_of_ble_eq_true rfl) (Nat.le_of_ble_eq_true rfl) (Nat.le_of_ble_eq_true rfl) dX12_tellLaw_22 (fun z326 σ327 q328 => ?_)
        obtain ⟨w329, w330, w331, w332⟩ := q328
        rw [w329]
        refine s_if_eq C dX12_tellLaw_25 (tgt := 129) rfl (fun c333 => ?_) (fun c333 => ?_)
        ·
          refine AW.sub (vs' := [some (.ref (ad 236)), some (.int x1), some (.int y12_2), none]) (lsub_of (by simp [lsubB])) ?_
          exact j129 _ y12_2 hGq12 hoq12 hRq12 (show 130 * (σ.1 236 19).toInt ≤ (σq12.1 236 33).toInt by omega) (show (σq12.1 236 33).toInt ≤ 130 * (σ.1 236 19).toInt + 110 by omega) (show 420 * (σ.1 236 19).toInt ≤ (σq12.1 236 39).toInt by omega) (show (σq12.1 236 39).toInt ≤ 420 * (σ.1 236 19).toInt + 412 by omega) (show (σq12.1 236 13).toInt = 0 → (σq12.1 236 39).toInt ≤ 420 * (σ.1 236 19).toInt + (σq12.1 236 11).toInt by omega) (show (σq12.1 236 13).toInt = 0 → 4 * ((σq12.1 236 33).toInt - 130 * (σ.1 236 19).toInt) + 2 ≤ (σq12.1 236 11).toInt by omega) (show (σq12.1 236 13).toInt = 0 → (σq12.1 236 12).toInt ≤ 6 by omega) (show (σq12.1 236 13).toInt = 0 → (σ.1 236 13).toInt = 0 by omega) (show (σ.1 236 11).toInt ≤ (σq12.1 236 11).toInt by omega) (show (σq12.1 236 11).toInt ≤ 400 by omega) (show (σq12.1 236 13).toInt = 0 → (σ.1 236 11).toInt + 1 ≤ (σq12.1 236 11).toInt by omega) (show 130 * (σ.1 236 19).toInt ≤ y12_2.toInt by omega) (show y12_2.toInt ≤ (σq12.1 236 33).toInt by omega) hx12_14
        ·
          refine a_iload_n C dX12_tellLaw_28 (i := 3) rfl rfl ?_
          refine s_iconst C dX12_tellLaw_29 (4) (by decide) (fun z334 h335 => ?_)
          refine s_ic_ne C dX12_tellLaw_30 (tgt := 38) rfl (fun c336 => ?_) (fun c336 => ?_)
          ·
            exact j38 _ hGq12 hoq12 hRq12 (show (σq12.1 236 13).toInt = 0 by omega) (show (σq12.1 236 13).toInt = 0 → y12_3.toInt ≤ 3 by omega) (show 0 ≤ (σq12.1 236 13).toInt by omega) onm.rf
          ·
            refine a_aload_n C dX12_tellLaw_33 (i := 0) rfl rfl ?_
            refine s_iconst C dX12_tellLaw_34 (2) (by decide) (fun z337 h338 => ?_)
            refine a_callVv C (i := 236) kd_236 (hid 236 (by decide)) ⟨_, _, rfl⟩ (by decide) (S_X12_fail_236 (x1 := z337) hid hGq12 (by omega)) mi_X12_fail ml_RX12_206 rfl rfl (Nat.le_of_ble_eq_true rfl) (Nat.le_of_ble_eq_true rfl) (Nat.le_of_ble_eq_true rfl) dX12_tellLaw_35 (fun σ340 q341 => ?_)
            obtain ⟨hG342, ho343, w345, w346⟩ := q341
            have hR344 := AGm.ony hRq12 ho343 (by decide)
            have g347 := bF_236_13 hG342
            exact j38 _ hG342 (onm.tr hoq12 (onm.mono ho343 (by decide))) hR344 (show (σq12.1 236 13).toInt = 0 by omega) (show (σ340.1 236 13).toInt = 0 → y12_3.toInt ≤ 3 by omega) (show 0 ≤ (σ340.1 236 13).toInt by omega) (show onm [1013, 1014] σq12 σ340 from ho343)
  have gsd := bF_236_19 hG
  have gop := bF_236_12 hG
  refine a_aload_n C dX12_tellLaw_0 (i := 0) rfl rfl ?_
  refine s_iconst C dX12_tellLaw_1 (5) (by decide) (fun z348 h349 => ?_)
  have g353 := bF_236_11 hG
  have g354 := bF_236_13 hG
  refine a_callVv C (i := 236) kd_236 (hid 236 (by decide)) ⟨_, _, rfl⟩ (by decide) (S_X12_must_236 (x1 := z348) hid hG) mi_X12_must ml_RX12_249 rfl rfl (Nat.le_of_ble_eq_true rfl) (Nat.le_of_ble_eq_true rfl) (Nat.le_of_ble_eq_true rfl) dX12_tellLaw_2 (fun σ351 q352 => ?_)
  obtain ⟨hG355, ho356, w358, w359, w360, w361, w362⟩ := q352
  have hR357 := AGm.ony hR ho356 (by decide)
  refine a_aload_n C dX12_tellLaw_5 (i := 0) rfl rfl ?_
  have g363 : (σ351.1 236 33).toInt = (σ.1 236 33).toInt := congrArg Int32.toInt (ho356.1 236 33 (by decide))
  refine a_get C fl_RX12_230 (i := 236) kd_236 (hid 236 (by decide)) (v := .int (σ351.1 236 33)) rfl dX12_tellLaw_6 ?_
  refine a_istore_n C dX12_tellLaw_9 (i := 2) rfl (by decide) rfl (vs1 := [some (.ref (ad 236)), some (.int x1), some (.int (σ351.1 236 33)), none]) rfl ?_
  refine s_iconst C dX12_tellLaw_10 (0) (by decide) (fun z364 h365 => ?_)
  refine a_istore_n C dX12_tellLaw_11 (i := 3) rfl (by decide) rfl (vs1 := [some (.ref (ad 236)), some (.int x1), some (.int (σ351.1 236 33)), some (.int z364)]) rfl ?_
  have g366 : (σ351.1 236 39).toInt = (σ.1 236 39).toInt := congrArg Int32.toInt (ho356.1 236 39 (by decide))
  have g367 := bF_236_13 hG355
  have g368 := bF_236_11 hG355
  have g369 := bF_236_12 hG355
  have g370 := bF_236_12 hG
  have g371 : (σ351.1 236 12).toInt = (σ.1 236 12).toInt := congrArg Int32.toInt (ho356.1 236 12 (by decide))
  exact j12 100000 _ (σ351.1 236 33) z364 (by omega) hG355 (onm.tr onm.rf (onm.mono ho356 (by decide))) hR357 (by omega) (show 130 * (σ.1 236 19).toInt ≤ (σ351.1 236 33).toInt by omega) (show (σ351.1 236 33).toInt ≤ 130 * (σ.1 236 19).toInt + 110 by omega) (show 420 * (σ.1 236 19).toInt ≤ (σ351.1 236 39).toInt by omega) (show (σ351.1 236 39).toInt ≤ 420 * (σ.1 236 19).toInt + 412 by omega) (show (σ351.1 236 13).toInt = 0 → (σ351.1 236 39).toInt ≤ 420 * (σ.1 236 19).toInt + (σ351.1 236 11).toInt by omega) (show (σ351.1 236 13).toInt = 0 → 4 * ((σ351.1 236 33).toInt - 130 * (σ.1 236 19).toInt) + 2 ≤ (σ351.1 236 11).toInt by omega) (show (σ351.1 236 13).toInt = 0 → (σ351.1 236 12).toInt ≤ 6 by omega) (show (σ351.1 236 13).toInt = 0 → (σ.1 236 13).toInt = 0 by omega) (show (σ.1 236 11).toInt ≤ (σ351.1 236 11).toInt by omega) (show (σ351.1 236 11).toInt ≤ 400 by omega) (show (σ351.1 236 13).toInt = 0 → (σ.1 236 11).toInt + 1 ≤ (σ351.1 236 11).toInt by omega) (show 130 * (σ.1 236 19).toInt ≤ (σ351.1 236 33).toInt by omega) (show (σ351.1 236 33).toInt ≤ (σ351.1 236 33).toInt by omega) (fun h9 => LAW.ony (hp8 (by omega)) ho356 (by decide))
