set_option maxHeartbeats 4000000 in
set_option maxRecDepth 100000 in
theorem S_X12_appends {l : Launch} {D : va_G} {ids : List Nat} {ad : Nat → Nat} {ca : Nat → ClassId} {σ : HS} {x1 : Int64} {x2 : Int32} (hid : ∀ i, i < 277 → i ∈ ids) (hG : GIm σ) : Kl l D ids ad ca yX12_appends cX12_appends 3 0 0 [.long x1, .int x2] σ (fun r σ1 => (σ1 = σ)) := by
  refine Kl.of (by decide) (Nat.le_of_ble_eq_true rfl) 0 (fun Γ C Rt => ?_)
  show AW ids ad ca Γ 0 [some (.long x1), none, some (.int x2)] [] σ
  have j21 : ∀ (u21_0 : Int64), AW ids ad ca Γ 21 [none, none, none] [.long u21_0] σ := by
    intro u21_0
    exact a_lret Rt dX12_appends_21 (rfl)
  refine a_iload_n C dX12_appends_0 (i := 2) rfl rfl ?_
  refine s_if_ne C dX12_appends_1 (tgt := 8) rfl (fun c1 => ?_) (fun c1 => ?_)
  ·
    refine a_ldc2 C dX12_appends_8 ko_RX12_163 ?_
    refine a_lload_n C dX12_appends_11 (i := 0) rfl rfl ?_
    refine s_lmulU C dX12_appends_12 (fun w2 => ?_)
    refine a_iload_n C dX12_appends_13 (i := 2) rfl rfl ?_
    refine s_bipush C dX12_appends_14 (97) (by decide) (fun z3 h4 => ?_)
    refine s_isubU C dX12_appends_16 (fun z5 => ?_)
    refine s_iconst C dX12_appends_17 (1) (by decide) (fun z7 h8 => ?_)
    refine s_iaddU C dX12_appends_18 (fun z9 => ?_)
    refine s_i2lU C dX12_appends_19 (fun w11 => ?_)
    refine s_laddU C dX12_appends_20 (fun w12 => ?_)
    refine AW.sub (vs' := [none, none, none]) (lsub_of (by simp [lsubB])) ?_
    exact j21 w12
  ·
    refine a_lload_n C dX12_appends_4 (i := 0) rfl rfl ?_
    refine a_goto C dX12_appends_5 (tgt := 21) rfl ?_
    refine AW.sub (vs' := [none, none, none]) (lsub_of (by simp [lsubB])) ?_
    exact j21 x1
set_option maxHeartbeats 4000000 in
set_option maxRecDepth 100000 in
theorem S_X12_token_236 {l : Launch} {D : va_G} {ids : List Nat} {ad : Nat → Nat} {ca : Nat → ClassId} {σ : HS} {x1 : Int32} {x2 : Int32} {x3 : Int32} {x4 : Int64} (hid : ∀ i, i < 277 → i ∈ ids) (hG : GIm σ) (hx3 : 0 ≤ x3.toInt ∧ x3.toInt ≤ 9999) (hp0 : (σ.1 236 10).toInt ≤ 401) : Kv l D ids ad ca yX12_token cX12_token 6 0 0 [.ref (ad 236), .int x1, .int x2, .int x3, .long x4] σ (fun σ1 => (GIm σ1) ∧ (onm [239, 240, 241, 242, 1010] σ σ1) ∧ ((σ1.1 236 10).toInt = (σ.1 236 10).toInt + 1)) := by
  refine Kv.of (by decide) (Nat.le_of_ble_eq_true rfl) 0 (fun Γ C Rt => ?_)
  show AW ids ad ca Γ 0 [some (.ref (ad 236)), some (.int x1), some (.int x2), some (.int x3), some (.long x4), none] [] σ
  refine a_aload_n C dX12_token_0 (i := 0) rfl rfl ?_
  refine a_get C fl_RX12_20 (i := 236) kd_236 (hid 236 (by decide)) (v := .ref (ad 239)) rfl dX12_token_1 ?_
  refine a_aload_n C dX12_token_4 (i := 0) rfl rfl ?_
  have g1 := bF_236_10 hG
  refine a_get C fl_RX12_169 (i := 236) kd_236 (hid 236 (by decide)) (v := .int (σ.1 236 10)) rfl dX12_token_5 ?_
  refine a_iload_n C dX12_token_8 (i := 1) rfl rfl ?_
  refine s_iast C (i := 239) kd_239 (hid 239 (by decide)) al_239 (by omega) (by omega) dX12_token_9 (fun n2 h3 => ?_)
  have hG4 := wA_239 (v := x1) (j := n2) hG
  refine a_aload_n C dX12_token_10 (i := 0) rfl rfl ?_
  refine a_get C fl_RX12_24 (i := 236) kd_236 (hid 236 (by decide)) (v := .ref (ad 240)) rfl dX12_token_11 ?_
  refine a_aload_n C dX12_token_14 (i := 0) rfl rfl ?_
  refine a_get C fl_RX12_169 (i := 236) kd_236 (hid 236 (by decide)) (v := .int (σ.1 236 10)) rfl dX12_token_15 ?_
  refine a_iload_n C dX12_token_18 (i := 2) rfl rfl ?_
  refine s_iast C (i := 240) kd_240 (hid 240 (by decide)) al_240 (by omega) (by omega) dX12_token_19 (fun n5 h6 => ?_)
  have hG7 := wA_240 (v := x2) (j := n5) hG4
  refine a_aload_n C dX12_token_20 (i := 0) rfl rfl ?_
  refine a_get C fl_RX12_27 (i := 236) kd_236 (hid 236 (by decide)) (v := .ref (ad 241)) rfl dX12_token_21 ?_
  refine a_aload_n C dX12_token_24 (i := 0) rfl rfl ?_
  refine a_get C fl_RX12_169 (i := 236) kd_236 (hid 236 (by decide)) (v := .int (σ.1 236 10)) rfl dX12_token_25 ?_
  refine a_iload_n C dX12_token_28 (i := 3) rfl rfl ?_
  refine s_iast C (i := 241) kd_241 (hid 241 (by decide)) al_241 (by omega) (by omega) dX12_token_29 (fun n8 h9 => ?_)
  have hG10 := wA_241 (v := x3) (j := n8) hG7 (by omega) (by omega)
  refine a_aload_n C dX12_token_30 (i := 0) rfl rfl ?_
  refine a_get C fl_RX12_30 (i := 236) kd_236 (hid 236 (by decide)) (v := .ref (ad 242)) rfl dX12_token_31 ?_
  refine a_aload_n C dX12_token_34 (i := 0) rfl rfl ?_
  refine a_get C fl_RX12_169 (i := 236) kd_236 (hid 236 (by decide)) (v := .int (σ.1 236 10)) rfl dX12_token_35 ?_
  refine a_lload C dX12_token_38 rfl ?_
  refine s_last C (i := 242) kd_242 (hid 242 (by decide)) al_242 (by omega) (by omega) dX12_token_40 (fun n11 h12 => ?_)
  have hG13 := GIm.L (i := 242) (k := n11) (v := x4) hG10 (by decide)
  refine a_aload_n C dX12_token_41 (i := 0) rfl rfl ?_
  refine a_dup C dX12_token_42 rfl ?_
  refine a_get C fl_RX12_169 (i := 236) kd_236 (hid 236 (by decide)) (v := .int (σ.1 236 10)) rfl dX12_token_43 ?_
  refine s_iconst C dX12_token_46 (1) (by decide) (fun z14 h15 => ?_)
  refine s_iadd C dX12_token_47 (by omega) (fun z16 h17 => ?_)
  refine a_put C fp_RX12_169 (i := 236) kd_236 (hid 236 (by decide)) rfl rfl dX12_token_48 ?_
  have hG18 := wF_236_10 (v := z16) hG13 (by omega) (by omega)
  exact a_vret Rt dX12_token_51 (⟨hG18, (onm.F (onm.L (onm.I (onm.I (onm.I onm.rf (by decide)) (by decide)) (by decide)) (by decide)) (by decide)), (show z16.toInt = (σ.1 236 10).toInt + 1 by intros; omega)⟩)
theorem dX12_sign_0 : decode cX12_sign 0 = .ok (.iload_n 2, 1) := by decide +kernel
theorem dX12_sign_1 : decode cX12_sign 1 = .ok (.bipush 59, 2) := by decide +kernel
theorem dX12_sign_3 : decode cX12_sign 3 = .ok (.if_icmp .ne 7, 3) := by decide +kernel
theorem dX12_sign_6 : decode cX12_sign 6 = .ok (.iconst 4, 1) := by decide +kernel
theorem dX12_sign_7 : decode cX12_sign 7 = .ok (.goto 36, 3) := by decide +kernel
theorem dX12_sign_10 : decode cX12_sign 10 = .ok (.iload_n 2, 1) := by decide +kernel
theorem dX12_sign_11 : decode cX12_sign 11 = .ok (.bipush 61, 2) := by decide +kernel
theorem dX12_sign_13 : decode cX12_sign 13 = .ok (.if_icmp .ne 7, 3) := by decide +kernel
theorem dX12_sign_16 : decode cX12_sign 16 = .ok (.iconst 5, 1) := by decide +kernel
theorem dX12_sign_17 : decode cX12_sign 17 = .ok (.goto 26, 3) := by decide +kernel
theorem dX12_sign_20 : decode cX12_sign 20 = .ok (.iload_n 2, 1) := by decide +kernel
theorem dX12_sign_21 : decode cX12_sign 21 = .ok (.bipush 40, 2) := by decide +kernel
theorem dX12_sign_23 : decode cX12_sign 23 = .ok (.if_icmp .ne 8, 3) := by decide +kernel
theorem dX12_sign_26 : decode cX12_sign 26 = .ok (.bipush 6, 2) := by decide +kernel
theorem dX12_sign_28 : decode cX12_sign 28 = .ok (.goto 15, 3) := by decide +kernel
theorem dX12_sign_31 : decode cX12_sign 31 = .ok (.iload_n 2, 1) := by decide +kernel
theorem dX12_sign_32 : decode cX12_sign 32 = .ok (.bipush 41, 2) := by decide +kernel
theorem dX12_sign_34 : decode cX12_sign 34 = .ok (.if_icmp .ne 8, 3) := by decide +kernel
theorem dX12_sign_37 : decode cX12_sign 37 = .ok (.bipush 7, 2) := by decide +kernel
theorem dX12_sign_39 : decode cX12_sign 39 = .ok (.goto 4, 3) := by decide +kernel
theorem dX12_sign_42 : decode cX12_sign 42 = .ok (.iconst 3, 1) := by decide +kernel
theorem dX12_sign_43 : decode cX12_sign 43 = .ok (.istore 4, 2) := by decide +kernel
theorem dX12_sign_45 : decode cX12_sign 45 = .ok (.iload_n 2, 1) := by decide +kernel
theorem dX12_sign_46 : decode cX12_sign 46 = .ok (.bipush 43, 2) := by decide +kernel
theorem dX12_sign_48 : decode cX12_sign 48 = .ok (.if_icmp .ne 7, 3) := by decide +kernel
theorem dX12_sign_51 : decode cX12_sign 51 = .ok (.bipush 8, 2) := by decide +kernel
theorem dX12_sign_53 : decode cX12_sign 53 = .ok (.istore 4, 2) := by decide +kernel
theorem dX12_sign_55 : decode cX12_sign 55 = .ok (.iload_n 2, 1) := by decide +kernel
theorem dX12_sign_56 : decode cX12_sign 56 = .ok (.bipush 45, 2) := by decide +kernel
theorem dX12_sign_58 : decode cX12_sign 58 = .ok (.if_icmp .ne 7, 3) := by decide +kernel
theorem dX12_sign_61 : decode cX12_sign 61 = .ok (.bipush 9, 2) := by decide +kernel
theorem dX12_sign_63 : decode cX12_sign 63 = .ok (.istore 4, 2) := by decide +kernel
theorem dX12_sign_65 : decode cX12_sign 65 = .ok (.iload_n 2, 1) := by decide +kernel
theorem dX12_sign_66 : decode cX12_sign 66 = .ok (.bipush 42, 2) := by decide +kernel
theorem dX12_sign_68 : decode cX12_sign 68 = .ok (.if_icmp .ne 7, 3) := by decide +kernel
theorem dX12_sign_71 : decode cX12_sign 71 = .ok (.bipush 10, 2) := by decide +kernel
theorem dX12_sign_73 : decode cX12_sign 73 = .ok (.istore 4, 2) := by decide +kernel
theorem dX12_sign_75 : decode cX12_sign 75 = .ok (.iload_n 2, 1) := by decide +kernel
theorem dX12_sign_76 : decode cX12_sign 76 = .ok (.bipush 47, 2) := by decide +kernel
theorem dX12_sign_78 : decode cX12_sign 78 = .ok (.if_icmp .ne 7, 3) := by decide +kernel
theorem dX12_sign_81 : decode cX12_sign 81 = .ok (.bipush 15, 2) := by decide +kernel
theorem dX12_sign_83 : decode cX12_sign 83 = .ok (.istore 4, 2) := by decide +kernel
theorem dX12_sign_85 : decode cX12_sign 85 = .ok (.iload_n 2, 1) := by decide +kernel
theorem dX12_sign_86 : decode cX12_sign 86 = .ok (.bipush 60, 2) := by decide +kernel
theorem dX12_sign_88 : decode cX12_sign 88 = .ok (.if_icmp .ne 7, 3) := by decide +kernel
theorem dX12_sign_91 : decode cX12_sign 91 = .ok (.bipush 13, 2) := by decide +kernel
theorem dX12_sign_93 : decode cX12_sign 93 = .ok (.istore 4, 2) := by decide +kernel
theorem dX12_sign_95 : decode cX12_sign 95 = .ok (.aload_n 0, 1) := by decide +kernel
theorem dX12_sign_96 : decode cX12_sign 96 = .ok (.iload 4, 2) := by decide +kernel
theorem dX12_sign_98 : decode cX12_sign 98 = .ok (.iload_n 1, 1) := by decide +kernel
theorem dX12_sign_99 : decode cX12_sign 99 = .ok (.iconst 0, 1) := by decide +kernel
theorem dX12_sign_100 : decode cX12_sign 100 = .ok (.lconst 0, 1) := by decide +kernel
theorem dX12_sign_101 : decode cX12_sign 101 = .ok (.invokevirtual 176, 3) := by decide +kernel
theorem dX12_sign_104 : decode cX12_sign 104 = .ok (.iconst 1, 1) := by decide +kernel
theorem dX12_sign_105 : decode cX12_sign 105 = .ok (.ireturn, 1) := by decide +kernel
set_option maxHeartbeats 4000000 in
set_option maxRecDepth 100000 in
theorem S_X12_sign_236 {l : Launch} {D : va_G} {ids : List Nat} {ad : Nat → Nat} {ca : Nat → ClassId} {σ : HS} {x1 : Int32} {x2 : Int32} {x3 : Int32} (hid : ∀ i, i < 277 → i ∈ ids) (hG : GIm σ) (hp0 : (σ.1 236 10).toInt ≤ 401) : Ki l D ids ad ca yX12_sign cX12_sign 5 .int 1 25 [.ref (ad 236), .int x1, .int x2, .int x3] σ (fun r σ1 => (GIm σ1) ∧ (onm [239, 240, 241, 242, 1010] σ σ1) ∧ (1 ≤ r.toInt ∧ r.toInt ≤ 1) ∧ ((σ1.1 236 10).toInt = (σ.1 236 10).toInt + 1)) := by
  refine Ki.of (by decide) (Nat.le_of_ble_eq_true rfl) 1 (fun Γ C Rt => ?_)
  show AW ids ad ca Γ 0 [some (.ref (ad 236)), some (.int x1), some (.int x2), some (.int x3), none] [] σ
  have j95 : ∀ (σq95 : HS) (y95_4 : Int32), GIm σq95 → onm [239, 240, 241, 242, 1010] σ σq95 → 3 ≤ y95_4.toInt ∧ y95_4.toInt ≤ 15 → ((σq95.1 236 10).toInt = (σ.1 236 10).toInt) → AW ids ad ca Γ 95 [some (.ref (ad 236)), some (.int x1), none, none, some (.int y95_4)] [] σq95 := by
    intro σq95 y95_4 hGq95 hoq95 hx95_0 hx95_1
    refine a_aload_n C dX12_sign_95 (i := 0) rfl rfl ?_
    refine a_iload C dX12_sign_96 rfl ?_
    refine a_iload_n C dX12_sign_98 (i := 1) rfl rfl ?_
    refine s_iconst C dX12_sign_99 (0) (by decide) (fun z1 h2 => ?_)
    refine a_lconst C dX12_sign_100 (v := 0) rfl ?_
    have g6 := bF_236_10 hGq95
    refine a_callVv C (i := 236) kd_236 (hid 236 (by decide)) ⟨_, _, rfl⟩ (by decide) (S_X12_token_236 (x1 := y95_4) (x2 := x1) (x3 := z1) (x4 := 0) hid hGq95 (by omega) (by omega)) mi_X12_token ml_RX12_176 rfl rfl (Nat.le_of_ble_eq_true rfl) (Nat.le_of_ble_eq_true rfl) (Nat.le_of_ble_eq_true rfl) dX12_sign_101 (fun σ4 q5 => ?_)
    obtain ⟨hG7, ho8, w10⟩ := q5
    refine s_iconst C dX12_sign_104 (1) (by decide) (fun z11 h12 => ?_)
    have g13 := bF_236_10 hG7
    exact a_iret Rt dX12_sign_105 rfl (⟨hG7, (onm.tr hoq95 (onm.mono ho8 (by decide))), (show 1 ≤ z11.toInt ∧ z11.toInt ≤ 1 by intros; omega), (show (σ4.1 236 10).toInt = (σ.1 236 10).toInt + 1 by intros; omega)⟩)
  have j85 : ∀ (σq85 : HS) (y85_4 : Int32), GIm σq85 → onm [239, 240, 241, 242, 1010] σ σq85 → 3 ≤ y85_4.toInt ∧ y85_4.toInt ≤ 15 → ((σq85.1 236 10).toInt = (σ.1 236 10).toInt) → AW ids ad ca Γ 85 [some (.ref (ad 236)), some (.int x1), some (.int x2), none, some (.int y85_4)] [] σq85 := by
    intro σq85 y85_4 hGq85 hoq85 hx85_0 hx85_1
    refine a_iload_n C dX12_sign_85 (i := 2) rfl rfl ?_
    refine s_bipush C dX12_sign_86 (60) (by decide) (fun z14 h15 => ?_)
    refine s_ic_ne C dX12_sign_88 (tgt := 95) rfl (fun c16 => ?_) (fun c16 => ?_)
    ·
      have g17 := bF_236_10 hGq85
      refine AW.sub (vs' := [some (.ref (ad 236)), some (.int x1), none, none, some (.int y85_4)]) (lsub_of (by simp [lsubB])) ?_
      exact j95 _ y85_4 hGq85 hoq85 (by omega) (show (σq85.1 236 10).toInt = (σ.1 236 10).toInt by omega)
    ·
      refine s_bipush C dX12_sign_91 (13) (by decide) (fun z18 h19 => ?_)
      refine a_istore C dX12_sign_93 (by decide) rfl (vs1 := [some (.ref (ad 236)), some (.int x1), some (.int x2), none, some (.int z18)]) rfl ?_
      have g20 := bF_236_10 hGq85
      refine AW.sub (vs' := [some (.ref (ad 236)), some (.int x1), none, none, some (.int z18)]) (lsub_of (by simp [lsubB])) ?_
      exact j95 _ z18 hGq85 hoq85 (by omega) (show (σq85.1 236 10).toInt = (σ.1 236 10).toInt by omega)
  have j75 : ∀ (σq75 : HS) (y75_4 : Int32), GIm σq75 → onm [239, 240, 241, 242, 1010] σ σq75 → 3 ≤ y75_4.toInt ∧ y75_4.toInt ≤ 10 → ((σq75.1 236 10).toInt = (σ.1 236 10).toInt) → AW ids ad ca Γ 75 [some (.ref (ad 236)), some (.int x1), some (.int x2), none, some (.int y75_4)] [] σq75 := by
    intro σq75 y75_4 hGq75 hoq75 hx75_0 hx75_1
    refine a_iload_n C dX12_sign_75 (i := 2) rfl rfl ?_
    refine s_bipush C dX12_sign_76 (47) (by decide) (fun z21 h22 => ?_)
    refine s_ic_ne C dX12_sign_78 (tgt := 85) rfl (fun c23 => ?_) (fun c23 => ?_)
    ·
      have g24 := bF_236_10 hGq75
      exact j85 _ y75_4 hGq75 hoq75 (by omega) (show (σq75.1 236 10).toInt = (σ.1 236 10).toInt by omega)
    ·
      refine s_bipush C dX12_sign_81 (15) (by decide) (fun z25 h26 => ?_)
      refine a_istore C dX12_sign_83 (by decide) rfl (vs1 := [some (.ref (ad 236)), some (.int x1), some (.int x2), none, some (.int z25)]) rfl ?_
      have g27 := bF_236_10 hGq75
      exact j85 _ z25 hGq75 hoq75 (by omega) (show (σq75.1 236 10).toInt = (σ.1 236 10).toInt by omega)
  have j65 : ∀ (σq65 : HS) (y65_4 : Int32), GIm σq65 → onm [239, 240, 241, 242, 1010] σ σq65 → 3 ≤ y65_4.toInt ∧ y65_4.toInt ≤ 9 → ((σq65.1 236 10).toInt = (σ.1 236 10).toInt) → AW ids ad ca Γ 65 [some (.ref (ad 236)), some (.int x1), some (.int x2), none, some (.int y65_4)] [] σq65 := by
    intro σq65 y65_4 hGq65 hoq65 hx65_0 hx65_1
    refine a_iload_n C dX12_sign_65 (i := 2) rfl rfl ?_
    refine s_bipush C dX12_sign_66 (42) (by decide) (fun z28 h29 => ?_)
    refine s_ic_ne C dX12_sign_68 (tgt := 75) rfl (fun c30 => ?_) (fun c30 => ?_)
    ·
      have g31 := bF_236_10 hGq65
      exact j75 _ y65_4 hGq65 hoq65 (by omega) (show (σq65.1 236 10).toInt = (σ.1 236 10).toInt by omega)
    ·
      refine s_bipush C dX12_sign_71 (10) (by decide) (fun z32 h33 => ?_)
      refine a_istore C dX12_sign_73 (by decide) rfl (vs1 := [some (.ref (ad 236)), some (.int x1), some (.int x2), none, some (.int z32)]) rfl ?_
      have g34 := bF_236_10 hGq65
      exact j75 _ z32 hGq65 hoq65 (by omega) (show (σq65.1 236 10).toInt = (σ.1 236 10).toInt by omega)
  have j55 : ∀ (σq55 : HS) (y55_4 : Int32), GIm σq55 → onm [239, 240, 241, 242, 1010] σ σq55 → 3 ≤ y55_4.toInt ∧ y55_4.toInt ≤ 8 → ((σq55.1 236 10).toInt = (σ.1 236 10).toInt) → AW ids ad ca Γ 55 [some (.ref (ad 236)), some (.int x1), some (.int x2), none, some (.int y55_4)] [] σq55 := by
    intro σq55 y55_4 hGq55 hoq55 hx55_0 hx55_1
    refine a_iload_n C dX12_sign_55 (i := 2) rfl rfl ?_
    refine s_bipush C dX12_sign_56 (45) (by decide) (fun z35 h36 => ?_)
    refine s_ic_ne C dX12_sign_58 (tgt := 65) rfl (fun c37 => ?_) (fun c37 => ?_)
    ·
      have g38 := bF_236_10 hGq55
      exact j65 _ y55_4 hGq55 hoq55 (by omega) (show (σq55.1 236 10).toInt = (σ.1 236 10).toInt by omega)
    ·
      refine s_bipush C dX12_sign_61 (9) (by decide) (fun z39 h40 => ?_)
      refine a_istore C dX12_sign_63 (by decide) rfl (vs1 := [some (.ref (ad 236)), some (.int x1), some (.int x2), none, some (.int z39)]) rfl ?_
      have g41 := bF_236_10 hGq55
      exact j65 _ z39 hGq55 hoq55 (by omega) (show (σq55.1 236 10).toInt = (σ.1 236 10).toInt by omega)
  have j43 : ∀ (σq43 : HS) (u43_0 : Int32), GIm σq43 → onm [239, 240, 241, 242, 1010] σ σq43 → 3 ≤ u43_0.toInt ∧ u43_0.toInt ≤ 7 → ((σq43.1 236 10).toInt = (σ.1 236 10).toInt) → AW ids ad ca Γ 43 [some (.ref (ad 236)), some (.int x1), some (.int x2), none, none] [.int u43_0] σq43 := by
    intro σq43 u43_0 hGq43 hoq43 hx43_0 hx43_1
    refine a_istore C dX12_sign_43 (by decide) rfl (vs1 := [some (.ref (ad 236)), some (.int x1), some (.int x2), none, some (.int u43_0)]) rfl ?_
    refine a_iload_n C dX12_sign_45 (i := 2) rfl rfl ?_
    refine s_bipush C dX12_sign_46 (43) (by decide) (fun z42 h43 => ?_)
    refine s_ic_ne C dX12_sign_48 (tgt := 55) rfl (fun c44 => ?_) (fun c44 => ?_)
    ·
      have g45 := bF_236_10 hGq43
      exact j55 _ u43_0 hGq43 hoq43 (by omega) (show (σq43.1 236 10).toInt = (σ.1 236 10).toInt by omega)
    ·
      refine s_bipush C dX12_sign_51 (8) (by decide) (fun z46 h47 => ?_)
      refine a_istore C dX12_sign_53 (by decide) rfl (vs1 := [some (.ref (ad 236)), some (.int x1), some (.int x2), none, some (.int z46)]) rfl ?_
      have g48 := bF_236_10 hGq43
      exact j55 _ z46 hGq43 hoq43 (by omega) (show (σq43.1 236 10).toInt = (σ.1 236 10).toInt by omega)
  refine a_iload_n C dX12_sign_0 (i := 2) rfl rfl ?_
  refine s_bipush C dX12_sign_1 (59) (by decide) (fun z49 h50 => ?_)
  refine s_ic_ne C dX12_sign_3 (tgt := 10) rfl (fun c51 => ?_) (fun c51 => ?_)
  ·
    refine a_iload_n C dX12_sign_10 (i := 2) rfl rfl ?_
    refine s_bipush C dX12_sign_11 (61) (by decide) (fun z52 h53 => ?_)
    refine s_ic_ne C dX12_sign_13 (tgt := 20) rfl (fun c54 => ?_) (fun c54 => ?_)
    ·
      refine a_iload_n C dX12_sign_20 (i := 2) rfl rfl ?_
      refine s_bipush C dX12_sign_21 (40) (by decide) (fun z55 h56 => ?_)
      refine s_ic_ne C dX12_sign_23 (tgt := 31) rfl (fun c57 => ?_) (fun c57 => ?_)
      ·
        refine a_iload_n C dX12_sign_31 (i := 2) rfl rfl ?_
        refine s_bipush C dX12_sign_32 (41) (by decide) (fun z58 h59 => ?_)
        refine s_ic_ne C dX12_sign_34 (tgt := 42) rfl (fun c60 => ?_) (fun c60 => ?_)
        ·
          refine s_iconst C dX12_sign_42 (3) (by decide) (fun z61 h62 => ?_)
          have g63 := bF_236_10 hG
          refine AW.sub (vs' := [some (.ref (ad 236)), some (.int x1), some (.int x2), none, none]) (lsub_of (by simp [lsubB])) ?_
          exact j43 _ z61 hG onm.rf (by omega) (show (σ.1 236 10).toInt = (σ.1 236 10).toInt by omega)
        ·
          refine s_bipush C dX12_sign_37 (7) (by decide) (fun z64 h65 => ?_)
          refine a_goto C dX12_sign_39 (tgt := 43) rfl ?_
          have g66 := bF_236_10 hG
          refine AW.sub (vs' := [some (.ref (ad 236)), some (.int x1), some (.int x2), none, none]) (lsub_of (by simp [lsubB])) ?_
          exact j43 _ z64 hG onm.rf (by omega) (show (σ.1 236 10).toInt = (σ.1 236 10).toInt by omega)
      ·
        refine s_bipush C dX12_sign_26 (6) (by decide) (fun z67 h68 => ?_)
        refine a_goto C dX12_sign_28 (tgt := 43) rfl ?_
        have g69 := bF_236_10 hG
        refine AW.sub (vs' := [some (.ref (ad 236)), some (.int x1), some (.int x2), none, none]) (lsub_of (by simp [lsubB])) ?_
        exact j43 _ z67 hG onm.rf (by omega) (show (σ.1 236 10).toInt = (σ.1 236 10).toInt by omega)
    ·
      refine s_iconst C dX12_sign_16 (5) (by decide) (fun z70 h71 => ?_)
      refine a_goto C dX12_sign_17 (tgt := 43) rfl ?_
      have g72 := bF_236_10 hG
      refine AW.sub (vs' := [some (.ref (ad 236)), some (.int x1), some (.int x2), none, none]) (lsub_of (by simp [lsubB])) ?_
      exact j43 _ z70 hG onm.rf (by omega) (show (σ.1 236 10).toInt = (σ.1 236 10).toInt by omega)
  ·
    refine s_iconst C dX12_sign_6 (4) (by decide) (fun z73 h74 => ?_)
    refine a_goto C dX12_sign_7 (tgt := 43) rfl ?_
    have g75 := bF_236_10 hG
    refine AW.sub (vs' := [some (.ref (ad 236)), some (.int x1), some (.int x2), none, none]) (lsub_of (by simp [lsubB])) ?_
    exact j43 _ z73 hG onm.rf (by omega) (show (σ.1 236 10).toInt = (σ.1 236 10).toInt by omega)
