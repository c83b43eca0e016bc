theorem dX12_isLetter_0 : decode cX12_isLetter 0 = .ok (.iload_n 0, 1) := by decide +kernel
theorem dX12_isLetter_1 : decode cX12_isLetter 1 = .ok (.bipush 97, 2) := by decide +kernel
theorem dX12_isLetter_3 : decode cX12_isLetter 3 = .ok (.if_icmp .lt 13, 3) := by decide +kernel
theorem dX12_isLetter_6 : decode cX12_isLetter 6 = .ok (.iload_n 0, 1) := by decide +kernel
theorem dX12_isLetter_7 : decode cX12_isLetter 7 = .ok (.bipush 122, 2) := by decide +kernel
theorem dX12_isLetter_9 : decode cX12_isLetter 9 = .ok (.if_icmp .gt 7, 3) := by decide +kernel
theorem dX12_isLetter_12 : decode cX12_isLetter 12 = .ok (.iconst 1, 1) := by decide +kernel
theorem dX12_isLetter_13 : decode cX12_isLetter 13 = .ok (.goto 4, 3) := by decide +kernel
theorem dX12_isLetter_16 : decode cX12_isLetter 16 = .ok (.iconst 0, 1) := by decide +kernel
theorem dX12_isLetter_17 : decode cX12_isLetter 17 = .ok (.ireturn, 1) := by decide +kernel
set_option maxHeartbeats 4000000 in
set_option maxRecDepth 100000 in
theorem S_X12_isLetter {l : Launch} {D : va_G} {ids : List Nat} {ad : Nat → Nat} {ca : Nat → ClassId} {σ : HS} {x1 : Int32} (hid : ∀ i, i < 277 → i ∈ ids) (hG : GIm σ) : Ki l D ids ad ca yX12_isLetter cX12_isLetter 1 .boolean 0 0 [.int x1] σ (fun r σ1 => (σ1 = σ) ∧ (0 ≤ r.toInt ∧ r.toInt ≤ 1) ∧ (r.toInt = 1 → 97 ≤ x1.toInt ∧ x1.toInt ≤ 122)) := by
  refine Ki.of (by decide) (Nat.le_of_ble_eq_true rfl) 0 (fun Γ C Rt => ?_)
  show AW ids ad ca Γ 0 [some (.int x1)] [] σ
  refine a_iload_n C dX12_isLetter_0 (i := 0) rfl rfl ?_
  refine s_bipush C dX12_isLetter_1 (97) (by decide) (fun z1 h2 => ?_)
  refine s_ic_lt C dX12_isLetter_3 (tgt := 16) rfl (fun c3 => ?_) (fun c3 => ?_)
  ·
    refine s_iconst C dX12_isLetter_16 (0) (by decide) (fun z4 h5 => ?_)
    exact a_iret Rt dX12_isLetter_17 (nar_z (by omega)).1 (⟨rfl, (show 0 ≤ z4.toInt ∧ z4.toInt ≤ 1 by intros; omega), (show z4.toInt = 1 → 97 ≤ x1.toInt ∧ x1.toInt ≤ 122 by intros; omega)⟩)
  ·
    refine a_iload_n C dX12_isLetter_6 (i := 0) rfl rfl ?_
    refine s_bipush C dX12_isLetter_7 (122) (by decide) (fun z6 h7 => ?_)
    refine s_ic_gt C dX12_isLetter_9 (tgt := 16) rfl (fun c8 => ?_) (fun c8 => ?_)
    ·
      refine s_iconst C dX12_isLetter_16 (0) (by decide) (fun z9 h10 => ?_)
      exact a_iret Rt dX12_isLetter_17 (nar_z (by omega)).1 (⟨rfl, (show 0 ≤ z9.toInt ∧ z9.toInt ≤ 1 by intros; omega), (show z9.toInt = 1 → 97 ≤ x1.toInt ∧ x1.toInt ≤ 122 by intros; omega)⟩)
    ·
      refine s_iconst C dX12_isLetter_12 (1) (by decide) (fun z11 h12 => ?_)
      refine a_goto C dX12_isLetter_13 (tgt := 17) rfl ?_
      exact a_iret Rt dX12_isLetter_17 (nar_z (by omega)).1 (⟨rfl, (show 0 ≤ z11.toInt ∧ z11.toInt ≤ 1 by intros; omega), (show z11.toInt = 1 → 97 ≤ x1.toInt ∧ x1.toInt ≤ 122 by intros; omega)⟩)
theorem dX12_isDigit_0 : decode cX12_isDigit 0 = .ok (.iload_n 0, 1) := by decide +kernel
theorem dX12_isDigit_1 : decode cX12_isDigit 1 = .ok (.bipush 48, 2) := by decide +kernel
theorem dX12_isDigit_3 : decode cX12_isDigit 3 = .ok (.if_icmp .lt 13, 3) := by decide +kernel
theorem dX12_isDigit_6 : decode cX12_isDigit 6 = .ok (.iload_n 0, 1) := by decide +kernel
theorem dX12_isDigit_7 : decode cX12_isDigit 7 = .ok (.bipush 57, 2) := by decide +kernel
theorem dX12_isDigit_9 : decode cX12_isDigit 9 = .ok (.if_icmp .gt 7, 3) := by decide +kernel
theorem dX12_isDigit_12 : decode cX12_isDigit 12 = .ok (.iconst 1, 1) := by decide +kernel
theorem dX12_isDigit_13 : decode cX12_isDigit 13 = .ok (.goto 4, 3) := by decide +kernel
theorem dX12_isDigit_16 : decode cX12_isDigit 16 = .ok (.iconst 0, 1) := by decide +kernel
theorem dX12_isDigit_17 : decode cX12_isDigit 17 = .ok (.ireturn, 1) := by decide +kernel
set_option maxHeartbeats 4000000 in
set_option maxRecDepth 100000 in
theorem S_X12_isDigit {l : Launch} {D : va_G} {ids : List Nat} {ad : Nat → Nat} {ca : Nat → ClassId} {σ : HS} {x1 : Int32} (hid : ∀ i, i < 277 → i ∈ ids) (hG : GIm σ) : Ki l D ids ad ca yX12_isDigit cX12_isDigit 1 .boolean 0 0 [.int x1] σ (fun r σ1 => (σ1 = σ) ∧ (0 ≤ r.toInt ∧ r.toInt ≤ 1) ∧ (r.toInt = 1 → 48 ≤ x1.toInt ∧ x1.toInt ≤ 57)) := by
  refine Ki.of (by decide) (Nat.le_of_ble_eq_true rfl) 0 (fun Γ C Rt => ?_)
  show AW ids ad ca Γ 0 [some (.int x1)] [] σ
  refine a_iload_n C dX12_isDigit_0 (i := 0) rfl rfl ?_
  refine s_bipush C dX12_isDigit_1 (48) (by decide) (fun z1 h2 => ?_)
  refine s_ic_lt C dX12_isDigit_3 (tgt := 16) rfl (fun c3 => ?_) (fun c3 => ?_)
  ·
    refine s_iconst C dX12_isDigit_16 (0) (by decide) (fun z4 h5 => ?_)
    exact a_iret Rt dX12_isDigit_17 (nar_z (by omega)).1 (⟨rfl, (show 0 ≤ z4.toInt ∧ z4.toInt ≤ 1 by intros; omega), (show z4.toInt = 1 → 48 ≤ x1.toInt ∧ x1.toInt ≤ 57 by intros; omega)⟩)
  ·
    refine a_iload_n C dX12_isDigit_6 (i := 0) rfl rfl ?_
    refine s_bipush C dX12_isDigit_7 (57) (by decide) (fun z6 h7 => ?_)
    refine s_ic_gt C dX12_isDigit_9 (tgt := 16) rfl (fun c8 => ?_) (fun c8 => ?_)
    ·
      refine s_iconst C dX12_isDigit_16 (0) (by decide) (fun z9 h10 => ?_)
      exact a_iret Rt dX12_isDigit_17 (nar_z (by omega)).1 (⟨rfl, (show 0 ≤ z9.toInt ∧ z9.toInt ≤ 1 by intros; omega), (show z9.toInt = 1 → 48 ≤ x1.toInt ∧ x1.toInt ≤ 57 by intros; omega)⟩)
    ·
      refine s_iconst C dX12_isDigit_12 (1) (by decide) (fun z11 h12 => ?_)
      refine a_goto C dX12_isDigit_13 (tgt := 17) rfl ?_
      exact a_iret Rt dX12_isDigit_17 (nar_z (by omega)).1 (⟨rfl, (show 0 ≤ z11.toInt ∧ z11.toInt ≤ 1 by intros; omega), (show z11.toInt = 1 → 48 ≤ x1.toInt ∧ x1.toInt ≤ 57 by intros; omega)⟩)
set_option maxHeartbeats 4000000 in
set_option maxRecDepth 100000 in
theorem S_X12_appends {l : Launch} {D : va_G} {ids : List Nat} {ad : Nat → Nat} {ca : Nat → ClassId} {σ : HS} {x1 : Int64} {x2 : Int32} (hid : ∀ i, i < 277 → i ∈ ids) (hG : GIm σ) : Kl l D ids ad ca yX12_appends cX12_appends 3 0 0 [.long x1, .int x2] σ (fun r σ1 => (σ1 = σ)) := by
  refine Kl.of (by decide) (Nat.le_of_ble_eq_true rfl) 0 (fun Γ C Rt => ?_)
  show AW ids ad ca Γ 0 [some (.long x1), none, some (.int x2)] [] σ
  have j21 : ∀ (u21_0 : Int64), AW ids ad ca Γ 21 [none, none, none] [.long u21_0] σ := by
    intro u21_0
    exact a_lret Rt dX12_appends_21 (rfl)
  refine a_iload_n C dX12_appends_0 (i := 2) rfl rfl ?_
  refine s_if_ne C dX12_appends_1 (tgt := 8) rfl (fun c1 => ?_) (fun c1 => ?_)
  ·
    refine a_ldc2 C dX12_appends_8 ko_RX12_163 ?_
    refine a_lload_n C dX12_appends_11 (i := 0) rfl rfl ?_
    refine s_lmulU C dX12_appends_12 (fun w2 => ?_)
    refine a_iload_n C dX12_appends_13 (i := 2) rfl rfl ?_
    refine s_bipush C dX12_appends_14 (97) (by decide) (fun z3 h4 => ?_)
    refine s_isubU C dX12_appends_16 (fun z5 => ?_)
    refine s_iconst C dX12_appends_17 (1) (by decide) (fun z7 h8 => ?_)
    refine s_iaddU C dX12_appends_18 (fun z9 => ?_)
    refine s_i2lU C dX12_appends_19 (fun w11 => ?_)
    refine s_laddU C dX12_appends_20 (fun w12 => ?_)
    refine AW.sub (vs' := [none, none, none]) (lsub_of (by simp [lsubB])) ?_
    exact j21 w12
  ·
    refine a_lload_n C dX12_appends_4 (i := 0) rfl rfl ?_
    refine a_goto C dX12_appends_5 (tgt := 21) rfl ?_
    refine AW.sub (vs' := [none, none, none]) (lsub_of (by simp [lsubB])) ?_
    exact j21 x1
set_option maxHeartbeats 4000000 in
set_option maxRecDepth 100000 in
theorem S_X12_token_236 {l : Launch} {D : va_G} {ids : List Nat} {ad : Nat → Nat} {ca : Nat → ClassId} {σ : HS} {x1 : Int32} {x2 : Int32} {x3 : Int32} {x4 : Int64} (hid : ∀ i, i < 277 → i ∈ ids) (hG : GIm σ) (hx1 : 0 ≤ x1.toInt ∧ x1.toInt ≤ 39) (hx3 : 0 ≤ x3.toInt ∧ x3.toInt ≤ 9999) (hp0 : (σ.1 236 10).toInt ≤ 401) : Kv l D ids ad ca yX12_token cX12_token 6 0 0 [.ref (ad 236), .int x1, .int x2, .int x3, .long x4] σ (fun σ1 => (GIm σ1) ∧ (onm [239, 240, 241, 242, 1010] σ σ1) ∧ ((σ1.1 236 10).toInt = (σ.1 236 10).toInt + 1)) := by
  refine Kv.of (by decide) (Nat.le_of_ble_eq_true rfl) 0 (fun Γ C Rt => ?_)
  show AW ids ad ca Γ 0 [some (.ref (ad 236)), some (.int x1), some (.int x2), some (.int x3), some (.long x4), none] [] σ
  refine a_aload_n C dX12_token_0 (i := 0) rfl rfl ?_
  refine a_get C fl_RX12_20 (i := 236) kd_236 (hid 236 (by decide)) (v := .ref (ad 239)) rfl dX12_token_1 ?_
  refine a_aload_n C dX12_token_4 (i := 0) rfl rfl ?_
  have g1 := bF_236_10 hG
  refine a_get C fl_RX12_169 (i := 236) kd_236 (hid 236 (by decide)) (v := .int (σ.1 236 10)) rfl dX12_token_5 ?_
  refine a_iload_n C dX12_token_8 (i := 1) rfl rfl ?_
  refine s_iast C (i := 239) kd_239 (hid 239 (by decide)) al_239 (by omega) (by omega) dX12_token_9 (fun n2 h3 => ?_)
  have hG4 := wA_239 (v := x1) (j := n2) hG (by omega) (by omega)
  refine a_aload_n C dX12_token_10 (i := 0) rfl rfl ?_
  refine a_get C fl_RX12_24 (i := 236) kd_236 (hid 236 (by decide)) (v := .ref (ad 240)) rfl dX12_token_11 ?_
  refine a_aload_n C dX12_token_14 (i := 0) rfl rfl ?_
  refine a_get C fl_RX12_169 (i := 236) kd_236 (hid 236 (by decide)) (v := .int (σ.1 236 10)) rfl dX12_token_15 ?_
  refine a_iload_n C dX12_token_18 (i := 2) rfl rfl ?_
  refine s_iast C (i := 240) kd_240 (hid 240 (by decide)) al_240 (by omega) (by omega) dX12_token_19 (fun n5 h6 => ?_)
  have hG7 := wA_240 (v := x2) (j := n5) hG4
  refine a_aload_n C dX12_token_20 (i := 0) rfl rfl ?_
  refine a_get C fl_RX12_27 (i := 236) kd_236 (hid 236 (by decide)) (v := .ref (ad 241)) rfl dX12_token_21 ?_
  refine a_aload_n C dX12_token_24 (i := 0) rfl rfl ?_
  refine a_get C fl_RX12_169 (i := 236) kd_236 (hid 236 (by decide)) (v := .int (σ.1 236 10)) rfl dX12_token_25 ?_
  refine a_iload_n C dX12_token_28 (i := 3) rfl rfl ?_
  refine s_iast C (i := 241) kd_241 (hid 241 (by decide)) al_241 (by omega) (by omega) dX12_token_29 (fun n8 h9 => ?_)
  have hG10 := wA_241 (v := x3) (j := n8) hG7 (by omega) (by omega)
  refine a_aload_n C dX12_token_30 (i := 0) rfl rfl ?_
  refine a_get C fl_RX12_30 (i := 236) kd_236 (hid 236 (by decide)) (v := .ref (ad 242)) rfl dX12_token_31 ?_
  refine a_aload_n C dX12_token_34 (i := 0) rfl rfl ?_
  refine a_get C fl_RX12_169 (i := 236) kd_236 (hid 236 (by decide)) (v := .int (σ.1 236 10)) rfl dX12_token_35 ?_
  refine a_lload C dX12_token_38 rfl ?_
  refine s_last C (i := 242) kd_242 (hid 242 (by decide)) al_242 (by omega) (by omega) dX12_token_40 (fun n11 h12 => ?_)
  have hG13 := GIm.L (i := 242) (k := n11) (v := x4) hG10 (by decide)
  refine a_aload_n C dX12_token_41 (i := 0) rfl rfl ?_
  refine a_dup C dX12_token_42 rfl ?_
  refine a_get C fl_RX12_169 (i := 236) kd_236 (hid 236 (by decide)) (v := .int (σ.1 236 10)) rfl dX12_token_43 ?_
  refine s_iconst C dX12_token_46 (1) (by decide) (fun z14 h15 => ?_)
  refine s_iadd C dX12_token_47 (by omega) (fun z16 h17 => ?_)
  refine a_put C fp_RX12_169 (i := 236) kd_236 (hid 236 (by decide)) rfl rfl dX12_token_48 ?_
  have hG18 := wF_236_10 (v := z16) hG13 (by omega) (by omega)
  exact a_vret Rt dX12_token_51 (⟨hG18, (onm.F (onm.L (onm.I (onm.I (onm.I onm.rf (by decide)) (by decide)) (by decide)) (by decide)) (by decide)), (show z16.toInt = (σ.1 236 10).toInt + 1 by intros; omega)⟩)
theorem dX12_sign_0 : decode cX12_sign 0 = .ok (.iload_n 2, 1) := by decide +kernel
theorem dX12_sign_1 : decode cX12_sign 1 = .ok (.bipush 59, 2) := by decide +kernel
theorem dX12_sign_3 : decode cX12_sign 3 = .ok (.if_icmp .ne 7, 3) := by decide +kernel
theorem dX12_sign_6 : decode cX12_sign 6 = .ok (.iconst 4, 1) := by decide +kernel
theorem dX12_sign_7 : decode cX12_sign 7 = .ok (.goto 36, 3) := by decide +kernel
theorem dX12_sign_10 : decode cX12_sign 10 = .ok (.iload_n 2, 1) := by decide +kernel
theorem dX12_sign_11 : decode cX12_sign 11 = .ok (.bipush 61, 2) := by decide +kernel
theorem dX12_sign_13 : decode cX12_sign 13 = .ok (.if_icmp .ne 7, 3) := by decide +kernel
theorem dX12_sign_16 : decode cX12_sign 16 = .ok (.iconst 5, 1) := by decide +kernel
theorem dX12_sign_17 : decode cX12_sign 17 = .ok (.goto 26, 3) := by decide +kernel
theorem dX12_sign_20 : decode cX12_sign 20 = .ok (.iload_n 2, 1) := by decide +kernel
theorem dX12_sign_21 : decode cX12_sign 21 = .ok (.bipush 40, 2) := by decide +kernel
theorem dX12_sign_23 : decode cX12_sign 23 = .ok (.if_icmp .ne 8, 3) := by decide +kernel
theorem dX12_sign_26 : decode cX12_sign 26 = .ok (.bipush 6, 2) := by decide +kernel
theorem dX12_sign_28 : decode cX12_sign 28 = .ok (.goto 15, 3) := by decide +kernel
theorem dX12_sign_31 : decode cX12_sign 31 = .ok (.iload_n 2, 1) := by decide +kernel
theorem dX12_sign_32 : decode cX12_sign 32 = .ok (.bipush 41, 2) := by decide +kernel
theorem dX12_sign_34 : decode cX12_sign 34 = .ok (.if_icmp .ne 8, 3) := by decide +kernel
theorem dX12_sign_37 : decode cX12_sign 37 = .ok (.bipush 7, 2) := by decide +kernel
theorem dX12_sign_39 : decode cX12_sign 39 = .ok (.goto 4, 3) := by decide +kernel
theorem dX12_sign_42 : decode cX12_sign 42 = .ok (.iconst 3, 1) := by decide +kernel
theorem dX12_sign_43 : decode cX12_sign 43 = .ok (.istore 4, 2) := by decide +kernel
theorem dX12_sign_45 : decode cX12_sign 45 = .ok (.iload_n 2, 1) := by decide +kernel
theorem dX12_sign_46 : decode cX12_sign 46 = .ok (.bipush 43, 2) := by decide +kernel
theorem dX12_sign_48 : decode cX12_sign 48 = .ok (.if_icmp .ne 7, 3) := by decide +kernel
theorem dX12_sign_51 : decode cX12_sign 51 = .ok (.bipush 8, 2) := by decide +kernel
theorem dX12_sign_53 : decode cX12_sign 53 = .ok (.istore 4, 2) := by decide +kernel
theorem dX12_sign_55 : decode cX12_sign 55 = .ok (.iload_n 2, 1) := by decide +kernel
theorem dX12_sign_56 : decode cX12_sign 56 = .ok (.bipush 45, 2) := by decide +kernel
theorem dX12_sign_58 : decode cX12_sign 58 = .ok (.if_icmp .ne 7, 3) := by decide +kernel
theorem dX12_sign_61 : decode cX12_sign 61 = .ok (.bipush 9, 2) := by decide +kernel
theorem dX12_sign_63 : decode cX12_sign 63 = .ok (.istore 4, 2) := by decide +kernel
theorem dX12_sign_65 : decode cX12_sign 65 = .ok (.iload_n 2, 1) := by decide +kernel
theorem dX12_sign_66 : decode cX12_sign 66 = .ok (.bipush 42, 2) := by decide +kernel
theorem dX12_sign_68 : decode cX12_sign 68 = .ok (.if_icmp .ne 7, 3) := by decide +kernel
theorem dX12_sign_71 : decode cX12_sign 71 = .ok (.bipush 10, 2) := by decide +kernel
theorem dX12_sign_73 : decode cX12_sign 73 = .ok (.istore 4, 2) := by decide +kernel
theorem dX12_sign_75 : decode cX12_sign 75 = .ok (.iload_n 2, 1) := by decide +kernel
theorem dX12_sign_76 : decode cX12_sign 76 = .ok (.bipush 47, 2) := by decide +kernel
theorem dX12_sign_78 : decode cX12_sign 78 = .ok (.if_icmp .ne 7, 3) := by decide +kernel
theorem dX12_sign_81 : decode cX12_sign 81 = .ok (.bipush 15, 2) := by decide +kernel
theorem dX12_sign_83 : decode cX12_sign 83 = .ok (.istore 4, 2) := by decide +kernel
theorem dX12_sign_85 : decode cX12_sign 85 = .ok (.iload_n 2, 1) := by decide +kernel
theorem dX12_sign_86 : decode cX12_sign 86 = .ok (.bipush 60, 2) := by decide +kernel
theorem dX12_sign_88 : decode cX12_sign 88 = .ok (.if_icmp .ne 7, 3) := by decide +kernel
theorem dX12_sign_91 : decode cX12_sign 91 = .ok (.bipush 13, 2) := by decide +kernel
theorem dX12_sign_93 : decode cX12_sign 93 = .ok (.istore 4, 2) := by decide +kernel
theorem dX12_sign_95 : decode cX12_sign 95 = .ok (.aload_n 0, 1) := by decide +kernel
theorem dX12_sign_96 : decode cX12_sign 96 = .ok (.iload 4, 2) := by decide +kernel
theorem dX12_sign_98 : decode cX12_sign 98 = .ok (.iload_n 1, 1) := by decide +kernel
theorem dX12_sign_99 : decode cX12_sign 99 = .ok (.iconst 0, 1) := by decide +kernel
theorem dX12_sign_100 : decode cX12_sign 100 = .ok (.lconst 0, 1) := by decide +kernel
theorem dX12_sign_101 : decode cX12_sign 101 = .ok (.invokevirtual 176, 3) := by decide +kernel
theorem dX12_sign_104 : decode cX12_sign 104 = .ok (.iconst 1, 1) := by decide +kernel
theorem dX12_sign_105 : decode cX12_sign 105 = .ok (.ireturn, 1) := by decide +kernel
set_option maxHeartbeats 4000000 in
set_option maxRecDepth 100000 in
theorem S_X12_sign_236 {l : Launch} {D : va_G} {ids : List Nat} {ad : Nat → Nat} {ca : Nat → ClassId} {σ : HS} {x1 : Int32} {x2 : Int32} {x3 : Int32} (hid : ∀ i, i < 277 → i ∈ ids) (hG : GIm σ) (hp0 : (σ.1 236 10).toInt ≤ 401) : Ki l D ids ad ca yX12_sign cX12_sign 5 .int 1 25 [.ref (ad 236), .int x1, .int x2, .int x3] σ (fun r σ1 => (GIm σ1) ∧ (onm [239, 240, 241, 242, 1010] σ σ1) ∧ (1 ≤ r.toInt ∧ r.toInt ≤ 1) ∧ ((σ1.1 236 10).toInt = (σ.1 236 10).toInt + 1)) := by
  refine Ki.of (by decide) (Nat.le_of_ble_eq_true rfl) 1 (fun Γ C Rt => ?_)
  show AW ids ad ca Γ 0 [some (.ref (ad 236)), some (.int x1), some (.int x2), some (.int x3), none] [] σ
  have j95 : ∀ (σq95 : HS) (y95_4 : Int32), GIm σq95 → onm [239, 240, 241, 242, 1010] σ σq95 → 3 ≤ y95_4.toInt ∧ y95_4.toInt ≤ 15 → ((σq95.1 236 10).toInt = (σ.1 236 10).toInt) → AW ids ad ca Γ 95 [some (.ref (ad 236)), some (.int x1), none, none, some (.int y95_4)] [] σq95 := by
    intro σq95 y95_4 hGq95 hoq95 hx95_0 hx95_1
    refine a_aload_n C dX12_sign_95 (i := 0) rfl rfl ?_
    refine a_iload C dX12_sign_96 rfl ?_
    refine a_iload_n C dX12_sign_98 (i := 1) rfl rfl ?_
    refine s_iconst C dX12_sign_99 (0) (by decide) (fun z1 h2 => ?_)
    refine a_lconst C dX12_sign_100 (v := 0) rfl ?_
    have g6 := bF_236_10 hGq95
    refine a_callVv C (i := 236) kd_236 (hid 236 (by decide)) ⟨_, _, rfl⟩ (by decide) (S_X12_token_236 (x1 := y95_4) (x2 := x1) (x3 := z1) (x4 := 0) hid hGq95 (by omega) (by omega) (by omega)) mi_X12_token ml_RX12_176 rfl rfl (Nat.le_of_ble_eq_true rfl) (Nat.le_of_ble_eq_true rfl) (Nat.le_of_ble_eq_true rfl) dX12_sign_101 (fun σ4 q5 => ?_)
    obtain ⟨hG7, ho8, w10⟩ := q5
    refine s_iconst C dX12_sign_104 (1) (by decide) (fun z11 h12 => ?_)
    have g13 := bF_236_10 hG7
    exact a_iret Rt dX12_sign_105 rfl (⟨hG7, (onm.tr hoq95 (onm.mono ho8 (by decide))), (show 1 ≤ z11.toInt ∧ z11.toInt ≤ 1 by intros; omega), (show (σ4.1 236 10).toInt = (σ.1 236 10).toInt + 1 by intros; omega)⟩)
  have j85 : ∀ (σq85 : HS) (y85_4 : Int32), GIm σq85 → onm [239, 240, 241, 242, 1010] σ σq85 → 3 ≤ y85_4.toInt ∧ y85_4.toInt ≤ 15 → ((σq85.1 236 10).toInt = (σ.1 236 10).toInt) → AW ids ad ca Γ 85 [some (.ref (ad 236)), some (.int x1), some (.int x2), none, some (.int y85_4)] [] σq85 := by
    intro σq85 y85_4 hGq85 hoq85 hx85_0 hx85_1
    refine a_iload_n C dX12_sign_85 (i := 2) rfl rfl ?_
    refine s_bipush C dX12_sign_86 (60) (by decide) (fun z14 h15 => ?_)
    refine s_ic_ne C dX12_sign_88 (tgt := 95) rfl (fun c16 => ?_) (fun c16 => ?_)
    ·
      have g17 := bF_236_10 hGq85
      refine AW.sub (vs' := [some (.ref (ad 236)), some (.int x1), none, none, some (.int y85_4)]) (lsub_of (by simp [lsubB])) ?_
      exact j95 _ y85_4 hGq85 hoq85 (by omega) (show (σq85.1 236 10).toInt = (σ.1 236 10).toInt by omega)
    ·
      refine s_bipush C dX12_sign_91 (13) (by decide) (fun z18 h19 => ?_)
      refine a_istore C dX12_sign_93 (by decide) rfl (vs1 := [some (.ref (ad 236)), some (.int x1), some (.int x2), none, some (.int z18)]) rfl ?_
      have g20 := bF_236_10 hGq85
      refine AW.sub (vs' := [some (.ref (ad 236)), some (.int x1), none, none, some (.int z18)]) (lsub_of (by simp [lsubB])) ?_
      exact j95 _ z18 hGq85 hoq85 (by omega) (show (σq85.1 236 10).toInt = (σ.1 236 10).toInt by omega)
  have j75 : ∀ (σq75 : HS) (y75_4 : Int32), GIm σq75 → onm [239, 240, 241, 242, 1010] σ σq75 → 3 ≤ y75_4.toInt ∧ y75_4.toInt ≤ 10 → ((σq75.1 236 10).toInt = (σ.1 236 10).toInt) → AW ids ad ca Γ 75 [some (.ref (ad 236)), some (.int x1), some (.int x2), none, some (.int y75_4)] [] σq75 := by
    intro σq75 y75_4 hGq75 hoq75 hx75_0 hx75_1
    refine a_iload_n C dX12_sign_75 (i := 2) rfl rfl ?_
    refine s_bipush C dX12_sign_76 (47) (by decide) (fun z21 h22 => ?_)
    refine s_ic_ne C dX12_sign_78 (tgt := 85) rfl (fun c23 => ?_) (fun c23 => ?_)
    ·
      have g24 := bF_236_10 hGq75
      exact j85 _ y75_4 hGq75 hoq75 (by omega) (show (σq75.1 236 10).toInt = (σ.1 236 10).toInt by omega)
    ·
      refine s_bipush C dX12_sign_81 (15) (by decide) (fun z25 h26 => ?_)
      refine a_istore C dX12_sign_83 (by decide) rfl (vs1 := [some (.ref (ad 236)), some (.int x1), some (.int x2), none, some (.int z25)]) rfl ?_
      have g27 := bF_236_10 hGq75
      exact j85 _ z25 hGq75 hoq75 (by omega) (show (σq75.1 236 10).toInt = (σ.1 236 10).toInt by omega)
  have j65 : ∀ (σq65 : HS) (y65_4 : Int32), GIm σq65 → onm [239, 240, 241, 242, 1010] σ σq65 → 3 ≤ y65_4.toInt ∧ y65_4.toInt ≤ 9 → ((σq65.1 236 10).toInt = (σ.1 236 10).toInt) → AW ids ad ca Γ 65 [some (.ref (ad 236)), some (.int x1), some (.int x2), none, some (.int y65_4)] [] σq65 := by
    intro σq65 y65_4 hGq65 hoq65 hx65_0 hx65_1
    refine a_iload_n C dX12_sign_65 (i := 2) rfl rfl ?_
    refine s_bipush C dX12_sign_66 (42) (by decide) (fun z28 h29 => ?_)
    refine s_ic_ne C dX12_sign_68 (tgt := 75) rfl (fun c30 => ?_) (fun c30 => ?_)
    ·
      have g31 := bF_236_10 hGq65
      exact j75 _ y65_4 hGq65 hoq65 (by omega) (show (σq65.1 236 10).toInt = (σ.1 236 10).toInt by omega)
    ·
      refine s_bipush C dX12_sign_71 (10) (by decide) (fun z32 h33 => ?_)
      refine a_istore C dX12_sign_73 (by decide) rfl (vs1 := [some (.ref (ad 236)), some (.int x1), some (.int x2), none, some (.int z32)]) rfl ?_
      have g34 := bF_236_10 hGq65
      exact j75 _ z32 hGq65 hoq65 (by omega) (show (σq65.1 236 10).toInt = (σ.1 236 10).toInt by omega)
  have j55 : ∀ (σq55 : HS) (y55_4 : Int32), GIm σq55 → onm [239, 240, 241, 242, 1010] σ σq55 → 3 ≤ y55_4.toInt ∧ y55_4.toInt ≤ 8 → ((σq55.1 236 10).toInt = (σ.1 236 10).toInt) → AW ids ad ca Γ 55 [some (.ref (ad 236)), some (.int x1), some (.int x2), none, some (.int y55_4)] [] σq55 := by
    intro σq55 y55_4 hGq55 hoq55 hx55_0 hx55_1
    refine a_iload_n C dX12_sign_55 (i := 2) rfl rfl ?_
    refine s_bipush C dX12_sign_56 (45) (by decide) (fun z35 h36 => ?_)
    refine s_ic_ne C dX12_sign_58 (tgt := 65) rfl (fun c37 => ?_) (fun c37 => ?_)
    ·
      have g38 := bF_236_10 hGq55
      exact j65 _ y55_4 hGq55 hoq55 (by omega) (show (σq55.1 236 10).toInt = (σ.1 236 10).toInt by omega)
    ·
      refine s_bipush C dX12_sign_61 (9) (by decide) (fun z39 h40 => ?_)
      refine a_istore C dX12_sign_63 (by decide) rfl (vs1 := [some (.ref (ad 236)), some (.int x1), some (.int x2), none, some (.int z39)]) rfl ?_
      have g41 := bF_236_10 hGq55
      exact j65 _ z39 hGq55 hoq55 (by omega) (show (σq55.1 236 10).toInt = (σ.1 236 10).toInt by omega)
  have j43 : ∀ (σq43 : HS) (u43_0 : Int32), GIm σq43 → onm [239, 240, 241, 242, 1010] σ σq43 → 3 ≤ u43_0.toInt ∧ u43_0.toInt ≤ 7 → ((σq43.1 236 10).toInt = (σ.1 236 10).toInt) → AW ids ad ca Γ 43 [some (.ref (ad 236)), some (.int x1), some (.int x2), none, none] [.int u43_0] σq43 := by
    intro σq43 u43_0 hGq43 hoq43 hx43_0 hx43_1
    refine a_istore C dX12_sign_43 (by decide) rfl (vs1 := [some (.ref (ad 236)), some (.int x1), some (.int x2), none, some (.int u43_0)]) rfl ?_
    refine a_iload_n C dX12_sign_45 (i := 2) rfl rfl ?_
    refine s_bipush C dX12_sign_46 (43) (by decide) (fun z42 h43 => ?_)
    refine s_ic_ne C dX12_sign_48 (tgt := 55) rfl (fun c44 => ?_) (fun c44 => ?_)
    ·
      have g45 := bF_236_10 hGq43
      exact j55 _ u43_0 hGq43 hoq43 (by omega) (show (σq43.1 236 10).toInt = (σ.1 236 10).toInt by omega)
    ·
      refine s_bipush C dX12_sign_51 (8) (by decide) (fun z46 h47 => ?_)
      refine a_istore C dX12_sign_53 (by decide) rfl (vs1 := [some (.ref (ad 236)), some (.int x1), some (.int x2), none, some (.int z46)]) rfl ?_
      have g48 := bF_236_10 hGq43
      exact j55 _ z46 hGq43 hoq43 (by omega) (show (σq43.1 236 10).toInt = (σ.1 236 10).toInt by omega)
  refine a_iload_n C dX12_sign_0 (i := 2) rfl rfl ?_
  refine s_bipush C dX12_sign_1 (59) (by decide) (fun z49 h50 => ?_)
  refine s_ic_ne C dX12_sign_3 (tgt := 10) rfl (fun c51 => ?_) (fun c51 => ?_)
  ·
    refine a_iload_n C dX12_sign_10 (i := 2) rfl rfl ?_
    refine s_bipush C dX12_sign_11 (61) (by decide) (fun z52 h53 => ?_)
    refine s_ic_ne C dX12_sign_13 (tgt := 20) rfl (fun c54 => ?_) (fun c54 => ?_)
    ·
      refine a_iload_n C dX12_sign_20 (i := 2) rfl rfl ?_
      refine s_bipush C dX12_sign_21 (40) (by decide) (fun z55 h56 => ?_)
      refine s_ic_ne C dX12_sign_23 (tgt := 31) rfl (fun c57 => ?_) (fun c57 => ?_)
      ·
        refine a_iload_n C dX12_sign_31 (i := 2) rfl rfl ?_
        refine s_bipush C dX12_sign_32 (41) (by decide) (fun z58 h59 => ?_)
        refine s_ic_ne C dX12_sign_34 (tgt := 42) rfl (fun c60 => ?_) (fun c60 => ?_)
        ·
          refine s_iconst C dX12_sign_42 (3) (by decide) (fun z61 h62 => ?_)
          have g63 := bF_236_10 hG
          refine AW.sub (vs' := [some (.ref (ad 236)), some (.int x1), some (.int x2), none, none]) (lsub_of (by simp [lsubB])) ?_
          exact j43 _ z61 hG onm.rf (by omega) (show (σ.1 236 10).toInt = (σ.1 236 10).toInt by omega)
        ·
          refine s_bipush C dX12_sign_37 (7) (by decide) (fun z64 h65 => ?_)
          refine a_goto C dX12_sign_39 (tgt := 43) rfl ?_
          have g66 := bF_236_10 hG
          refine AW.sub (vs' := [some (.ref (ad 236)), some (.int x1), some (.int x2), none, none]) (lsub_of (by simp [lsubB])) ?_
          exact j43 _ z64 hG onm.rf (by omega) (show (σ.1 236 10).toInt = (σ.1 236 10).toInt by omega)
      ·
        refine s_bipush C dX12_sign_26 (6) (by decide) (fun z67 h68 => ?_)
        refine a_goto C dX12_sign_28 (tgt := 43) rfl ?_
        have g69 := bF_236_10 hG
        refine AW.sub (vs' := [some (.ref (ad 236)), some (.int x1), some (.int x2), none, none]) (lsub_of (by simp [lsubB])) ?_
        exact j43 _ z67 hG onm.rf (by omega) (show (σ.1 236 10).toInt = (σ.1 236 10).toInt by omega)
    ·
      refine s_iconst C dX12_sign_16 (5) (by decide) (fun z70 h71 => ?_)
      refine a_goto C dX12_sign_17 (tgt := 43) rfl ?_
      have g72 := bF_236_10 hG
      refine AW.sub (vs' := [some (.ref (ad 236)), some (.int x1), some (.int x2), none, none]) (lsub_of (by simp [lsubB])) ?_
      exact j43 _ z70 hG onm.rf (by omega) (show (σ.1 236 10).toInt = (σ.1 236 10).toInt by omega)
  ·
    refine s_iconst C dX12_sign_6 (4) (by decide) (fun z73 h74 => ?_)
    refine a_goto C dX12_sign_7 (tgt := 43) rfl ?_
    have g75 := bF_236_10 hG
    refine AW.sub (vs' := [some (.ref (ad 236)), some (.int x1), some (.int x2), none, none]) (lsub_of (by simp [lsubB])) ?_
    exact j43 _ z73 hG onm.rf (by omega) (show (σ.1 236 10).toInt = (σ.1 236 10).toInt by omega)
theorem dX12_cut_43 : decode cX12_cut 43 = .ok (.iload_n 2, 1) := by decide +kernel
theorem dX12_cut_44 : decode cX12_cut 44 = .ok (.bipush 9, 2) := by decide +kernel
theorem dX12_cut_46 : decode cX12_cut 46 = .ok (.if_icmp .eq 21, 3) := by decide +kernel
theorem dX12_cut_49 : decode cX12_cut 49 = .ok (.iload_n 2, 1) := by decide +kernel
theorem dX12_cut_50 : decode cX12_cut 50 = .ok (.bipush 10, 2) := by decide +kernel
theorem dX12_cut_52 : decode cX12_cut 52 = .ok (.if_icmp .eq 15, 3) := by decide +kernel
theorem dX12_cut_55 : decode cX12_cut 55 = .ok (.iload_n 2, 1) := by decide +kernel
theorem dX12_cut_56 : decode cX12_cut 56 = .ok (.bipush 13, 2) := by decide +kernel
theorem dX12_cut_58 : decode cX12_cut 58 = .ok (.if_icmp .eq 9, 3) := by decide +kernel
theorem dX12_cut_61 : decode cX12_cut 61 = .ok (.iload_n 2, 1) := by decide +kernel
theorem dX12_cut_62 : decode cX12_cut 62 = .ok (.bipush 32, 2) := by decide +kernel
theorem dX12_cut_64 : decode cX12_cut 64 = .ok (.if_icmp .ne 9, 3) := by decide +kernel
theorem dX12_cut_67 : decode cX12_cut 67 = .ok (.iinc 1 1, 3) := by decide +kernel
theorem dX12_cut_70 : decode cX12_cut 70 = .ok (.goto 221, 3) := by decide +kernel
theorem dX12_cut_73 : decode cX12_cut 73 = .ok (.iload_n 2, 1) := by decide +kernel
theorem dX12_cut_74 : decode cX12_cut 74 = .ok (.invokestatic 180, 3) := by decide +kernel
theorem dX12_cut_77 : decode cX12_cut 77 = .ok (.ifCond .eq 119, 3) := by decide +kernel
theorem dX12_cut_80 : decode cX12_cut 80 = .ok (.iconst 0, 1) := by decide +kernel
theorem dX12_cut_81 : decode cX12_cut 81 = .ok (.istore_n 3, 1) := by decide +kernel
theorem dX12_cut_82 : decode cX12_cut 82 = .ok (.lconst 0, 1) := by decide +kernel
theorem dX12_cut_83 : decode cX12_cut 83 = .ok (.lstore 4, 2) := by decide +kernel
theorem dX12_cut_85 : decode cX12_cut 85 = .ok (.aload_n 0, 1) := by decide +kernel
theorem dX12_cut_86 : decode cX12_cut 86 = .ok (.iload_n 1, 1) := by decide +kernel
theorem dX12_cut_87 : decode cX12_cut 87 = .ok (.iload_n 3, 1) := by decide +kernel
theorem dX12_cut_88 : decode cX12_cut 88 = .ok (.iadd, 1) := by decide +kernel
theorem dX12_cut_89 : decode cX12_cut 89 = .ok (.invokevirtual 172, 3) := by decide +kernel
theorem dX12_cut_92 : decode cX12_cut 92 = .ok (.invokestatic 180, 3) := by decide +kernel
theorem dX12_cut_95 : decode cX12_cut 95 = .ok (.ifCond .eq 29, 3) := by decide +kernel
theorem dX12_cut_98 : decode cX12_cut 98 = .ok (.iload_n 3, 1) := by decide +kernel
theorem dX12_cut_99 : decode cX12_cut 99 = .ok (.bipush 8, 2) := by decide +kernel
theorem dX12_cut_101 : decode cX12_cut 101 = .ok (.if_icmp .ge 17, 3) := by decide +kernel
theorem dX12_cut_104 : decode cX12_cut 104 = .ok (.lload 4, 2) := by decide +kernel
theorem dX12_cut_106 : decode cX12_cut 106 = .ok (.aload_n 0, 1) := by decide +kernel
theorem dX12_cut_107 : decode cX12_cut 107 = .ok (.iload_n 1, 1) := by decide +kernel
theorem dX12_cut_108 : decode cX12_cut 108 = .ok (.iload_n 3, 1) := by decide +kernel
theorem dX12_cut_109 : decode cX12_cut 109 = .ok (.iadd, 1) := by decide +kernel
theorem dX12_cut_110 : decode cX12_cut 110 = .ok (.invokevirtual 172, 3) := by decide +kernel
theorem dX12_cut_113 : decode cX12_cut 113 = .ok (.invokestatic 165, 3) := by decide +kernel
theorem dX12_cut_116 : decode cX12_cut 116 = .ok (.lstore 4, 2) := by decide +kernel
theorem dX12_cut_118 : decode cX12_cut 118 = .ok (.iinc 3 1, 3) := by decide +kernel
theorem dX12_cut_121 : decode cX12_cut 121 = .ok (.goto (-36), 3) := by decide +kernel
theorem dX12_cut_124 : decode cX12_cut 124 = .ok (.iload_n 3, 1) := by decide +kernel
theorem dX12_cut_125 : decode cX12_cut 125 = .ok (.bipush 8, 2) := by decide +kernel
theorem dX12_cut_127 : decode cX12_cut 127 = .ok (.if_icmp .le 7, 3) := by decide +kernel
theorem dX12_cut_130 : decode cX12_cut 130 = .ok (.iconst 3, 1) := by decide +kernel
theorem dX12_cut_131 : decode cX12_cut 131 = .ok (.goto 4, 3) := by decide +kernel
theorem dX12_cut_134 : decode cX12_cut 134 = .ok (.iconst 1, 1) := by decide +kernel
theorem dX12_cut_135 : decode cX12_cut 135 = .ok (.istore 6, 2) := by decide +kernel
theorem dX12_cut_137 : decode cX12_cut 137 = .ok (.iload_n 3, 1) := by decide +kernel
theorem dX12_cut_138 : decode cX12_cut 138 = .ok (.bipush 8, 2) := by decide +kernel
theorem dX12_cut_140 : decode cX12_cut 140 = .ok (.if_icmp .gt 39, 3) := by decide +kernel
theorem dX12_cut_143 : decode cX12_cut 143 = .ok (.iconst 0, 1) := by decide +kernel
theorem dX12_cut_144 : decode cX12_cut 144 = .ok (.istore 7, 2) := by decide +kernel
theorem dX12_cut_146 : decode cX12_cut 146 = .ok (.iload 7, 2) := by decide +kernel
theorem dX12_cut_148 : decode cX12_cut 148 = .ok (.bipush 20, 2) := by decide +kernel
theorem dX12_cut_150 : decode cX12_cut 150 = .ok (.if_icmp .ge 29, 3) := by decide +kernel
theorem dX12_cut_153 : decode cX12_cut 153 = .ok (.aload_n 0, 1) := by decide +kernel
theorem dX12_cut_154 : decode cX12_cut 154 = .ok (.getfield 34, 3) := by decide +kernel
theorem dX12_cut_157 : decode cX12_cut 157 = .ok (.iload 7, 2) := by decide +kernel
theorem dX12_cut_159 : decode cX12_cut 159 = .ok (.laload, 1) := by decide +kernel
theorem dX12_cut_160 : decode cX12_cut 160 = .ok (.lload 4, 2) := by decide +kernel
theorem dX12_cut_162 : decode cX12_cut 162 = .ok (.lcmp, 1) := by decide +kernel
theorem dX12_cut_163 : decode cX12_cut 163 = .ok (.ifCond .ne 10, 3) := by decide +kernel
theorem dX12_cut_166 : decode cX12_cut 166 = .ok (.bipush 20, 2) := by decide +kernel
theorem dX12_cut_168 : decode cX12_cut 168 = .ok (.iload 7, 2) := by decide +kernel
theorem dX12_cut_170 : decode cX12_cut 170 = .ok (.iadd, 1) := by decide +kernel
theorem dX12_cut_171 : decode cX12_cut 171 = .ok (.istore 6, 2) := by decide +kernel
theorem dX12_cut_173 : decode cX12_cut 173 = .ok (.iinc 7 1, 3) := by decide +kernel
theorem dX12_cut_176 : decode cX12_cut 176 = .ok (.goto (-30), 3) := by decide +kernel
theorem dX12_cut_179 : decode cX12_cut 179 = .ok (.aload_n 0, 1) := by decide +kernel
theorem dX12_cut_180 : decode cX12_cut 180 = .ok (.iload 6, 2) := by decide +kernel
theorem dX12_cut_182 : decode cX12_cut 182 = .ok (.iload_n 1, 1) := by decide +kernel
theorem dX12_cut_183 : decode cX12_cut 183 = .ok (.iconst 0, 1) := by decide +kernel
theorem dX12_cut_184 : decode cX12_cut 184 = .ok (.lload 4, 2) := by decide +kernel
theorem dX12_cut_186 : decode cX12_cut 186 = .ok (.invokevirtual 176, 3) := by decide +kernel
theorem dX12_cut_189 : decode cX12_cut 189 = .ok (.iload_n 1, 1) := by decide +kernel
theorem dX12_cut_190 : decode cX12_cut 190 = .ok (.iload_n 3, 1) := by decide +kernel
theorem dX12_cut_191 : decode cX12_cut 191 = .ok (.iadd, 1) := by decide +kernel
theorem dX12_cut_192 : decode cX12_cut 192 = .ok (.istore_n 1, 1) := by decide +kernel
theorem dX12_cut_193 : decode cX12_cut 193 = .ok (.goto 98, 3) := by decide +kernel
theorem dX12_cut_196 : decode cX12_cut 196 = .ok (.iload_n 2, 1) := by decide +kernel
theorem dX12_cut_197 : decode cX12_cut 197 = .ok (.invokestatic 184, 3) := by decide +kernel
theorem dX12_cut_200 : decode cX12_cut 200 = .ok (.ifCond .eq 75, 3) := by decide +kernel
theorem dX12_cut_203 : decode cX12_cut 203 = .ok (.iconst 0, 1) := by decide +kernel
theorem dX12_cut_204 : decode cX12_cut 204 = .ok (.istore_n 3, 1) := by decide +kernel
theorem dX12_cut_205 : decode cX12_cut 205 = .ok (.iconst 0, 1) := by decide +kernel
theorem dX12_cut_206 : decode cX12_cut 206 = .ok (.istore 4, 2) := by decide +kernel
theorem dX12_cut_208 : decode cX12_cut 208 = .ok (.aload_n 0, 1) := by decide +kernel
theorem dX12_cut_209 : decode cX12_cut 209 = .ok (.iload_n 1, 1) := by decide +kernel
theorem dX12_cut_210 : decode cX12_cut 210 = .ok (.iload_n 3, 1) := by decide +kernel
theorem dX12_cut_211 : decode cX12_cut 211 = .ok (.iadd, 1) := by decide +kernel
theorem dX12_cut_212 : decode cX12_cut 212 = .ok (.invokevirtual 172, 3) := by decide +kernel
theorem dX12_cut_215 : decode cX12_cut 215 = .ok (.invokestatic 184, 3) := by decide +kernel
theorem dX12_cut_218 : decode cX12_cut 218 = .ok (.ifCond .eq 32, 3) := by decide +kernel
theorem dX12_cut_221 : decode cX12_cut 221 = .ok (.iload_n 3, 1) := by decide +kernel
theorem dX12_cut_222 : decode cX12_cut 222 = .ok (.iconst 4, 1) := by decide +kernel
theorem dX12_cut_223 : decode cX12_cut 223 = .ok (.if_icmp .ge 21, 3) := by decide +kernel
theorem dX12_cut_226 : decode cX12_cut 226 = .ok (.bipush 10, 2) := by decide +kernel
theorem dX12_cut_228 : decode cX12_cut 228 = .ok (.iload 4, 2) := by decide +kernel
theorem dX12_cut_230 : decode cX12_cut 230 = .ok (.imul, 1) := by decide +kernel
theorem dX12_cut_231 : decode cX12_cut 231 = .ok (.aload_n 0, 1) := by decide +kernel
theorem dX12_cut_232 : decode cX12_cut 232 = .ok (.iload_n 1, 1) := by decide +kernel
theorem dX12_cut_233 : decode cX12_cut 233 = .ok (.iload_n 3, 1) := by decide +kernel
theorem dX12_cut_234 : decode cX12_cut 234 = .ok (.iadd, 1) := by decide +kernel
theorem dX12_cut_235 : decode cX12_cut 235 = .ok (.invokevirtual 172, 3) := by decide +kernel
theorem dX12_cut_238 : decode cX12_cut 238 = .ok (.iadd, 1) := by decide +kernel
theorem dX12_cut_239 : decode cX12_cut 239 = .ok (.bipush 48, 2) := by decide +kernel
theorem dX12_cut_241 : decode cX12_cut 241 = .ok (.isub, 1) := by decide +kernel
theorem dX12_cut_242 : decode cX12_cut 242 = .ok (.istore 4, 2) := by decide +kernel
theorem dX12_cut_244 : decode cX12_cut 244 = .ok (.iinc 3 1, 3) := by decide +kernel
theorem dX12_cut_247 : decode cX12_cut 247 = .ok (.goto (-39), 3) := by decide +kernel
theorem dX12_cut_250 : decode cX12_cut 250 = .ok (.aload_n 0, 1) := by decide +kernel
theorem dX12_cut_251 : decode cX12_cut 251 = .ok (.iload_n 3, 1) := by decide +kernel
theorem dX12_cut_252 : decode cX12_cut 252 = .ok (.iconst 4, 1) := by decide +kernel
theorem dX12_cut_253 : decode cX12_cut 253 = .ok (.if_icmp .le 7, 3) := by decide +kernel
theorem dX12_cut_256 : decode cX12_cut 256 = .ok (.iconst 3, 1) := by decide +kernel
theorem dX12_cut_257 : decode cX12_cut 257 = .ok (.goto 4, 3) := by decide +kernel
theorem dX12_cut_260 : decode cX12_cut 260 = .ok (.iconst 2, 1) := by decide +kernel
theorem dX12_cut_261 : decode cX12_cut 261 = .ok (.iload_n 1, 1) := by decide +kernel
theorem dX12_cut_262 : decode cX12_cut 262 = .ok (.iload 4, 2) := by decide +kernel
theorem dX12_cut_264 : decode cX12_cut 264 = .ok (.lconst 0, 1) := by decide +kernel
theorem dX12_cut_265 : decode cX12_cut 265 = .ok (.invokevirtual 176, 3) := by decide +kernel
theorem dX12_cut_268 : decode cX12_cut 268 = .ok (.iload_n 1, 1) := by decide +kernel
theorem dX12_cut_269 : decode cX12_cut 269 = .ok (.iload_n 3, 1) := by decide +kernel
theorem dX12_cut_270 : decode cX12_cut 270 = .ok (.iadd, 1) := by decide +kernel
theorem dX12_cut_271 : decode cX12_cut 271 = .ok (.istore_n 1, 1) := by decide +kernel
theorem dX12_cut_272 : decode cX12_cut 272 = .ok (.goto 19, 3) := by decide +kernel
theorem dX12_cut_275 : decode cX12_cut 275 = .ok (.iload_n 1, 1) := by decide +kernel
theorem dX12_cut_276 : decode cX12_cut 276 = .ok (.aload_n 0, 1) := by decide +kernel
theorem dX12_cut_277 : decode cX12_cut 277 = .ok (.iload_n 1, 1) := by decide +kernel
theorem dX12_cut_278 : decode cX12_cut 278 = .ok (.iload_n 2, 1) := by decide +kernel
theorem dX12_cut_279 : decode cX12_cut 279 = .ok (.aload_n 0, 1) := by decide +kernel
theorem dX12_cut_280 : decode cX12_cut 280 = .ok (.iload_n 1, 1) := by decide +kernel
theorem dX12_cut_281 : decode cX12_cut 281 = .ok (.iconst 1, 1) := by decide +kernel
theorem dX12_cut_282 : decode cX12_cut 282 = .ok (.iadd, 1) := by decide +kernel
theorem dX12_cut_283 : decode cX12_cut 283 = .ok (.invokevirtual 172, 3) := by decide +kernel
theorem dX12_cut_286 : decode cX12_cut 286 = .ok (.invokevirtual 187, 3) := by decide +kernel
theorem dX12_cut_289 : decode cX12_cut 289 = .ok (.iadd, 1) := by decide +kernel
theorem dX12_cut_290 : decode cX12_cut 290 = .ok (.istore_n 1, 1) := by decide +kernel
theorem dX12_cut_291 : decode cX12_cut 291 = .ok (.goto (-284), 3) := by decide +kernel
theorem dX12_cut_294 : decode cX12_cut 294 = .ok (.return_, 1) := by decide +kernel
set_option maxHeartbeats 4000000 in
set_option maxRecDepth 100000 in
theorem S_X12_cut_236 {l : Launch} {D : va_G} {ids : List Nat} {ad : Nat → Nat} {ca : Nat → ClassId} {σ : HS} (hid : ∀ i, i < 277 → i ∈ ids) (hG : GIm σ) : Kv l D ids ad ca yX12_cut cX12_cut 8 2 49 [.ref (ad 236)] σ (fun σ1 => (GIm σ1) ∧ (onm [239, 240, 241, 242, 1010] σ σ1)) := by
  refine Kv.of (by decide) (Nat.le_of_ble_eq_true rfl) 7 (fun Γ C Rt => ?_)
  show AW ids ad ca Γ 0 [some (.ref (ad 236)), none, none, none, none, none, none, none] [] σ
  have j7 : ∀ (d7 : Nat) (σq7 : HS) (y7_1 : Int32), 402 - (σq7.1 236 10).toInt + 2001 - y7_1.toInt < d7 → GIm σq7 → onm [239, 240, 241, 242, 1010] σ σq7 → 0 ≤ y7_1.toInt ∧ y7_1.toInt ≤ 2000 → ((σq7.1 236 10).toInt ≤ 402) → AW ids ad ca Γ 7 [some (.ref (ad 236)), some (.int y7_1), none, none, none, none, none, none] [] σq7 := by
    intro d7
    induction d7 with
    | zero =>
      intro σq7 y7_1 hd7 hGq7 hoq7 hx7_0 hx7_1
      exfalso
      omega
    | succ d7 ih7 =>
      intro σq7 y7_1 hd7 hGq7 hoq7 hx7_0 hx7_1
      have j291 : ∀ (σq291 : HS) (y291_1 : Int32), GIm σq291 → onm [239, 240, 241, 242, 1010] σ σq291 → 0 ≤ y291_1.toInt ∧ y291_1.toInt ≤ 2000 → (402 - (σq291.1 236 10).toInt + 2001 - y291_1.toInt < 402 - (σq7.1 236 10).toInt + 2001 - y7_1.toInt) → AW ids ad ca Γ 291 [some (.ref (ad 236)), some (.int y291_1), none, none, none, none, none, none] [] σq291 := by
        intro σq291 y291_1 hGq291 hoq291 hx291_0 hx291_1
        refine a_goto C dX12_cut_291 (tgt := 7) rfl ?_
        have g1 := bF_236_10 hGq291
        exact ih7 _ y291_1 (by omega) hGq291 hoq291 (by omega) (show (σq291.1 236 10).toInt ≤ 402 by omega)
      have j261 : ∀ (σq261 : HS) (y261_3 : Int32) (y261_4 : Int32) (u261_0 : Int32), GIm σq261 → onm [239, 240, 241, 242, 1010] σ σq261 → 0 ≤ y261_3.toInt ∧ y261_3.toInt ≤ 2000 → 0 ≤ y261_4.toInt ∧ y261_4.toInt ≤ 9999 → 2 ≤ u261_0.toInt ∧ u261_0.toInt ≤ 3 → 0 ≤ y7_1.toInt ∧ y7_1.toInt ≤ 1999 → ((σq261.1 236 10).toInt ≤ 400) → ((σq261.1 236 10).toInt = (σq7.1 236 10).toInt) → (y7_1.toInt ≤ 2000) → (y7_1.toInt + y261_3.toInt ≤ 2000) → AW ids ad ca Γ 261 [some (.ref (ad 236)), some (.int y7_1), none, some (.int y261_3), some (.int y261_4), none, none, none] [.int u261_0, .ref (ad 236)] σq261 := by
        intro σq261 y261_3 y261_4 u261_0 hGq261 hoq261 hx261_0 hx261_1 hx261_2 hx261_3 hx261_4 hx261_5 hx261_6 hx261_7
        refine a_iload_n C dX12_cut_261 (i := 1) rfl rfl ?_
        refine a_iload C dX12_cut_262 rfl ?_
        refine a_lconst C dX12_cut_264 (v := 0) rfl ?_
        have g5 := bF_236_10 hGq261
        refine a_callVv C (i := 236) kd_236 (hid 236 (by decide)) ⟨_, _, rfl⟩ (by decide) (S_X12_token_236 (x1 := u261_0) (x2 := y7_1) (x3 := y261_4) (x4 := 0) hid hGq261 (by omega) (by omega) (by omega)) mi_X12_token ml_RX12_176 rfl rfl (Nat.le_of_ble_eq_true rfl) (Nat.le_of_ble_eq_true rfl) (Nat.le_of_ble_eq_true rfl) dX12_cut_265 (fun σ3 q4 => ?_)
        obtain ⟨hG6, ho7, w9⟩ := q4
        refine a_iload_n C dX12_cut_268 (i := 1) rfl rfl ?_
        refine a_iload_n C dX12_cut_269 (i := 3) rfl rfl ?_
        refine s_iadd C dX12_cut_270 (by omega) (fun z10 h11 => ?_)
        refine a_istore_n C dX12_cut_271 (i := 1) rfl (by decide) rfl (vs1 := [some (.ref (ad 236)), some (.int z10), none, some (.int y261_3), some (.int y261_4), none, none, none]) rfl ?_
        refine a_goto C dX12_cut_272 (tgt := 291) rfl ?_
        have g12 := bF_236_10 hG6
        refine AW.sub (vs' := [some (.ref (ad 236)), some (.int z10), none, none, none, none, none, none]) (lsub_of (by simp [lsubB])) ?_
        exact j291 _ z10 hG6 (onm.tr hoq261 (onm.mono ho7 (by decide))) (by omega) (show 402 - (σ3.1 236 10).toInt + 2001 - z10.toInt < 402 - (σq7.1 236 10).toInt + 2001 - y7_1.toInt by omega)
      have j208 : ∀ (d208 : Nat) (σq208 : HS) (y208_3 : Int32) (y208_4 : Int32), 2001 - y208_3.toInt < d208 → GIm σq208 → onm [239, 240, 241, 242, 1010] σ σq208 → 0 ≤ y208_3.toInt ∧ y208_3.toInt ≤ 2000 → 0 ≤ y208_4.toInt ∧ y208_4.toInt ≤ 9999 → 0 ≤ y7_1.toInt ∧ y7_1.toInt ≤ 1999 → ((σq208.1 236 10).toInt ≤ 400) → ((σq208.1 236 10).toInt = (σq7.1 236 10).toInt) → (y7_1.toInt ≤ 2000) → (y7_1.toInt + y208_3.toInt ≤ 2000) → (y208_3.toInt ≤ 0 → y208_4.toInt ≤ 0) → (y208_3.toInt ≤ 1 → y208_4.toInt ≤ 9) → (y208_3.toInt ≤ 2 → y208_4.toInt ≤ 99) → (y208_3.toInt ≤ 3 → y208_4.toInt ≤ 999) → AW ids ad ca Γ 208 [some (.ref (ad 236)), some (.int y7_1), none, some (.int y208_3), some (.int y208_4), none, none, none] [] σq208 := by
        intro d208
        induction d208 with
        | zero =>
          intro σq208 y208_3 y208_4 hd208 hGq208 hoq208 hx208_0 hx208_1 hx208_2 hx208_3 hx208_4 hx208_5 hx208_6 hx208_7 hx208_8 hx208_9 hx208_10
          exfalso
          omega
        | succ d208 ih208 =>
          intro σq208 y208_3 y208_4 hd208 hGq208 hoq208 hx208_0 hx208_1 hx208_2 hx208_3 hx208_4 hx208_5 hx208_6 hx208_7 hx208_8 hx208_9 hx208_10
          have j244 : ∀ (σq244 : HS) (y244_4 : Int32), GIm σq244 → onm [239, 240, 241, 242, 1010] σ σq244 → 0 ≤ y244_4.toInt ∧ y244_4.toInt ≤ 9999 → ((σq244.1 236 10).toInt ≤ 400) → ((σq244.1 236 10).toInt = (σq7.1 236 10).toInt) → (y7_1.toInt ≤ 2000) → (y7_1.toInt + y208_3.toInt + 1 ≤ 2000) → (y208_3.toInt + 1 ≤ 1 → y244_4.toInt ≤ 9) → (y208_3.toInt + 1 ≤ 2 → y244_4.toInt ≤ 99) → (y208_3.toInt + 1 ≤ 3 → y244_4.toInt ≤ 999) → (y244_4.toInt ≤ 9999) → AW ids ad ca Γ 244 [some (.ref (ad 236)), some (.int y7_1), none, some (.int y208_3), some (.int y244_4), none, none, none] [] σq244 := by
            intro σq244 y244_4 hGq244 hoq244 hx244_0 hx244_1 hx244_2 hx244_3 hx244_4 hx244_5 hx244_6 hx244_7 hx244_8
            refine s_iinc C dX12_cut_244 rfl (1) (by decide) (by omega) (by decide) rfl (fun z13 h14 => ?_)
            show AW ids ad ca Γ 247 [some (.ref (ad 236)), some (.int y7_1), none, some (.int z13), some (.int y244_4), none, none, none] _ _
            refine a_goto C dX12_cut_247 (tgt := 208) rfl ?_
            have g15 := bF_236_10 hGq244
            exact ih208 _ z13 y244_4 (by omega) hGq244 hoq244 (by omega) (by omega) (by omega) (show (σq244.1 236 10).toInt ≤ 400 by omega) (show (σq244.1 236 10).toInt = (σq7.1 236 10).toInt by omega) (show y7_1.toInt ≤ 2000 by omega) (show y7_1.toInt + z13.toInt ≤ 2000 by omega) (show z13.toInt ≤ 0 → y244_4.toInt ≤ 0 by omega) (show z13.toInt ≤ 1 → y244_4.toInt ≤ 9 by omega) (show z13.toInt ≤ 2 → y244_4.toInt ≤ 99 by omega) (show z13.toInt ≤ 3 → y244_4.toInt ≤ 999 by omega)
          refine a_aload_n C dX12_cut_208 (i := 0) rfl rfl ?_
          refine a_iload_n C dX12_cut_209 (i := 1) rfl rfl ?_
          refine a_iload_n C dX12_cut_210 (i := 3) rfl rfl ?_
          refine s_iadd C dX12_cut_211 (by omega) (fun z16 h17 => ?_)
          have g21 := bF_236_4 hGq208
          have g22 : (σq208.1 236 4).toInt = (σ.1 236 4).toInt := congrArg Int32.toInt (hoq208.1 236 4 (by decide))
          refine a_callVi C (i := 236) kd_236 (hid 236 (by decide)) ⟨_, _, rfl⟩ (by decide) (S_X12_byteAt_236 (x1 := z16) hid hGq208 (by omega)) mi_X12_byteAt ml_RX12_172 rfl rfl (Nat.le_of_ble_eq_true rfl) (Nat.le_of_ble_eq_true rfl) (Nat.le_of_ble_eq_true rfl) dX12_cut_212 (fun z18 σ19 q20 => ?_)
          obtain ⟨w23, w24, w25, w26⟩ := q20
          rw [w23]
          refine a_callSi C (S_X12_isDigit (x1 := z18) hid hGq208) ms_X12_isDigit ml_RX12_184 rfl rfl (Nat.le_of_ble_eq_true rfl) (Nat.le_of_ble_eq_true rfl) (Nat.le_of_ble_eq_true rfl) dX12_cut_215 (fun z27 σ28 q29 => ?_)
          obtain ⟨w30, w31, w32⟩ := q29
          rw [w30]
          refine s_if_eq C dX12_cut_218 (tgt := 250) rfl (fun c33 => ?_) (fun c33 => ?_)
          ·
            refine a_aload_n C dX12_cut_250 (i := 0) rfl rfl ?_
            refine a_iload_n C dX12_cut_251 (i := 3) rfl rfl ?_
            refine s_iconst C dX12_cut_252 (4) (by decide) (fun z34 h35 => ?_)
            refine s_ic_le C dX12_cut_253 (tgt := 260) rfl (fun c36 => ?_) (fun c36 => ?_)
            ·
              refine s_iconst C dX12_cut_260 (2) (by decide) (fun z37 h38 => ?_)
              have g39 := bF_236_10 hGq208
              exact j261 _ y208_3 y208_4 z37 hGq208 hoq208 (by omega) (by omega) (by omega) (by omega) (show (σq208.1 236 10).toInt ≤ 400 by omega) (show (σq208.1 236 10).toInt = (σq7.1 236 10).toInt by omega) (show y7_1.toInt ≤ 2000 by omega) (show y7_1.toInt + y208_3.toInt ≤ 2000 by omega)
            ·
              refine s_iconst C dX12_cut_256 (3) (by decide) (fun z40 h41 => ?_)
              refine a_goto C dX12_cut_257 (tgt := 261) rfl ?_
              have g42 := bF_236_10 hGq208
              exact j261 _ y208_3 y208_4 z40 hGq208 hoq208 (by omega) (by omega) (by omega) (by omega) (show (σq208.1 236 10).toInt ≤ 400 by omega) (show (σq208.1 236 10).toInt = (σq7.1 236 10).toInt by omega) (show y7_1.toInt ≤ 2000 by omega) (show y7_1.toInt + y208_3.toInt ≤ 2000 by omega)
          ·
            refine a_iload_n C dX12_cut_221 (i := 3) rfl rfl ?_
            refine s_iconst C dX12_cut_222 (4) (by decide) (fun z43 h44 => ?_)
            refine s_ic_ge C dX12_cut_223 (tgt := 244) rfl (fun c45 => ?_) (fun c45 => ?_)
            ·
              have g46 := bF_236_10 hGq208
              exact j244 _ y208_4 hGq208 hoq208 (by omega) (show (σq208.1 236 10).toInt ≤ 400 by omega) (show (σq208.1 236 10).toInt = (σq7.1 236 10).toInt by omega) (show y7_1.toInt ≤ 2000 by omega) (show y7_1.toInt + y208_3.toInt + 1 ≤ 2000 by omega) (show y208_3.toInt + 1 ≤ 1 → y208_4.toInt ≤ 9 by omega) (show y208_3.toInt + 1 ≤ 2 → y208_4.toInt ≤ 99 by omega) (show y208_3.toInt + 1 ≤ 3 → y208_4.toInt ≤ 999 by omega) (show y208_4.toInt ≤ 9999 by omega)
            ·
              refine s_bipush C dX12_cut_226 (10) (by decide) (fun z47 h48 => ?_)
              refine a_iload C dX12_cut_228 rfl ?_
              refine s_imuld C dX12_cut_230 (10) (by omega) (by omega) (fun z49 h50 => ?_)
              refine a_aload_n C dX12_cut_231 (i := 0) rfl rfl ?_
              refine a_iload_n C dX12_cut_232 (i := 1) rfl rfl ?_
              refine a_iload_n C dX12_cut_233 (i := 3) rfl rfl ?_
              refine s_iadd C dX12_cut_234 (by omega) (fun z51 h52 => ?_)
              refine a_callVi C (i := 236) kd_236 (hid 236 (by decide)) ⟨_, _, rfl⟩ (by decide) (S_X12_byteAt_236 (x1 := z51) hid hGq208 (by omega)) mi_X12_byteAt ml_RX12_172 rfl rfl (Nat.le_of_ble_eq_true rfl) (Nat.le_of_ble_eq_true rfl) (Nat.le_of_ble_eq_true rfl) dX12_cut_235 (fun z53 σ54 q55 => ?_)
              obtain ⟨w56, w57, w58, w59⟩ := q55
              rw [w56]
              have gby : z53.toInt = z18.toInt := by rw [w59, w26, show z51 = z16 from Int32.toInt_inj.mp (by omega)]
              refine s_iadd C dX12_cut_238 (by omega) (fun z60 h61 => ?_)
              refine s_bipush C dX12_cut_239 (48) (by decide) (fun z62 h63 => ?_)
              refine s_isub C dX12_cut_241 (by omega) (fun z64 h65 => ?_)
              refine a_istore C dX12_cut_242 (by decide) rfl (vs1 := [some (.ref (ad 236)), some (.int y7_1), none, some (.int y208_3), some (.int z64), none, none, none]) rfl ?_
              have g66 := bF_236_10 hGq208
              exact j244 _ z64 hGq208 hoq208 (by omega) (show (σq208.1 236 10).toInt ≤ 400 by omega) (show (σq208.1 236 10).toInt = (σq7.1 236 10).toInt by omega) (show y7_1.toInt ≤ 2000 by omega) (show y7_1.toInt + y208_3.toInt + 1 ≤ 2000 by omega) (show y208_3.toInt + 1 ≤ 1 → z64.toInt ≤ 9 by omega) (show y208_3.toInt + 1 ≤ 2 → z64.toInt ≤ 99 by omega) (show y208_3.toInt + 1 ≤ 3 → z64.toInt ≤ 999 by omega) (show z64.toInt ≤ 9999 by omega)
      have j179 : ∀ (σq179 : HS) (y179_3 : Int32) (y179_4 : Int64) (y179_6 : Int32), GIm σq179 → onm [239, 240, 241, 242, 1010] σ σq179 → 0 ≤ y179_3.toInt ∧ y179_3.toInt ≤ 2000 → 1 ≤ y179_6.toInt ∧ y179_6.toInt ≤ 39 → 0 ≤ y7_1.toInt ∧ y7_1.toInt ≤ 1999 → ((σq179.1 236 10).toInt ≤ 400) → ((σq179.1 236 10).toInt = (σq7.1 236 10).toInt) → (y7_1.toInt ≤ 2000) → (y7_1.toInt + y179_3.toInt ≤ 2000) → AW ids ad ca Γ 179 [some (.ref (ad 236)), some (.int y7_1), none, some (.int y179_3), some (.long y179_4), none, some (.int y179_6), none] [] σq179 := by
        intro σq179 y179_3 y179_4 y179_6 hGq179 hoq179 hx179_0 hx179_1 hx179_2 hx179_3 hx179_4 hx179_5 hx179_6
        refine a_aload_n C dX12_cut_179 (i := 0) rfl rfl ?_
        refine a_iload C dX12_cut_180 rfl ?_
        refine a_iload_n C dX12_cut_182 (i := 1) rfl rfl ?_
        refine s_iconst C dX12_cut_183 (0) (by decide) (fun z67 h68 => ?_)
        refine a_lload C dX12_cut_184 rfl ?_
        have g72 := bF_236_10 hGq179
        refine a_callVv C (i := 236) kd_236 (hid 236 (by decide)) ⟨_, _, rfl⟩ (by decide) (S_X12_token_236 (x1 := y179_6) (x2 := y7_1) (x3 := z67) (x4 := y179_4) hid hGq179 (by omega) (by omega) (by omega)) mi_X12_token ml_RX12_176 rfl rfl (Nat.le_of_ble_eq_true rfl) (Nat.le_of_ble_eq_true rfl) (Nat.le_of_ble_eq_true rfl) dX12_cut_186 (fun σ70 q71 => ?_)
        obtain ⟨hG73, ho74, w76⟩ := q71
        refine a_iload_n C dX12_cut_189 (i := 1) rfl rfl ?_
        refine a_iload_n C dX12_cut_190 (i := 3) rfl rfl ?_
        refine s_iadd C dX12_cut_191 (by omega) (fun z77 h78 => ?_)
        refine a_istore_n C dX12_cut_192 (i := 1) rfl (by decide) rfl (vs1 := [some (.ref (ad 236)), some (.int z77), none, some (.int y179_3), some (.long y179_4), none, some (.int y179_6), none]) rfl ?_
        refine a_goto C dX12_cut_193 (tgt := 291) rfl ?_
        have g79 := bF_236_10 hG73
        refine AW.sub (vs' := [some (.ref (ad 236)), some (.int z77), none, none, none, none, none, none]) (lsub_of (by simp [lsubB])) ?_
        exact j291 _ z77 hG73 (onm.tr hoq179 (onm.mono ho74 (by decide))) (by omega) (show 402 - (σ70.1 236 10).toInt + 2001 - z77.toInt < 402 - (σq7.1 236 10).toInt + 2001 - y7_1.toInt by omega)
      have j146 : ∀ (d146 : Nat) (σq146 : HS) (y146_3 : Int32) (y146_4 : Int64) (y146_6 : Int32) (y146_7 : Int32), 20 - y146_7.toInt < d146 → GIm σq146 → onm [239, 240, 241, 242, 1010] σ σq146 → 0 ≤ y146_3.toInt ∧ y146_3.toInt ≤ 8 → 1 ≤ y146_6.toInt ∧ y146_6.toInt ≤ 39 → 0 ≤ y146_7.toInt ∧ y146_7.toInt ≤ 20 → 0 ≤ y7_1.toInt ∧ y7_1.toInt ≤ 1999 → ((σq146.1 236 10).toInt ≤ 400) → ((σq146.1 236 10).toInt = (σq7.1 236 10).toInt) → (y7_1.toInt ≤ 2000) → (y7_1.toInt + y146_3.toInt ≤ 2000) → AW ids ad ca Γ 146 [some (.ref (ad 236)), some (.int y7_1), none, some (.int y146_3), some (.long y146_4), none, some (.int y146_6), some (.int y146_7)] [] σq146 := by
        intro d146
        induction d146 with
        | zero =>
          intro σq146 y146_3 y146_4 y146_6 y146_7 hd146 hGq146 hoq146 hx146_0 hx146_1 hx146_2 hx146_3 hx146_4 hx146_5 hx146_6 hx146_7
          exfalso
          omega
        | succ d146 ih146 =>
          intro σq146 y146_3 y146_4 y146_6 y146_7 hd146 hGq146 hoq146 hx146_0 hx146_1 hx146_2 hx146_3 hx146_4 hx146_5 hx146_6 hx146_7
          have j173 : ∀ (σq173 : HS) (y173_6 : Int32), GIm σq173 → onm [239, 240, 241, 242, 1010] σ σq173 → 1 ≤ y173_6.toInt ∧ y173_6.toInt ≤ 39 → 0 ≤ y146_7.toInt ∧ y146_7.toInt ≤ 19 → ((σq173.1 236 10).toInt ≤ 400) → ((σq173.1 236 10).toInt = (σq7.1 236 10).toInt) → (y7_1.toInt ≤ 2000) → AW ids ad ca Γ 173 [some (.ref (ad 236)), some (.int y7_1), none, some (.int y146_3), some (.long y146_4), none, some (.int y173_6), some (.int y146_7)] [] σq173 := by
            intro σq173 y173_6 hGq173 hoq173 hx173_0 hx173_1 hx173_2 hx173_3 hx173_4
            refine s_iinc C dX12_cut_173 rfl (1) (by decide) (by omega) (by decide) rfl (fun z80 h81 => ?_)
            show AW ids ad ca Γ 176 [some (.ref (ad 236)), some (.int y7_1), none, some (.int y146_3), some (.long y146_4), none, some (.int y173_6), some (.int z80)] _ _
            refine a_goto C dX12_cut_176 (tgt := 146) rfl ?_
            have g82 := bF_236_10 hGq173
            exact ih146 _ y146_3 y146_4 y173_6 z80 (by omega) hGq173 hoq173 (by omega) (by omega) (by omega) (by omega) (show (σq173.1 236 10).toInt ≤ 400 by omega) (show (σq173.1 236 10).toInt = (σq7.1 236 10).toInt by omega) (show y7_1.toInt ≤ 2000 by omega) (show y7_1.toInt + y146_3.toInt ≤ 2000 by omega)
          refine a_iload C dX12_cut_146 rfl ?_
          refine s_bipush C dX12_cut_148 (20) (by decide) (fun z83 h84 => ?_)
          refine s_ic_ge C dX12_cut_150 (tgt := 179) rfl (fun c85 => ?_) (fun c85 => ?_)
          ·
            have g86 := bF_236_10 hGq146
            refine AW.sub (vs' := [some (.ref (ad 236)), some (.int y7_1), none, some (.int y146_3), some (.long y146_4), none, some (.int y146_6), none]) (lsub_of (by simp [lsubB])) ?_
            exact j179 _ y146_3 y146_4 y146_6 hGq146 hoq146 (by omega) (by omega) (by omega) (show (σq146.1 236 10).toInt ≤ 400 by omega) (show (σq146.1 236 10).toInt = (σq7.1 236 10).toInt by omega) (show y7_1.toInt ≤ 2000 by omega) (show y7_1.toInt + y146_3.toInt ≤ 2000 by omega)
          ·
            refine a_aload_n C dX12_cut_153 (i := 0) rfl rfl ?_
            refine a_get C fl_RX12_34 (i := 236) kd_236 (hid 236 (by decide)) (v := .ref (ad 243)) rfl dX12_cut_154 ?_
            refine a_iload C dX12_cut_157 rfl ?_
            refine s_lald C (i := 243) kd_243 (hid 243 (by decide)) al_243 (by omega) (by omega) dX12_cut_159 (fun n87 h88 => ?_)
            refine a_lload C dX12_cut_160 rfl ?_
            refine s_lcmpU C dX12_cut_162 (fun z89 => ?_)
            refine s_if_ne C dX12_cut_163 (tgt := 173) rfl (fun c91 => ?_) (fun c91 => ?_)
            ·
              have g92 := bF_236_10 hGq146
              exact j173 _ y146_6 hGq146 hoq146 (by omega) (by omega) (show (σq146.1 236 10).toInt ≤ 400 by omega) (show (σq146.1 236 10).toInt = (σq7.1 236 10).toInt by omega) (show y7_1.toInt ≤ 2000 by omega)
            ·
              refine s_bipush C dX12_cut_166 (20) (by decide) (fun z93 h94 => ?_)
              refine a_iload C dX12_cut_168 rfl ?_
              refine s_iadd C dX12_cut_170 (by omega) (fun z95 h96 => ?_)
              refine a_istore C dX12_cut_171 (by decide) rfl (vs1 := [some (.ref (ad 236)), some (.int y7_1), none, some (.int y146_3), some (.long y146_4), none, some (.int z95), some (.int y146_7)]) rfl ?_
              have g97 := bF_236_10 hGq146
              exact j173 _ z95 hGq146 hoq146 (by omega) (by omega) (show (σq146.1 236 10).toInt ≤ 400 by omega) (show (σq146.1 236 10).toInt = (σq7.1 236 10).toInt by omega) (show y7_1.toInt ≤ 2000 by omega)
      have j135 : ∀ (σq135 : HS) (y135_3 : Int32) (y135_4 : Int64) (u135_0 : Int32), GIm σq135 → onm [239, 240, 241, 242, 1010] σ σq135 → 0 ≤ y135_3.toInt ∧ y135_3.toInt ≤ 2000 → 1 ≤ u135_0.toInt ∧ u135_0.toInt ≤ 3 → 0 ≤ y7_1.toInt ∧ y7_1.toInt ≤ 1999 → ((σq135.1 236 10).toInt ≤ 400) → ((σq135.1 236 10).toInt = (σq7.1 236 10).toInt) → (y7_1.toInt ≤ 2000) → (y7_1.toInt + y135_3.toInt ≤ 2000) → AW ids ad ca Γ 135 [some (.ref (ad 236)), some (.int y7_1), none, some (.int y135_3), some (.long y135_4), none, none, none] [.int u135_0] σq135 := by
        intro σq135 y135_3 y135_4 u135_0 hGq135 hoq135 hx135_0 hx135_1 hx135_2 hx135_3 hx135_4 hx135_5 hx135_6
        refine a_istore C dX12_cut_135 (by decide) rfl (vs1 := [some (.ref (ad 236)), some (.int y7_1), none, some (.int y135_3), some (.long y135_4), none, some (.int u135_0), none]) rfl ?_
        refine a_iload_n C dX12_cut_137 (i := 3) rfl rfl ?_
        refine s_bipush C dX12_cut_138 (8) (by decide) (fun z98 h99 => ?_)
        refine s_ic_gt C dX12_cut_140 (tgt := 179) rfl (fun c100 => ?_) (fun c100 => ?_)
        ·
          have g101 := bF_236_10 hGq135
          exact j179 _ y135_3 y135_4 u135_0 hGq135 hoq135 (by omega) (by omega) (by omega) (show (σq135.1 236 10).toInt ≤ 400 by omega) (show (σq135.1 236 10).toInt = (σq7.1 236 10).toInt by omega) (show y7_1.toInt ≤ 2000 by omega) (show y7_1.toInt + y135_3.toInt ≤ 2000 by omega)
        ·
          refine s_iconst C dX12_cut_143 (0) (by decide) (fun z102 h103 => ?_)
          refine a_istore C dX12_cut_144 (by decide) rfl (vs1 := [some (.ref (ad 236)), some (.int y7_1), none, some (.int y135_3), some (.long y135_4), none, some (.int u135_0), some (.int z102)]) rfl ?_
          have g104 := bF_236_10 hGq135
          exact j146 100000 _ y135_3 y135_4 u135_0 z102 (by omega) hGq135 hoq135 (by omega) (by omega) (by omega) (by omega) (show (σq135.1 236 10).toInt ≤ 400 by omega) (show (σq135.1 236 10).toInt = (σq7.1 236 10).toInt by omega) (show y7_1.toInt ≤ 2000 by omega) (show y7_1.toInt + y135_3.toInt ≤ 2000 by omega)
      have j85 : ∀ (d85 : Nat) (σq85 : HS) (y85_3 : Int32) (y85_4 : Int64), 2001 - y85_3.toInt < d85 → GIm σq85 → onm [239, 240, 241, 242, 1010] σ σq85 → 0 ≤ y85_3.toInt ∧ y85_3.toInt ≤ 2000 → 0 ≤ y7_1.toInt ∧ y7_1.toInt ≤ 1999 → ((σq85.1 236 10).toInt ≤ 400) → ((σq85.1 236 10).toInt = (σq7.1 236 10).toInt) → (y7_1.toInt ≤ 2000) → (y7_1.toInt + y85_3.toInt ≤ 2000) → AW ids ad ca Γ 85 [some (.ref (ad 236)), some (.int y7_1), none, some (.int y85_3), some (.long y85_4), none, none, none] [] σq85 := by
        intro d85
        induction d85 with
        | zero =>
          intro σq85 y85_3 y85_4 hd85 hGq85 hoq85 hx85_0 hx85_1 hx85_2 hx85_3 hx85_4 hx85_5
          exfalso
          omega
        | succ d85 ih85 =>
          intro σq85 y85_3 y85_4 hd85 hGq85 hoq85 hx85_0 hx85_1 hx85_2 hx85_3 hx85_4 hx85_5
          have j118 : ∀ (σq118 : HS) (y118_4 : Int64), GIm σq118 → onm [239, 240, 241, 242, 1010] σ σq118 → ((σq118.1 236 10).toInt ≤ 400) → ((σq118.1 236 10).toInt = (σq7.1 236 10).toInt) → (y7_1.toInt ≤ 2000) → (y7_1.toInt + y85_3.toInt + 1 ≤ 2000) → AW ids ad ca Γ 118 [some (.ref (ad 236)), some (.int y7_1), none, some (.int y85_3), some (.long y118_4), none, none, none] [] σq118 := by
            intro σq118 y118_4 hGq118 hoq118 hx118_0 hx118_1 hx118_2 hx118_3
            refine s_iinc C dX12_cut_118 rfl (1) (by decide) (by omega) (by decide) rfl (fun z105 h106 => ?_)
            show AW ids ad ca Γ 121 [some (.ref (ad 236)), some (.int y7_1), none, some (.int z105), some (.long y118_4), none, none, none] _ _
            refine a_goto C dX12_cut_121 (tgt := 85) rfl ?_
            have g107 := bF_236_10 hGq118
            exact ih85 _ z105 y118_4 (by omega) hGq118 hoq118 (by omega) (by omega) (show (σq118.1 236 10).toInt ≤ 400 by omega) (show (σq118.1 236 10).toInt = (σq7.1 236 10).toInt by omega) (show y7_1.toInt ≤ 2000 by omega) (show y7_1.toInt + z105.toInt ≤ 2000 by omega)
          refine a_aload_n C dX12_cut_85 (i := 0) rfl rfl ?_
          refine a_iload_n C dX12_cut_86 (i := 1) rfl rfl ?_
          refine a_iload_n C dX12_cut_87 (i := 3) rfl rfl ?_
          refine s_iadd C dX12_cut_88 (by omega) (fun z108 h109 => ?_)
          have g113 := bF_236_4 hGq85
          have g114 : (σq85.1 236 4).toInt = (σ.1 236 4).toInt := congrArg Int32.toInt (hoq85.1 236 4 (by decide))
          refine a_callVi C (i := 236) kd_236 (hid 236 (by decide)) ⟨_, _, rfl⟩ (by decide) (S_X12_byteAt_236 (x1 := z108) hid hGq85 (by omega)) mi_X12_byteAt ml_RX12_172 rfl rfl (Nat.le_of_ble_eq_true rfl) (Nat.le_of_ble_eq_true rfl) (Nat.le_of_ble_eq_true rfl) dX12_cut_89 (fun z110 σ111 q112 => ?_)
          obtain ⟨w115, w116, w117, w118⟩ := q112
          rw [w115]
          refine a_callSi C (S_X12_isLetter (x1 := z110) hid hGq85) ms_X12_isLetter ml_RX12_180 rfl rfl (Nat.le_of_ble_eq_true rfl) (Nat.le_of_ble_eq_true rfl) (Nat.le_of_ble_eq_true rfl) dX12_cut_92 (fun z119 σ120 q121 => ?_)
          obtain ⟨w122, w123, w124⟩ := q121
          rw [w122]
          refine s_if_eq C dX12_cut_95 (tgt := 124) rfl (fun c125 => ?_) (fun c125 => ?_)
          ·
            refine a_iload_n C dX12_cut_124 (i := 3) rfl rfl ?_
            refine s_bipush C dX12_cut_125 (8) (by decide) (fun z126 h127 => ?_)
            refine s_ic_le C dX12_cut_127 (tgt := 134) rfl (fun c128 => ?_) (fun c128 => ?_)
            ·
              refine s_iconst C dX12_cut_134 (1) (by decide) (fun z129 h130 => ?_)
              have g131 := bF_236_10 hGq85
              exact j135 _ y85_3 y85_4 z129 hGq85 hoq85 (by omega) (by omega) (by omega) (show (σq85.1 236 10).toInt ≤ 400 by omega) (show (σq85.1 236 10).toInt = (σq7.1 236 10).toInt by omega) (show y7_1.toInt ≤ 2000 by omega) (show y7_1.toInt + y85_3.toInt ≤ 2000 by omega)
            ·
              refine s_iconst C dX12_cut_130 (3) (by decide) (fun z132 h133 => ?_)
              refine a_goto C dX12_cut_131 (tgt := 135) rfl ?_
              have g134 := bF_236_10 hGq85
              exact j135 _ y85_3 y85_4 z132 hGq85 hoq85 (by omega) (by omega) (by omega) (show (σq85.1 236 10).toInt ≤ 400 by omega) (show (σq85.1 236 10).toInt = (σq7.1 236 10).toInt by omega) (show y7_1.toInt ≤ 2000 by omega) (show y7_1.toInt + y85_3.toInt ≤ 2000 by omega)
          ·
            refine a_iload_n C dX12_cut_98 (i := 3) rfl rfl ?_
            refine s_bipush C dX12_cut_99 (8) (by decide) (fun z135 h136 => ?_)
            refine s_ic_ge C dX12_cut_101 (tgt := 118) rfl (fun c137 => ?_) (fun c137 => ?_)
            ·
              have g138 := bF_236_10 hGq85
              exact j118 _ y85_4 hGq85 hoq85 (show (σq85.1 236 10).toInt ≤ 400 by omega) (show (σq85.1 236 10).toInt = (σq7.1 236 10).toInt by omega) (show y7_1.toInt ≤ 2000 by omega) (show y7_1.toInt + y85_3.toInt + 1 ≤ 2000 by omega)
            ·
              refine a_lload C dX12_cut_104 rfl ?_
              refine a_aload_n C dX12_cut_106 (i := 0) rfl rfl ?_
              refine a_iload_n C dX12_cut_107 (i := 1) rfl rfl ?_
              refine a_iload_n C dX12_cut_108 (i := 3) rfl rfl ?_
              refine s_iadd C dX12_cut_109 (by omega) (fun z139 h140 => ?_)
              refine a_callVi C (i := 236) kd_236 (hid 236 (by decide)) ⟨_, _, rfl⟩ (by decide) (S_X12_byteAt_236 (x1 := z139) hid hGq85 (by omega)) mi_X12_byteAt ml_RX12_172 rfl rfl (Nat.le_of_ble_eq_true rfl) (Nat.le_of_ble_eq_true rfl) (Nat.le_of_ble_eq_true rfl) dX12_cut_110 (fun z141 σ142 q143 => ?_)
              obtain ⟨w144, w145, w146, w147⟩ := q143
              rw [w144]
              refine a_callSl C (S_X12_appends (x1 := y85_4) (x2 := z141) hid hGq85) ms_X12_appends ml_RX12_165 rfl rfl (Nat.le_of_ble_eq_true rfl) (Nat.le_of_ble_eq_true rfl) (Nat.le_of_ble_eq_true rfl) dX12_cut_113 (fun z148 σ149 q150 => ?_)
              rw [q150]
              refine a_lstore C dX12_cut_116 (by decide) rfl (vs1 := [some (.ref (ad 236)), some (.int y7_1), none, some (.int y85_3), some (.long z148), none, none, none]) rfl ?_
              have g151 := bF_236_10 hGq85
              exact j118 _ z148 hGq85 hoq85 (show (σq85.1 236 10).toInt ≤ 400 by omega) (show (σq85.1 236 10).toInt = (σq7.1 236 10).toInt by omega) (show y7_1.toInt ≤ 2000 by omega) (show y7_1.toInt + y85_3.toInt + 1 ≤ 2000 by omega)
      have j67 : ∀ (σq67 : HS), GIm σq67 → onm [239, 240, 241, 242, 1010] σ σq67 → ((σq67.1 236 10).toInt ≤ 400) → ((σq67.1 236 10).toInt = (σq7.1 236 10).toInt) → (y7_1.toInt ≤ 1999) → AW ids ad ca Γ 67 [some (.ref (ad 236)), some (.int y7_1), none, none, none, none, none, none] [] σq67 := by
        intro σq67 hGq67 hoq67 hx67_0 hx67_1 hx67_2
        refine s_iinc C dX12_cut_67 rfl (1) (by decide) (by omega) (by decide) rfl (fun z152 h153 => ?_)
        show AW ids ad ca Γ 70 [some (.ref (ad 236)), some (.int z152), none, none, none, none, none, none] _ _
        refine a_goto C dX12_cut_70 (tgt := 291) rfl ?_
        have g154 := bF_236_10 hGq67
        exact j291 _ z152 hGq67 hoq67 (by omega) (show 402 - (σq67.1 236 10).toInt + 2001 - z152.toInt < 402 - (σq7.1 236 10).toInt + 2001 - y7_1.toInt by omega)
      refine a_aload_n C dX12_cut_7 (i := 0) rfl rfl ?_
      have g155 := bF_236_10 hGq7
      refine a_get C fl_RX12_169 (i := 236) kd_236 (hid 236 (by decide)) (v := .int (σq7.1 236 10)) rfl dX12_cut_8 ?_
      refine s_sipush C dX12_cut_11 (400) (by decide) (fun z156 h157 => ?_)
      refine s_ic_gt C dX12_cut_14 (tgt := 294) rfl (fun c158 => ?_) (fun c158 => ?_)
      ·
        exact a_vret Rt dX12_cut_294 (⟨hGq7, hoq7⟩)
      ·
        refine a_aload_n C dX12_cut_17 (i := 0) rfl rfl ?_
        refine a_iload_n C dX12_cut_18 (i := 1) rfl rfl ?_
        have g162 := bF_236_4 hGq7
        have g163 : (σq7.1 236 4).toInt = (σ.1 236 4).toInt := congrArg Int32.toInt (hoq7.1 236 4 (by decide))
        refine a_callVi C (i := 236) kd_236 (hid 236 (by decide)) ⟨_, _, rfl⟩ (by decide) (S_X12_byteAt_236 (x1 := y7_1) hid hGq7 (by omega)) mi_X12_byteAt ml_RX12_172 rfl rfl (Nat.le_of_ble_eq_true rfl) (Nat.le_of_ble_eq_true rfl) (Nat.le_of_ble_eq_true rfl) dX12_cut_19 (fun z159 σ160 q161 => ?_)
        obtain ⟨w164, w165, w166, w167⟩ := q161
        rw [w164]
        refine a_istore_n C dX12_cut_22 (i := 2) rfl (by decide) rfl (vs1 := [some (.ref (ad 236)), some (.int y7_1), some (.int z159), none, none, none, none, none]) rfl ?_
        refine a_iload_n C dX12_cut_23 (i := 1) rfl rfl ?_
        refine a_aload_n C dX12_cut_24 (i := 0) rfl rfl ?_
        refine a_get C fl_RX12_160 (i := 236) kd_236 (hid 236 (by decide)) (v := .int (σq7.1 236 4)) rfl dX12_cut_25 ?_
        refine s_ic_lt C dX12_cut_28 (tgt := 43) rfl (fun c168 => ?_) (fun c168 => ?_)
        ·
          refine a_iload_n C dX12_cut_43 (i := 2) rfl rfl ?_
          refine s_bipush C dX12_cut_44 (9) (by decide) (fun z169 h170 => ?_)
          refine s_ic_eq C dX12_cut_46 (tgt := 67) rfl (fun c171 => ?_) (fun c171 => ?_)
          ·
            refine AW.sub (vs' := [some (.ref (ad 236)), some (.int y7_1), none, none, none, none, none, none]) (lsub_of (by simp [lsubB])) ?_
            exact j67 _ hGq7 hoq7 (show (σq7.1 236 10).toInt ≤ 400 by omega) (show (σq7.1 236 10).toInt = (σq7.1 236 10).toInt by omega) (show y7_1.toInt ≤ 1999 by omega)
          ·
            refine a_iload_n C dX12_cut_49 (i := 2) rfl rfl ?_
            refine s_bipush C dX12_cut_50 (10) (by decide) (fun z172 h173 => ?_)
            refine s_ic_eq C dX12_cut_52 (tgt := 67) rfl (fun c174 => ?_) (fun c174 => ?_)
            ·
              refine AW.sub (vs' := [some (.ref (ad 236)), some (.int y7_1), none, none, none, none, none, none]) (lsub_of (by simp [lsubB])) ?_
              exact j67 _ hGq7 hoq7 (show (σq7.1 236 10).toInt ≤ 400 by omega) (show (σq7.1 236 10).toInt = (σq7.1 236 10).toInt by omega) (show y7_1.toInt ≤ 1999 by omega)
            ·
              refine a_iload_n C dX12_cut_55 (i := 2) rfl rfl ?_
              refine s_bipush C dX12_cut_56 (13) (by decide) (fun z175 h176 => ?_)
              refine s_ic_eq C dX12_cut_58 (tgt := 67) rfl (fun c177 => ?_) (fun c177 => ?_)
              ·
                refine AW.sub (vs' := [some (.ref (ad 236)), some (.int y7_1), none, none, none, none, none, none]) (lsub_of (by simp [lsubB])) ?_
                exact j67 _ hGq7 hoq7 (show (σq7.1 236 10).toInt ≤ 400 by omega) (show (σq7.1 236 10).toInt = (σq7.1 236 10).toInt by omega) (show y7_1.toInt ≤ 1999 by omega)
              ·
                refine a_iload_n C dX12_cut_61 (i := 2) rfl rfl ?_
                refine s_bipush C dX12_cut_62 (32) (by decide) (fun z178 h179 => ?_)
                refine s_ic_ne C dX12_cut_64 (tgt := 73) rfl (fun c180 => ?_) (fun c180 => ?_)
                ·
                  refine a_iload_n C dX12_cut_73 (i := 2) rfl rfl ?_
                  refine a_callSi C (S_X12_isLetter (x1 := z159) hid hGq7) ms_X12_isLetter ml_RX12_180 rfl rfl (Nat.le_of_ble_eq_true rfl) (Nat.le_of_ble_eq_true rfl) (Nat.le_of_ble_eq_true rfl) dX12_cut_74 (fun z181 σ182 q183 => ?_)
                  obtain ⟨w184, w185, w186⟩ := q183
                  rw [w184]
                  refine s_if_eq C dX12_cut_77 (tgt := 196) rfl (fun c187 => ?_) (fun c187 => ?_)
                  ·
                    refine a_iload_n C dX12_cut_196 (i := 2) rfl rfl ?_
                    refine a_callSi C (S_X12_isDigit (x1 := z159) hid hGq7) ms_X12_isDigit ml_RX12_184 rfl rfl (Nat.le_of_ble_eq_true rfl) (Nat.le_of_ble_eq_true rfl) (Nat.le_of_ble_eq_true rfl) dX12_cut_197 (fun z188 σ189 q190 => ?_)
                    obtain ⟨w191, w192, w193⟩ := q190
                    rw [w191]
                    refine s_if_eq C dX12_cut_200 (tgt := 275) rfl (fun c194 => ?_) (fun c194 => ?_)
                    ·
                      refine a_iload_n C dX12_cut_275 (i := 1) rfl rfl ?_
                      refine a_aload_n C dX12_cut_276 (i := 0) rfl rfl ?_
                      refine a_iload_n C dX12_cut_277 (i := 1) rfl rfl ?_
                      refine a_iload_n C dX12_cut_278 (i := 2) rfl rfl ?_
                      refine a_aload_n C dX12_cut_279 (i := 0) rfl rfl ?_
                      refine a_iload_n C dX12_cut_280 (i := 1) rfl rfl ?_
                      refine s_iconst C dX12_cut_281 (1) (by decide) (fun z195 h196 => ?_)
                      refine s_iadd C dX12_cut_282 (by omega) (fun z197 h198 => ?_)
                      refine a_callVi C (i := 236) kd_236 (hid 236 (by decide)) ⟨_, _, rfl⟩ (by decide) (S_X12_byteAt_236 (x1 := z197) hid hGq7 (by omega)) mi_X12_byteAt ml_RX12_172 rfl rfl (Nat.le_of_ble_eq_true rfl) (Nat.le_of_ble_eq_true rfl) (Nat.le_of_ble_eq_true rfl) dX12_cut_283 (fun z199 σ200 q201 => ?_)
                      obtain ⟨w202, w203, w204, w205⟩ := q201
                      rw [w202]
                      refine a_callVi C (i := 236) kd_236 (hid 236 (by decide)) ⟨_, _, rfl⟩ (by decide) (S_X12_sign_236 (x1 := y7_1) (x2 := z159) (x3 := z199) hid hGq7 (by omega)) mi_X12_sign ml_RX12_187 rfl rfl (Nat.le_of_ble_eq_true rfl) (Nat.le_of_ble_eq_true rfl) (Nat.le_of_ble_eq_true rfl) dX12_cut_286 (fun z206 σ207 q208 => ?_)
                      obtain ⟨hG209, ho210, w212, w213⟩ := q208
                      refine s_iadd C dX12_cut_289 (by omega) (fun z214 h215 => ?_)
                      refine a_istore_n C dX12_cut_290 (i := 1) rfl (by decide) rfl (vs1 := [some (.ref (ad 236)), some (.int z214), some (.int z159), none, none, none, none, none]) rfl ?_
                      have g216 := bF_236_10 hG209
                      refine AW.sub (vs' := [some (.ref (ad 236)), some (.int z214), none, none, none, none, none, none]) (lsub_of (by simp [lsubB])) ?_
                      exact j291 _ z214 hG209 (onm.tr hoq7 (onm.mono ho210 (by decide))) (by omega) (show 402 - (σ207.1 236 10).toInt + 2001 - z214.toInt < 402 - (σq7.1 236 10).toInt + 2001 - y7_1.toInt by omega)
                    ·
                      refine s_iconst C dX12_cut_203 (0) (by decide) (fun z217 h218 => ?_)
                      refine a_istore_n C dX12_cut_204 (i := 3) rfl (by decide) rfl (vs1 := [some (.ref (ad 236)), some (.int y7_1), some (.int z159), some (.int z217), none, none, none, none]) rfl ?_
                      refine s_iconst C dX12_cut_205 (0) (by decide) (fun z219 h220 => ?_)
                      refine a_istore C dX12_cut_206 (by decide) rfl (vs1 := [some (.ref (ad 236)), some (.int y7_1), some (.int z159), some (.int z217), some (.int z219), none, none, none]) rfl ?_
                      refine AW.sub (vs' := [some (.ref (ad 236)), some (.int y7_1), none, some (.int z217), some (.int z219), none, none, none]) (lsub_of (by simp [lsubB])) ?_
                      exact j208 100000 _ z217 z219 (by omega) hGq7 hoq7 (by omega) (by omega) (by omega) (show (σq7.1 236 10).toInt ≤ 400 by omega) (show (σq7.1 236 10).toInt = (σq7.1 236 10).toInt by omega) (show y7_1.toInt ≤ 2000 by omega) (show y7_1.toInt + z217.toInt ≤ 2000 by omega) (show z217.toInt ≤ 0 → z219.toInt ≤ 0 by omega) (show z217.toInt ≤ 1 → z219.toInt ≤ 9 by omega) (show z217.toInt ≤ 2 → z219.toInt ≤ 99 by omega) (show z217.toInt ≤ 3 → z219.toInt ≤ 999 by omega)
                  ·
                    refine s_iconst C dX12_cut_80 (0) (by decide) (fun z221 h222 => ?_)
                    refine a_istore_n C dX12_cut_81 (i := 3) rfl (by decide) rfl (vs1 := [some (.ref (ad 236)), some (.int y7_1), some (.int z159), some (.int z221), none, none, none, none]) rfl ?_
                    refine a_lconst C dX12_cut_82 (v := 0) rfl ?_
                    refine a_lstore C dX12_cut_83 (by decide) rfl (vs1 := [some (.ref (ad 236)), some (.int y7_1), some (.int z159), some (.int z221), some (.long 0), none, none, none]) rfl ?_
                    refine AW.sub (vs' := [some (.ref (ad 236)), some (.int y7_1), none, some (.int z221), some (.long 0), none, none, none]) (lsub_of (by simp [lsubB])) ?_
                    exact j85 100000 _ z221 0 (by omega) hGq7 hoq7 (by omega) (by omega) (show (σq7.1 236 10).toInt ≤ 400 by omega) (show (σq7.1 236 10).toInt = (σq7.1 236 10).toInt by omega) (show y7_1.toInt ≤ 2000 by omega) (show y7_1.toInt + z221.toInt ≤ 2000 by omega)
                ·
                  refine AW.sub (vs' := [some (.ref (ad 236)), some (.int y7_1), none, none, none, none, none, none]) (lsub_of (by simp [lsubB])) ?_
                  exact j67 _ hGq7 hoq7 (show (σq7.1 236 10).toInt ≤ 400 by omega) (show (σq7.1 236 10).toInt = (σq7.1 236 10).toInt by omega) (show y7_1.toInt ≤ 1999 by omega)
        ·
          refine a_aload_n C dX12_cut_31 (i := 0) rfl rfl ?_
          refine s_iconst C dX12_cut_32 (0) (by decide) (fun z223 h224 => ?_)
          refine a_aload_n C dX12_cut_33 (i := 0) rfl rfl ?_
          refine a_get C fl_RX12_160 (i := 236) kd_236 (hid 236 (by decide)) (v := .int (σq7.1 236 4)) rfl dX12_cut_34 ?_
          refine s_iconst C dX12_cut_37 (0) (by decide) (fun z225 h226 => ?_)
          refine a_lconst C dX12_cut_38 (v := 0) rfl ?_
          refine a_callVv C (i := 236) kd_236 (hid 236 (by decide)) ⟨_, _, rfl⟩ (by decide) (S_X12_token_236 (x1 := z223) (x2 := (σq7.1 236 4)) (x3 := z225) (x4 := 0) hid hGq7 (by omega) (by omega) (by omega)) mi_X12_token ml_RX12_176 rfl rfl (Nat.le_of_ble_eq_true rfl) (Nat.le_of_ble_eq_true rfl) (Nat.le_of_ble_eq_true rfl) dX12_cut_39 (fun σ228 q229 => ?_)
          obtain ⟨hG230, ho231, w233⟩ := q229
          exact a_vret Rt dX12_cut_42 (⟨hG230, (onm.tr hoq7 (onm.mono ho231 (by decide)))⟩)
  refine a_aload_n C dX12_cut_0 (i := 0) rfl rfl ?_
  refine s_iconst C dX12_cut_1 (0) (by decide) (fun z234 h235 => ?_)
  refine a_put C fp_RX12_169 (i := 236) kd_236 (hid 236 (by decide)) rfl rfl dX12_cut_2 ?_
  have hG236 := wF_236_10 (v := z234) hG (by omega) (by omega)
  refine s_iconst C dX12_cut_5 (0) (by decide) (fun z237 h238 => ?_)
  refine a_istore_n C dX12_cut_6 (i := 1) rfl (by decide) rfl (vs1 := [some (.ref (ad 236)), some (.int z237), none, none, none, none, none, none]) rfl ?_
  have g239 : ((hI σ 236 10 z234).1 236 10).toInt = z234.toInt := congrArg Int32.toInt rfl
  exact j7 100000 _ z237 (by omega) hG236 (onm.F onm.rf (by decide)) (by omega) (show z234.toInt ≤ 402 by omega)
