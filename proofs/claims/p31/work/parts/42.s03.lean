theorem dX1_reckon_0 : decode cX1_reckon 0 = .ok (.iload_n 1, 1) := by decide +kernel
theorem dX1_reckon_1 : decode cX1_reckon 1 = .ok (.tableswitch 39 (-3) (-1) #[35, 31, 27], 27) := by decide +kernel
theorem dX1_reckon_28 : decode cX1_reckon 28 = .ok (.iload_n 2, 1) := by decide +kernel
theorem dX1_reckon_29 : decode cX1_reckon 29 = .ok (.iload_n 3, 1) := by decide +kernel
theorem dX1_reckon_30 : decode cX1_reckon 30 = .ok (.iadd, 1) := by decide +kernel
theorem dX1_reckon_31 : decode cX1_reckon 31 = .ok (.ireturn, 1) := by decide +kernel
theorem dX1_reckon_32 : decode cX1_reckon 32 = .ok (.iload_n 2, 1) := by decide +kernel
theorem dX1_reckon_33 : decode cX1_reckon 33 = .ok (.iload_n 3, 1) := by decide +kernel
theorem dX1_reckon_34 : decode cX1_reckon 34 = .ok (.isub, 1) := by decide +kernel
theorem dX1_reckon_35 : decode cX1_reckon 35 = .ok (.ireturn, 1) := by decide +kernel
theorem dX1_reckon_36 : decode cX1_reckon 36 = .ok (.iload_n 2, 1) := by decide +kernel
theorem dX1_reckon_37 : decode cX1_reckon 37 = .ok (.iload_n 3, 1) := by decide +kernel
theorem dX1_reckon_38 : decode cX1_reckon 38 = .ok (.imul, 1) := by decide +kernel
theorem dX1_reckon_39 : decode cX1_reckon 39 = .ok (.ireturn, 1) := by decide +kernel
theorem dX1_reckon_40 : decode cX1_reckon 40 = .ok (.aload_n 0, 1) := by decide +kernel
theorem dX1_reckon_41 : decode cX1_reckon 41 = .ok (.aload_n 0, 1) := by decide +kernel
theorem dX1_reckon_42 : decode cX1_reckon 42 = .ok (.getfield 22, 3) := by decide +kernel
theorem dX1_reckon_45 : decode cX1_reckon 45 = .ok (.ifCond .ne 7, 3) := by decide +kernel
theorem dX1_reckon_48 : decode cX1_reckon 48 = .ok (.iload_n 3, 1) := by decide +kernel
theorem dX1_reckon_49 : decode cX1_reckon 49 = .ok (.ifCond .ne 7, 3) := by decide +kernel
theorem dX1_reckon_52 : decode cX1_reckon 52 = .ok (.iconst 1, 1) := by decide +kernel
theorem dX1_reckon_53 : decode cX1_reckon 53 = .ok (.goto 4, 3) := by decide +kernel
theorem dX1_reckon_56 : decode cX1_reckon 56 = .ok (.iconst 0, 1) := by decide +kernel
theorem dX1_reckon_57 : decode cX1_reckon 57 = .ok (.putfield 22, 3) := by decide +kernel
theorem dX1_reckon_60 : decode cX1_reckon 60 = .ok (.iload_n 3, 1) := by decide +kernel
theorem dX1_reckon_61 : decode cX1_reckon 61 = .ok (.ifCond .ne 7, 3) := by decide +kernel
theorem dX1_reckon_64 : decode cX1_reckon 64 = .ok (.iconst 0, 1) := by decide +kernel
theorem dX1_reckon_65 : decode cX1_reckon 65 = .ok (.goto 6, 3) := by decide +kernel
theorem dX1_reckon_68 : decode cX1_reckon 68 = .ok (.iload_n 2, 1) := by decide +kernel
theorem dX1_reckon_69 : decode cX1_reckon 69 = .ok (.iload_n 3, 1) := by decide +kernel
theorem dX1_reckon_70 : decode cX1_reckon 70 = .ok (.idiv, 1) := by decide +kernel
theorem dX1_reckon_71 : decode cX1_reckon 71 = .ok (.ireturn, 1) := by decide +kernel
set_option maxHeartbeats 4000000 in
set_option maxRecDepth 100000 in
theorem S_X1_reckon_9 {l : Launch} {D : va_G} {ids : List Nat} {ad : Nat → Nat} {ca : Nat → ClassId} {σ : HS} {x1 : Int32} {x2 : Int32} {x3 : Int32} (hid : ∀ i, i < 277 → i ∈ ids) (hG : GIc σ) : Ki l D ids ad ca yX1_reckon cX1_reckon 4 .int 0 0 [.ref (ad 9), .int x1, .int x2, .int x3] σ (fun r σ1 => (GIc σ1) ∧ (ony [9] σ σ1)) := by
  refine Ki.of (by decide) (Nat.le_of_ble_eq_true rfl) 0 (fun Γ C Rt => ?_)
  show AW ids ad ca Γ 0 [some (.ref (ad 9)), some (.int x1), some (.int x2), some (.int x3)] [] σ
  have j57 : ∀ (σq57 : HS) (u57_0 : Int32), GIc σq57 → ony [9] σ σq57 → 0 ≤ u57_0.toInt ∧ u57_0.toInt ≤ 1 → AW ids ad ca Γ 57 [none, none, some (.int x2), some (.int x3)] [.int u57_0, .ref (ad 9)] σq57 := by
    intro σq57 u57_0 hGq57 hoq57 hx57_0
    refine a_put C fp_RX1_22 (i := 9) kd_9 (hid 9 (by decide)) (nar_z (by omega)).1 (nar_z (by omega)).2 dX1_reckon_57 ?_
    have hG1 := wF_9_3 (v := u57_0) hGq57
    refine a_iload_n C dX1_reckon_60 (i := 3) rfl rfl ?_
    refine s_if_ne C dX1_reckon_61 (tgt := 68) rfl (fun c2 => ?_) (fun c2 => ?_)
    ·
      refine a_iload_n C dX1_reckon_68 (i := 2) rfl rfl ?_
      refine a_iload_n C dX1_reckon_69 (i := 3) rfl rfl ?_
      refine s_idivU C dX1_reckon_70 (by omega) (fun z3 => ?_)
      exact a_iret Rt dX1_reckon_71 rfl (⟨hG1, (ony.I hoq57 (by decide))⟩)
    ·
      refine s_iconst C dX1_reckon_64 (0) (by decide) (fun z5 h6 => ?_)
      refine a_goto C dX1_reckon_65 (tgt := 71) rfl ?_
      exact a_iret Rt dX1_reckon_71 rfl (⟨hG1, (ony.I hoq57 (by decide))⟩)
  have j52 : ∀ (σq52 : HS), GIc σq52 → ony [9] σ σq52 → AW ids ad ca Γ 52 [none, none, some (.int x2), some (.int x3)] [.ref (ad 9)] σq52 := by
    intro σq52 hGq52 hoq52
    refine s_iconst C dX1_reckon_52 (1) (by decide) (fun z7 h8 => ?_)
    refine a_goto C dX1_reckon_53 (tgt := 57) rfl ?_
    exact j57 _ z7 hGq52 hoq52 (by omega)
  refine a_iload_n C dX1_reckon_0 (i := 1) rfl rfl ?_
  by_cases hsw : x1.toInt < -3 ∨ -1 < x1.toInt
  ·
    refine a_tableOut C dX1_reckon_1 hsw (tgt := 40) rfl ?_
    refine a_aload_n C dX1_reckon_40 (i := 0) rfl rfl ?_
    refine a_aload_n C dX1_reckon_41 (i := 0) rfl rfl ?_
    refine a_get C fl_RX1_22 (i := 9) kd_9 (hid 9 (by decide)) (v := .int (σ.1 9 3)) rfl dX1_reckon_42 ?_
    refine s_if_ne C dX1_reckon_45 (tgt := 52) rfl (fun c9 => ?_) (fun c9 => ?_)
    ·
      refine AW.sub (vs' := [none, none, some (.int x2), some (.int x3)]) (lsub_of (by simp [lsubB])) ?_
      exact j52 _ hG ony.rf
    ·
      refine a_iload_n C dX1_reckon_48 (i := 3) rfl rfl ?_
      refine s_if_ne C dX1_reckon_49 (tgt := 56) rfl (fun c10 => ?_) (fun c10 => ?_)
      ·
        refine s_iconst C dX1_reckon_56 (0) (by decide) (fun z11 h12 => ?_)
        refine AW.sub (vs' := [none, none, some (.int x2), some (.int x3)]) (lsub_of (by simp [lsubB])) ?_
        exact j57 _ z11 hG ony.rf (by omega)
      ·
        refine AW.sub (vs' := [none, none, some (.int x2), some (.int x3)]) (lsub_of (by simp [lsubB])) ?_
        exact j52 _ hG ony.rf
  rcases (show x1.toInt = -3 ∨ x1.toInt = -2 ∨ x1.toInt = -1 by omega) with hq | hq | hq
  ·
    refine a_tableIn C dX1_reckon_1 (by omega) (by omega) (by rw [hq]; rfl) (tgt := 36) rfl ?_
    refine a_iload_n C dX1_reckon_36 (i := 2) rfl rfl ?_
    refine a_iload_n C dX1_reckon_37 (i := 3) rfl rfl ?_
    refine s_imulU C dX1_reckon_38 (fun z13 => ?_)
    exact a_iret Rt dX1_reckon_39 rfl (⟨hG, ony.rf⟩)
  ·
    refine a_tableIn C dX1_reckon_1 (by omega) (by omega) (by rw [hq]; rfl) (tgt := 32) rfl ?_
    refine a_iload_n C dX1_reckon_32 (i := 2) rfl rfl ?_
    refine a_iload_n C dX1_reckon_33 (i := 3) rfl rfl ?_
    refine s_isubU C dX1_reckon_34 (fun z15 => ?_)
    exact a_iret Rt dX1_reckon_35 rfl (⟨hG, ony.rf⟩)
  ·
    refine a_tableIn C dX1_reckon_1 (by omega) (by omega) (by rw [hq]; rfl) (tgt := 28) rfl ?_
    refine a_iload_n C dX1_reckon_28 (i := 2) rfl rfl ?_
    refine a_iload_n C dX1_reckon_29 (i := 3) rfl rfl ?_
    refine s_iaddU C dX1_reckon_30 (fun z17 => ?_)
    exact a_iret Rt dX1_reckon_31 rfl (⟨hG, ony.rf⟩)
theorem dX1_answer_0 : decode cX1_answer 0 = .ok (.aload_n 0, 1) := by decide +kernel
theorem dX1_answer_1 : decode cX1_answer 1 = .ok (.iconst 0, 1) := by decide +kernel
theorem dX1_answer_2 : decode cX1_answer 2 = .ok (.putfield 18, 3) := by decide +kernel
theorem dX1_answer_5 : decode cX1_answer 5 = .ok (.aload_n 0, 1) := by decide +kernel
theorem dX1_answer_6 : decode cX1_answer 6 = .ok (.iconst 0, 1) := by decide +kernel
theorem dX1_answer_7 : decode cX1_answer 7 = .ok (.putfield 22, 3) := by decide +kernel
theorem dX1_answer_10 : decode cX1_answer 10 = .ok (.iload_n 2, 1) := by decide +kernel
theorem dX1_answer_11 : decode cX1_answer 11 = .ok (.istore_n 3, 1) := by decide +kernel
theorem dX1_answer_12 : decode cX1_answer 12 = .ok (.iconst 0, 1) := by decide +kernel
theorem dX1_answer_13 : decode cX1_answer 13 = .ok (.istore 4, 2) := by decide +kernel
theorem dX1_answer_15 : decode cX1_answer 15 = .ok (.iload 4, 2) := by decide +kernel
theorem dX1_answer_17 : decode cX1_answer 17 = .ok (.aload_n 1, 1) := by decide +kernel
theorem dX1_answer_18 : decode cX1_answer 18 = .ok (.arraylength, 1) := by decide +kernel
theorem dX1_answer_19 : decode cX1_answer 19 = .ok (.if_icmp .ge 165, 3) := by decide +kernel
theorem dX1_answer_22 : decode cX1_answer 22 = .ok (.iload_n 3, 1) := by decide +kernel
theorem dX1_answer_23 : decode cX1_answer 23 = .ok (.ifCond .lt 161, 3) := by decide +kernel
theorem dX1_answer_26 : decode cX1_answer 26 = .ok (.iload_n 3, 1) := by decide +kernel
theorem dX1_answer_27 : decode cX1_answer 27 = .ok (.aload_n 1, 1) := by decide +kernel
theorem dX1_answer_28 : decode cX1_answer 28 = .ok (.arraylength, 1) := by decide +kernel
theorem dX1_answer_29 : decode cX1_answer 29 = .ok (.if_icmp .ge 155, 3) := by decide +kernel
theorem dX1_answer_32 : decode cX1_answer 32 = .ok (.aload_n 0, 1) := by decide +kernel
theorem dX1_answer_33 : decode cX1_answer 33 = .ok (.getfield 22, 3) := by decide +kernel
theorem dX1_answer_36 : decode cX1_answer 36 = .ok (.ifCond .ne 148, 3) := by decide +kernel
theorem dX1_answer_39 : decode cX1_answer 39 = .ok (.aload_n 1, 1) := by decide +kernel
theorem dX1_answer_40 : decode cX1_answer 40 = .ok (.iload_n 3, 1) := by decide +kernel
theorem dX1_answer_41 : decode cX1_answer 41 = .ok (.iaload, 1) := by decide +kernel
theorem dX1_answer_42 : decode cX1_answer 42 = .ok (.istore 5, 2) := by decide +kernel
theorem dX1_answer_44 : decode cX1_answer 44 = .ok (.iinc 3 1, 3) := by decide +kernel
theorem dX1_answer_47 : decode cX1_answer 47 = .ok (.iload 5, 2) := by decide +kernel
theorem dX1_answer_49 : decode cX1_answer 49 = .ok (.ifCond .lt 12, 3) := by decide +kernel
theorem dX1_answer_52 : decode cX1_answer 52 = .ok (.aload_n 0, 1) := by decide +kernel
theorem dX1_answer_53 : decode cX1_answer 53 = .ok (.iload 5, 2) := by decide +kernel
theorem dX1_answer_55 : decode cX1_answer 55 = .ok (.invokevirtual 26, 3) := by decide +kernel
theorem dX1_answer_58 : decode cX1_answer 58 = .ok (.goto 120, 3) := by decide +kernel
theorem dX1_answer_61 : decode cX1_answer 61 = .ok (.iload 5, 2) := by decide +kernel
theorem dX1_answer_63 : decode cX1_answer 63 = .ok (.bipush (-10), 2) := by decide +kernel
theorem dX1_answer_65 : decode cX1_answer 65 = .ok (.if_icmp .gt 27, 3) := by decide +kernel
theorem dX1_answer_68 : decode cX1_answer 68 = .ok (.iload 5, 2) := by decide +kernel
theorem dX1_answer_70 : decode cX1_answer 70 = .ok (.bipush (-19), 2) := by decide +kernel
theorem dX1_answer_72 : decode cX1_answer 72 = .ok (.if_icmp .le 20, 3) := by decide +kernel
theorem dX1_answer_75 : decode cX1_answer 75 = .ok (.aload_n 0, 1) := by decide +kernel
theorem dX1_answer_76 : decode cX1_answer 76 = .ok (.aload_n 0, 1) := by decide +kernel
theorem dX1_answer_77 : decode cX1_answer 77 = .ok (.getfield 9, 3) := by decide +kernel
theorem dX1_answer_80 : decode cX1_answer 80 = .ok (.bipush (-10), 2) := by decide +kernel
theorem dX1_answer_82 : decode cX1_answer 82 = .ok (.iload 5, 2) := by decide +kernel
theorem dX1_answer_84 : decode cX1_answer 84 = .ok (.isub, 1) := by decide +kernel
theorem dX1_answer_85 : decode cX1_answer 85 = .ok (.iaload, 1) := by decide +kernel
theorem dX1_answer_86 : decode cX1_answer 86 = .ok (.invokevirtual 26, 3) := by decide +kernel
theorem dX1_answer_89 : decode cX1_answer 89 = .ok (.goto 89, 3) := by decide +kernel
theorem dX1_answer_92 : decode cX1_answer 92 = .ok (.iload 5, 2) := by decide +kernel
theorem dX1_answer_94 : decode cX1_answer 94 = .ok (.bipush (-6), 2) := by decide +kernel
theorem dX1_answer_96 : decode cX1_answer 96 = .ok (.if_icmp .ne 23, 3) := by decide +kernel
theorem dX1_answer_99 : decode cX1_answer 99 = .ok (.aload_n 0, 1) := by decide +kernel
theorem dX1_answer_100 : decode cX1_answer 100 = .ok (.invokevirtual 30, 3) := by decide +kernel
theorem dX1_answer_103 : decode cX1_answer 103 = .ok (.istore 6, 2) := by decide +kernel
theorem dX1_answer_105 : decode cX1_answer 105 = .ok (.aload_n 0, 1) := by decide +kernel
theorem dX1_answer_106 : decode cX1_answer 106 = .ok (.getfield 22, 3) := by decide +kernel
theorem dX1_answer_109 : decode cX1_answer 109 = .ok (.ifCond .eq 7, 3) := by decide +kernel
theorem dX1_answer_112 : decode cX1_answer 112 = .ok (.iconst 0, 1) := by decide +kernel
theorem dX1_answer_113 : decode cX1_answer 113 = .ok (.goto 5, 3) := by decide +kernel
theorem dX1_answer_116 : decode cX1_answer 116 = .ok (.iload 6, 2) := by decide +kernel
theorem dX1_answer_118 : decode cX1_answer 118 = .ok (.ireturn, 1) := by decide +kernel
theorem dX1_answer_119 : decode cX1_answer 119 = .ok (.aload_n 0, 1) := by decide +kernel
theorem dX1_answer_120 : decode cX1_answer 120 = .ok (.invokevirtual 30, 3) := by decide +kernel
theorem dX1_answer_123 : decode cX1_answer 123 = .ok (.istore 6, 2) := by decide +kernel
theorem dX1_answer_125 : decode cX1_answer 125 = .ok (.aload_n 0, 1) := by decide +kernel
theorem dX1_answer_126 : decode cX1_answer 126 = .ok (.invokevirtual 30, 3) := by decide +kernel
theorem dX1_answer_129 : decode cX1_answer 129 = .ok (.istore 7, 2) := by decide +kernel
theorem dX1_answer_131 : decode cX1_answer 131 = .ok (.iload 5, 2) := by decide +kernel
theorem dX1_answer_133 : decode cX1_answer 133 = .ok (.bipush (-5), 2) := by decide +kernel
theorem dX1_answer_135 : decode cX1_answer 135 = .ok (.if_icmp .eq 20, 3) := by decide +kernel
theorem dX1_answer_138 : decode cX1_answer 138 = .ok (.aload_n 0, 1) := by decide +kernel
theorem dX1_answer_139 : decode cX1_answer 139 = .ok (.aload_n 0, 1) := by decide +kernel
theorem dX1_answer_140 : decode cX1_answer 140 = .ok (.iload 5, 2) := by decide +kernel
theorem dX1_answer_142 : decode cX1_answer 142 = .ok (.iload 7, 2) := by decide +kernel
theorem dX1_answer_144 : decode cX1_answer 144 = .ok (.iload 6, 2) := by decide +kernel
theorem dX1_answer_146 : decode cX1_answer 146 = .ok (.invokevirtual 34, 3) := by decide +kernel
theorem dX1_answer_149 : decode cX1_answer 149 = .ok (.invokevirtual 26, 3) := by decide +kernel
theorem dX1_answer_152 : decode cX1_answer 152 = .ok (.goto 26, 3) := by decide +kernel
theorem dX1_answer_155 : decode cX1_answer 155 = .ok (.iload 7, 2) := by decide +kernel
theorem dX1_answer_157 : decode cX1_answer 157 = .ok (.iload 6, 2) := by decide +kernel
theorem dX1_answer_159 : decode cX1_answer 159 = .ok (.if_icmp .lt 9, 3) := by decide +kernel
theorem dX1_answer_162 : decode cX1_answer 162 = .ok (.iload_n 3, 1) := by decide +kernel
theorem dX1_answer_163 : decode cX1_answer 163 = .ok (.aload_n 1, 1) := by decide +kernel
theorem dX1_answer_164 : decode cX1_answer 164 = .ok (.arraylength, 1) := by decide +kernel
theorem dX1_answer_165 : decode cX1_answer 165 = .ok (.if_icmp .lt 9, 3) := by decide +kernel
theorem dX1_answer_168 : decode cX1_answer 168 = .ok (.iinc 3 1, 3) := by decide +kernel
theorem dX1_answer_171 : decode cX1_answer 171 = .ok (.goto 7, 3) := by decide +kernel
theorem dX1_answer_174 : decode cX1_answer 174 = .ok (.aload_n 1, 1) := by decide +kernel
theorem dX1_answer_175 : decode cX1_answer 175 = .ok (.iload_n 3, 1) := by decide +kernel
theorem dX1_answer_176 : decode cX1_answer 176 = .ok (.iaload, 1) := by decide +kernel
theorem dX1_answer_177 : decode cX1_answer 177 = .ok (.istore_n 3, 1) := by decide +kernel
theorem dX1_answer_178 : decode cX1_answer 178 = .ok (.iinc 4 1, 3) := by decide +kernel
theorem dX1_answer_181 : decode cX1_answer 181 = .ok (.goto (-166), 3) := by decide +kernel
theorem dX1_answer_184 : decode cX1_answer 184 = .ok (.iconst 0, 1) := by decide +kernel
theorem dX1_answer_185 : decode cX1_answer 185 = .ok (.ireturn, 1) := by decide +kernel
set_option maxHeartbeats 4000000 in
set_option maxRecDepth 100000 in
theorem S_X1_answer_9_41 {l : Launch} {D : va_G} {ids : List Nat} {ad : Nat → Nat} {ca : Nat → ClassId} {σ : HS} {x2 : Int32} (hid : ∀ i, i < 277 → i ∈ ids) (hG : GIc σ) : Ki l D ids ad ca yX1_answer cX1_answer 8 .int 1 23 [.ref (ad 9), .ref (ad 41), .int x2] σ (fun r σ1 => (GIc σ1) ∧ (ony [9, 11] σ σ1)) := by
  refine Ki.of (by decide) (Nat.le_of_ble_eq_true rfl) 5 (fun Γ C Rt => ?_)
  show AW ids ad ca Γ 0 [some (.ref (ad 9)), some (.ref (ad 41)), some (.int x2), none, none, none, none, none] [] σ
  have j15 : ∀ (d15 : Nat) (σq15 : HS) (y15_3 : Int32) (y15_4 : Int32), 408 - y15_4.toInt < d15 → GIc σq15 → ony [9, 11] σ σq15 → 0 ≤ y15_4.toInt ∧ y15_4.toInt ≤ 408 → AW ids ad ca Γ 15 [some (.ref (ad 9)), some (.ref (ad 41)), none, some (.int y15_3), some (.int y15_4), none, none, none] [] σq15 := by
    intro d15
    induction d15 with
    | zero =>
      intro σq15 y15_3 y15_4 hd15 hGq15 hoq15 hx15_0
      exfalso
      omega
    | succ d15 ih15 =>
      intro σq15 y15_3 y15_4 hd15 hGq15 hoq15 hx15_0
      have j178 : ∀ (σq178 : HS) (y178_3 : Int32), GIc σq178 → ony [9, 11] σ σq178 → 0 ≤ y15_4.toInt ∧ y15_4.toInt ≤ 407 → AW ids ad ca Γ 178 [some (.ref (ad 9)), some (.ref (ad 41)), none, some (.int y178_3), some (.int y15_4), none, none, none] [] σq178 := by
        intro σq178 y178_3 hGq178 hoq178 hx178_0
        refine s_iinc C dX1_answer_178 rfl (1) (by decide) (by omega) (by decide) rfl (fun z1 h2 => ?_)
        show AW ids ad ca Γ 181 [some (.ref (ad 9)), some (.ref (ad 41)), none, some (.int y178_3), some (.int z1), none, none, none] _ _
        refine a_goto C dX1_answer_181 (tgt := 15) rfl ?_
        exact ih15 _ y178_3 z1 (by omega) hGq178 hoq178 (by omega)
      have j168 : ∀ (σq168 : HS) (y168_3 : Int32), GIc σq168 → ony [9, 11] σ σq168 → 1 ≤ y168_3.toInt ∧ y168_3.toInt ≤ 408 → 0 ≤ y15_4.toInt ∧ y15_4.toInt ≤ 407 → AW ids ad ca Γ 168 [some (.ref (ad 9)), some (.ref (ad 41)), none, some (.int y168_3), some (.int y15_4), none, none, none] [] σq168 := by
        intro σq168 y168_3 hGq168 hoq168 hx168_0 hx168_1
        refine s_iinc C dX1_answer_168 rfl (1) (by decide) (by omega) (by decide) rfl (fun z3 h4 => ?_)
        show AW ids ad ca Γ 171 [some (.ref (ad 9)), some (.ref (ad 41)), none, some (.int z3), some (.int y15_4), none, none, none] _ _
        refine a_goto C dX1_answer_171 (tgt := 178) rfl ?_
        exact j178 _ z3 hGq168 hoq168 (by omega)
      have j92 : ∀ (σq92 : HS) (y92_3 : Int32) (y92_5 : Int32), GIc σq92 → ony [9, 11] σ σq92 → 1 ≤ y92_3.toInt ∧ y92_3.toInt ≤ 408 → y92_5.toInt ≤ -1 → 0 ≤ y15_4.toInt ∧ y15_4.toInt ≤ 407 → AW ids ad ca Γ 92 [some (.ref (ad 9)), some (.ref (ad 41)), none, some (.int y92_3), some (.int y15_4), some (.int y92_5), none, none] [] σq92 := by
        intro σq92 y92_3 y92_5 hGq92 hoq92 hx92_0 hx92_1 hx92_2
        refine a_iload C dX1_answer_92 rfl ?_
        refine s_bipush C dX1_answer_94 (-6) (by decide) (fun z5 h6 => ?_)
        refine s_ic_ne C dX1_answer_96 (tgt := 119) rfl (fun c7 => ?_) (fun c7 => ?_)
        ·
          refine a_aload_n C dX1_answer_119 (i := 0) rfl rfl ?_
          refine a_callVi C (i := 9) kd_9 (hid 9 (by decide)) ⟨_, _, rfl⟩ (by decide) (S_X1_pop_9 hid hGq92) mi_X1_pop ml_RX1_30 rfl rfl (Nat.le_of_ble_eq_true rfl) (Nat.le_of_ble_eq_true rfl) (Nat.le_of_ble_eq_true rfl) dX1_answer_120 (fun z8 σ9 q10 => ?_)
          obtain ⟨hG11, ho12⟩ := q10
          refine a_istore C dX1_answer_123 (by decide) rfl (vs1 := [some (.ref (ad 9)), some (.ref (ad 41)), none, some (.int y92_3), some (.int y15_4), some (.int y92_5), some (.int z8), none]) rfl ?_
          refine a_aload_n C dX1_answer_125 (i := 0) rfl rfl ?_
          refine a_callVi C (i := 9) kd_9 (hid 9 (by decide)) ⟨_, _, rfl⟩ (by decide) (S_X1_pop_9 hid hG11) mi_X1_pop ml_RX1_30 rfl rfl (Nat.le_of_ble_eq_true rfl) (Nat.le_of_ble_eq_true rfl) (Nat.le_of_ble_eq_true rfl) dX1_answer_126 (fun z14 σ15 q16 => ?_)
          obtain ⟨hG17, ho18⟩ := q16
          refine a_istore C dX1_answer_129 (by decide) rfl (vs1 := [some (.ref (ad 9)), some (.ref (ad 41)), none, some (.int y92_3), some (.int y15_4), some (.int y92_5), some (.int z8), some (.int z14)]) rfl ?_
          refine a_iload C dX1_answer_131 rfl ?_
          refine s_bipush C dX1_answer_133 (-5) (by decide) (fun z20 h21 => ?_)
          refine s_ic_eq C dX1_answer_135 (tgt := 155) rfl (fun c22 => ?_) (fun c22 => ?_)
          ·
            refine a_iload C dX1_answer_155 rfl ?_
            refine a_iload C dX1_answer_157 rfl ?_
            refine s_ic_lt C dX1_answer_159 (tgt := 168) rfl (fun c23 => ?_) (fun c23 => ?_)
            ·
              refine AW.sub (vs' := [some (.ref (ad 9)), some (.ref (ad 41)), none, some (.int y92_3), some (.int y15_4), none, none, none]) (lsub_of (by simp [lsubB])) ?_
              exact j168 _ y92_3 hG17 (ony.tr (ony.tr hoq92 (ony.mono ho12 (by decide))) (ony.mono ho18 (by decide))) (by omega) (by omega)
            ·
              refine a_iload_n C dX1_answer_162 (i := 3) rfl rfl ?_
              refine a_aload_n C dX1_answer_163 (i := 1) rfl rfl ?_
              refine s_alen C (by rw [kd_41]; decide) (hid 41 (by decide)) al_41 (by decide) dX1_answer_164 (fun z24 h25 => ?_)
              refine s_ic_lt C dX1_answer_165 (tgt := 174) rfl (fun c26 => ?_) (fun c26 => ?_)
              ·
                refine a_aload_n C dX1_answer_174 (i := 1) rfl rfl ?_
                refine a_iload_n C dX1_answer_175 (i := 3) rfl rfl ?_
                refine s_iald C (i := 41) kd_41 (hid 41 (by decide)) al_41 (by omega) (by omega) dX1_answer_176 (fun n27 h28 => ?_)
                refine s_val (fun z29 e30 => ?_)
                refine a_istore_n C dX1_answer_177 (i := 3) rfl (by decide) rfl (vs1 := [some (.ref (ad 9)), some (.ref (ad 41)), none, some (.int z29), some (.int y15_4), some (.int y92_5), some (.int z8), some (.int z14)]) rfl ?_
                refine AW.sub (vs' := [some (.ref (ad 9)), some (.ref (ad 41)), none, some (.int z29), some (.int y15_4), none, none, none]) (lsub_of (by simp [lsubB])) ?_
                exact j178 _ z29 hG17 (ony.tr (ony.tr hoq92 (ony.mono ho12 (by decide))) (ony.mono ho18 (by decide))) (by omega)
              ·
                refine AW.sub (vs' := [some (.ref (ad 9)), some (.ref (ad 41)), none, some (.int y92_3), some (.int y15_4), none, none, none]) (lsub_of (by simp [lsubB])) ?_
                exact j168 _ y92_3 hG17 (ony.tr (ony.tr hoq92 (ony.mono ho12 (by decide))) (ony.mono ho18 (by decide))) (by omega) (by omega)
          ·
            refine a_aload_n C dX1_answer_138 (i := 0) rfl rfl ?_
            refine a_aload_n C dX1_answer_139 (i := 0) rfl rfl ?_
            refine a_iload C dX1_answer_140 rfl ?_
            refine a_iload C dX1_answer_142 rfl ?_
            refine a_iload C dX1_answer_144 rfl ?_
            refine a_callVi C (i := 9) kd_9 (hid 9 (by decide)) ⟨_, _, rfl⟩ (by decide) (S_X1_reckon_9 (x1 := y92_5) (x2 := z14) (x3 := z8) hid hG17) mi_X1_reckon ml_RX1_34 rfl rfl (Nat.le_of_ble_eq_true rfl) (Nat.le_of_ble_eq_true rfl) (Nat.le_of_ble_eq_true rfl) dX1_answer_146 (fun z31 σ32 q33 => ?_)
            obtain ⟨hG34, ho35⟩ := q33
            refine a_callVv C (i := 9) kd_9 (hid 9 (by decide)) ⟨_, _, rfl⟩ (by decide) (S_X1_push_9 (x1 := z31) hid hG34) mi_X1_push ml_RX1_26 rfl rfl (Nat.le_of_ble_eq_true rfl) (Nat.le_of_ble_eq_true rfl) (Nat.le_of_ble_eq_true rfl) dX1_answer_149 (fun σ38 q39 => ?_)
            obtain ⟨hG40, ho41⟩ := q39
            refine a_goto C dX1_answer_152 (tgt := 178) rfl ?_
            refine AW.sub (vs' := [some (.ref (ad 9)), some (.ref (ad 41)), none, some (.int y92_3), some (.int y15_4), none, none, none]) (lsub_of (by simp [lsubB])) ?_
            exact j178 _ y92_3 hG40 (ony.tr (ony.tr (ony.tr (ony.tr hoq92 (ony.mono ho12 (by decide))) (ony.mono ho18 (by decide))) (ony.mono ho35 (by decide))) (ony.mono ho41 (by decide))) (by omega)
        ·
          refine a_aload_n C dX1_answer_99 (i := 0) rfl rfl ?_
          refine a_callVi C (i := 9) kd_9 (hid 9 (by decide)) ⟨_, _, rfl⟩ (by decide) (S_X1_pop_9 hid hGq92) mi_X1_pop ml_RX1_30 rfl rfl (Nat.le_of_ble_eq_true rfl) (Nat.le_of_ble_eq_true rfl) (Nat.le_of_ble_eq_true rfl) dX1_answer_100 (fun z43 σ44 q45 => ?_)
          obtain ⟨hG46, ho47⟩ := q45
          refine a_istore C dX1_answer_103 (by decide) rfl (vs1 := [some (.ref (ad 9)), some (.ref (ad 41)), none, some (.int y92_3), some (.int y15_4), some (.int y92_5), some (.int z43), none]) rfl ?_
          refine a_aload_n C dX1_answer_105 (i := 0) rfl rfl ?_
          refine a_get C fl_RX1_22 (i := 9) kd_9 (hid 9 (by decide)) (v := .int (σ44.1 9 3)) rfl dX1_answer_106 ?_
          refine s_if_eq C dX1_answer_109 (tgt := 116) rfl (fun c49 => ?_) (fun c49 => ?_)
          ·
            refine a_iload C dX1_answer_116 rfl ?_
            exact a_iret Rt dX1_answer_118 rfl (⟨hG46, (ony.tr hoq92 (ony.mono ho47 (by decide)))⟩)
          ·
            refine s_iconst C dX1_answer_112 (0) (by decide) (fun z50 h51 => ?_)
            refine a_goto C dX1_answer_113 (tgt := 118) rfl ?_
            exact a_iret Rt dX1_answer_118 rfl (⟨hG46, (ony.tr hoq92 (ony.mono ho47 (by decide)))⟩)
      refine a_iload C dX1_answer_15 rfl ?_
      refine a_aload_n C dX1_answer_17 (i := 1) rfl rfl ?_
      refine s_alen C (by rw [kd_41]; decide) (hid 41 (by decide)) al_41 (by decide) dX1_answer_18 (fun z52 h53 => ?_)
      refine s_ic_ge C dX1_answer_19 (tgt := 184) rfl (fun c54 => ?_) (fun c54 => ?_)
      ·
        refine s_iconst C dX1_answer_184 (0) (by decide) (fun z55 h56 => ?_)
        exact a_iret Rt dX1_answer_185 rfl (⟨hGq15, hoq15⟩)
      ·
        refine a_iload_n C dX1_answer_22 (i := 3) rfl rfl ?_
        refine s_if_lt C dX1_answer_23 (tgt := 184) rfl (fun c57 => ?_) (fun c57 => ?_)
        ·
          refine s_iconst C dX1_answer_184 (0) (by decide) (fun z58 h59 => ?_)
          exact a_iret Rt dX1_answer_185 rfl (⟨hGq15, hoq15⟩)
        ·
          refine a_iload_n C dX1_answer_26 (i := 3) rfl rfl ?_
          refine a_aload_n C dX1_answer_27 (i := 1) rfl rfl ?_
          refine s_alen C (by rw [kd_41]; decide) (hid 41 (by decide)) al_41 (by decide) dX1_answer_28 (fun z60 h61 => ?_)
          refine s_ic_ge C dX1_answer_29 (tgt := 184) rfl (fun c62 => ?_) (fun c62 => ?_)
          ·
            refine s_iconst C dX1_answer_184 (0) (by decide) (fun z63 h64 => ?_)
            exact a_iret Rt dX1_answer_185 rfl (⟨hGq15, hoq15⟩)
          ·
            refine a_aload_n C dX1_answer_32 (i := 0) rfl rfl ?_
            refine a_get C fl_RX1_22 (i := 9) kd_9 (hid 9 (by decide)) (v := .int (σq15.1 9 3)) rfl dX1_answer_33 ?_
            refine s_if_ne C dX1_answer_36 (tgt := 184) rfl (fun c65 => ?_) (fun c65 => ?_)
            ·
              refine s_iconst C dX1_answer_184 (0) (by decide) (fun z66 h67 => ?_)
              exact a_iret Rt dX1_answer_185 rfl (⟨hGq15, hoq15⟩)
            ·
              refine a_aload_n C dX1_answer_39 (i := 1) rfl rfl ?_
              refine a_iload_n C dX1_answer_40 (i := 3) rfl rfl ?_
              refine s_iald C (i := 41) kd_41 (hid 41 (by decide)) al_41 (by omega) (by omega) dX1_answer_41 (fun n68 h69 => ?_)
              refine s_val (fun z70 e71 => ?_)
              refine a_istore C dX1_answer_42 (by decide) rfl (vs1 := [some (.ref (ad 9)), some (.ref (ad 41)), none, some (.int y15_3), some (.int y15_4), some (.int z70), none, none]) rfl ?_
              refine s_iinc C dX1_answer_44 rfl (1) (by decide) (by omega) (by decide) rfl (fun z72 h73 => ?_)
              show AW ids ad ca Γ 47 [some (.ref (ad 9)), some (.ref (ad 41)), none, some (.int z72), some (.int y15_4), some (.int z70), none, none] _ _
              refine a_iload C dX1_answer_47 rfl ?_
              refine s_if_lt C dX1_answer_49 (tgt := 61) rfl (fun c74 => ?_) (fun c74 => ?_)
              ·
                refine a_iload C dX1_answer_61 rfl ?_
                refine s_bipush C dX1_answer_63 (-10) (by decide) (fun z75 h76 => ?_)
                refine s_ic_gt C dX1_answer_65 (tgt := 92) rfl (fun c77 => ?_) (fun c77 => ?_)
                ·
                  exact j92 _ z72 z70 hGq15 hoq15 (by omega) (by omega) (by omega)
                ·
                  refine a_iload C dX1_answer_68 rfl ?_
                  refine s_bipush C dX1_answer_70 (-19) (by decide) (fun z78 h79 => ?_)
                  refine s_ic_le C dX1_answer_72 (tgt := 92) rfl (fun c80 => ?_) (fun c80 => ?_)
                  ·
                    exact j92 _ z72 z70 hGq15 hoq15 (by omega) (by omega) (by omega)
                  ·
                    refine a_aload_n C dX1_answer_75 (i := 0) rfl rfl ?_
                    refine a_aload_n C dX1_answer_76 (i := 0) rfl rfl ?_
                    refine a_get C fl_RX1_9 (i := 9) kd_9 (hid 9 (by decide)) (v := .ref (ad 10)) rfl dX1_answer_77 ?_
                    refine s_bipush C dX1_answer_80 (-10) (by decide) (fun z81 h82 => ?_)
                    refine a_iload C dX1_answer_82 rfl ?_
                    refine s_isub C dX1_answer_84 (by omega) (fun z83 h84 => ?_)
                    refine s_iald C (i := 10) kd_10 (hid 10 (by decide)) al_10 (by omega) (by omega) dX1_answer_85 (fun n85 h86 => ?_)
                    refine s_val (fun z87 e88 => ?_)
                    refine a_callVv C (i := 9) kd_9 (hid 9 (by decide)) ⟨_, _, rfl⟩ (by decide) (S_X1_push_9 (x1 := z87) hid hGq15) mi_X1_push ml_RX1_26 rfl rfl (Nat.le_of_ble_eq_true rfl) (Nat.le_of_ble_eq_true rfl) (Nat.le_of_ble_eq_true rfl) dX1_answer_86 (fun σ90 q91 => ?_)
                    obtain ⟨hG92, ho93⟩ := q91
                    refine a_goto C dX1_answer_89 (tgt := 178) rfl ?_
                    refine AW.sub (vs' := [some (.ref (ad 9)), some (.ref (ad 41)), none, some (.int z72), some (.int y15_4), none, none, none]) (lsub_of (by simp [lsubB])) ?_
                    exact j178 _ z72 hG92 (ony.tr hoq15 (ony.mono ho93 (by decide))) (by omega)
              ·
                refine a_aload_n C dX1_answer_52 (i := 0) rfl rfl ?_
                refine a_iload C dX1_answer_53 rfl ?_
                refine a_callVv C (i := 9) kd_9 (hid 9 (by decide)) ⟨_, _, rfl⟩ (by decide) (S_X1_push_9 (x1 := z70) hid hGq15) mi_X1_push ml_RX1_26 rfl rfl (Nat.le_of_ble_eq_true rfl) (Nat.le_of_ble_eq_true rfl) (Nat.le_of_ble_eq_true rfl) dX1_answer_55 (fun σ96 q97 => ?_)
                obtain ⟨hG98, ho99⟩ := q97
                refine a_goto C dX1_answer_58 (tgt := 178) rfl ?_
                refine AW.sub (vs' := [some (.ref (ad 9)), some (.ref (ad 41)), none, some (.int z72), some (.int y15_4), none, none, none]) (lsub_of (by simp [lsubB])) ?_
                exact j178 _ z72 hG98 (ony.tr hoq15 (ony.mono ho99 (by decide))) (by omega)
  refine a_aload_n C dX1_answer_0 (i := 0) rfl rfl ?_
  refine s_iconst C dX1_answer_1 (0) (by decide) (fun z101 h102 => ?_)
  refine a_put C fp_RX1_18 (i := 9) kd_9 (hid 9 (by decide)) rfl rfl dX1_answer_2 ?_
  have hG103 := wF_9_2 (v := z101) hG (by omega) (by omega)
  refine a_aload_n C dX1_answer_5 (i := 0) rfl rfl ?_
  refine s_iconst C dX1_answer_6 (0) (by decide) (fun z104 h105 => ?_)
  refine a_put C fp_RX1_22 (i := 9) kd_9 (hid 9 (by decide)) (nar_z (by omega)).1 (nar_z (by omega)).2 dX1_answer_7 ?_
  have hG106 := wF_9_3 (v := z104) hG103
  refine a_iload_n C dX1_answer_10 (i := 2) rfl rfl ?_
  refine a_istore_n C dX1_answer_11 (i := 3) rfl (by decide) rfl (vs1 := [some (.ref (ad 9)), some (.ref (ad 41)), some (.int x2), some (.int x2), none, none, none, none]) rfl ?_
  refine s_iconst C dX1_answer_12 (0) (by decide) (fun z107 h108 => ?_)
  refine a_istore C dX1_answer_13 (by decide) rfl (vs1 := [some (.ref (ad 9)), some (.ref (ad 41)), some (.int x2), some (.int x2), some (.int z107), none, none, none]) rfl ?_
  refine AW.sub (vs' := [some (.ref (ad 9)), some (.ref (ad 41)), none, some (.int x2), some (.int z107), none, none, none]) (lsub_of (by simp [lsubB])) ?_
  exact j15 100000 _ x2 z107 (by omega) hG106 (ony.I (ony.I ony.rf (by decide)) (by decide)) (by omega)
set_option maxHeartbeats 4000000 in
set_option maxRecDepth 100000 in
theorem S_X1_answer_9_54 {l : Launch} {D : va_G} {ids : List Nat} {ad : Nat → Nat} {ca : Nat → ClassId} {σ : HS} {x2 : Int32} (hid : ∀ i, i < 277 → i ∈ ids) (hG : GIc σ) : Ki l D ids ad ca yX1_answer cX1_answer 8 .int 1 23 [.ref (ad 9), .ref (ad 54), .int x2] σ (fun r σ1 => (GIc σ1) ∧ (ony [9, 11] σ σ1)) := by
  refine Ki.of (by decide) (Nat.le_of_ble_eq_true rfl) 5 (fun Γ C Rt => ?_)
  show AW ids ad ca Γ 0 [some (.ref (ad 9)), some (.ref (ad 54)), some (.int x2), none, none, none, none, none] [] σ
  have j15 : ∀ (d15 : Nat) (σq15 : HS) (y15_3 : Int32) (y15_4 : Int32), 408 - y15_4.toInt < d15 → GIc σq15 → ony [9, 11] σ σq15 → 0 ≤ y15_4.toInt ∧ y15_4.toInt ≤ 408 → AW ids ad ca Γ 15 [some (.ref (ad 9)), some (.ref (ad 54)), none, some (.int y15_3), some (.int y15_4), none, none, none] [] σq15 := by
    intro d15
    induction d15 with
    | zero =>
      intro σq15 y15_3 y15_4 hd15 hGq15 hoq15 hx15_0
      exfalso
      omega
    | succ d15 ih15 =>
      intro σq15 y15_3 y15_4 hd15 hGq15 hoq15 hx15_0
      have j178 : ∀ (σq178 : HS) (y178_3 : Int32), GIc σq178 → ony [9, 11] σ σq178 → 0 ≤ y15_4.toInt ∧ y15_4.toInt ≤ 407 → AW ids ad ca Γ 178 [some (.ref (ad 9)), some (.ref (ad 54)), none, some (.int y178_3), some (.int y15_4), none, none, none] [] σq178 := by
        intro σq178 y178_3 hGq178 hoq178 hx178_0
        refine s_iinc C dX1_answer_178 rfl (1) (by decide) (by omega) (by decide) rfl (fun z1 h2 => ?_)
        show AW ids ad ca Γ 181 [some (.ref (ad 9)), some (.ref (ad 54)), none, some (.int y178_3), some (.int z1), none, none, none] _ _
        refine a_goto C dX1_answer_181 (tgt := 15) rfl ?_
        exact ih15 _ y178_3 z1 (by omega) hGq178 hoq178 (by omega)
      have j168 : ∀ (σq168 : HS) (y168_3 : Int32), GIc σq168 → ony [9, 11] σ σq168 → 1 ≤ y168_3.toInt ∧ y168_3.toInt ≤ 408 → 0 ≤ y15_4.toInt ∧ y15_4.toInt ≤ 407 → AW ids ad ca Γ 168 [some (.ref (ad 9)), some (.ref (ad 54)), none, some (.int y168_3), some (.int y15_4), none, none, none] [] σq168 := by
        intro σq168 y168_3 hGq168 hoq168 hx168_0 hx168_1
        refine s_iinc C dX1_answer_168 rfl (1) (by decide) (by omega) (by decide) rfl (fun z3 h4 => ?_)
        show AW ids ad ca Γ 171 [some (.ref (ad 9)), some (.ref (ad 54)), none, some (.int z3), some (.int y15_4), none, none, none] _ _
        refine a_goto C dX1_answer_171 (tgt := 178) rfl ?_
        exact j178 _ z3 hGq168 hoq168 (by omega)
      have j92 : ∀ (σq92 : HS) (y92_3 : Int32) (y92_5 : Int32), GIc σq92 → ony [9, 11] σ σq92 → 1 ≤ y92_3.toInt ∧ y92_3.toInt ≤ 408 → y92_5.toInt ≤ -1 → 0 ≤ y15_4.toInt ∧ y15_4.toInt ≤ 407 → AW ids ad ca Γ 92 [some (.ref (ad 9)), some (.ref (ad 54)), none, some (.int y92_3), some (.int y15_4), some (.int y92_5), none, none] [] σq92 := by
        intro σq92 y92_3 y92_5 hGq92 hoq92 hx92_0 hx92_1 hx92_2
        refine a_iload C dX1_answer_92 rfl ?_
        refine s_bipush C dX1_answer_94 (-6) (by decide) (fun z5 h6 => ?_)
        refine s_ic_ne C dX1_answer_96 (tgt := 119) rfl (fun c7 => ?_) (fun c7 => ?_)
        ·
          refine a_aload_n C dX1_answer_119 (i := 0) rfl rfl ?_
          refine a_callVi C (i := 9) kd_9 (hid 9 (by decide)) ⟨_, _, rfl⟩ (by decide) (S_X1_pop_9 hid hGq92) mi_X1_pop ml_RX1_30 rfl rfl (Nat.le_of_ble_eq_true rfl) (Nat.le_of_ble_eq_true rfl) (Nat.le_of_ble_eq_true rfl) dX1_answer_120 (fun z8 σ9 q10 => ?_)
          obtain ⟨hG11, ho12⟩ := q10
          refine a_istore C dX1_answer_123 (by decide) rfl (vs1 := [some (.ref (ad 9)), some (.ref (ad 54)), none, some (.int y92_3), some (.int y15_4), some (.int y92_5), some (.int z8), none]) rfl ?_
          refine a_aload_n C dX1_answer_125 (i := 0) rfl rfl ?_
          refine a_callVi C (i := 9) kd_9 (hid 9 (by decide)) ⟨_, _, rfl⟩ (by decide) (S_X1_pop_9 hid hG11) mi_X1_pop ml_RX1_30 rfl rfl (Nat.le_of_ble_eq_true rfl) (Nat.le_of_ble_eq_true rfl) (Nat.le_of_ble_eq_true rfl) dX1_answer_126 (fun z14 σ15 q16 => ?_)
          obtain ⟨hG17, ho18⟩ := q16
          refine a_istore C dX1_answer_129 (by decide) rfl (vs1 := [some (.ref (ad 9)), some (.ref (ad 54)), none, some (.int y92_3), some (.int y15_4), some (.int y92_5), some (.int z8), some (.int z14)]) rfl ?_
          refine a_iload C dX1_answer_131 rfl ?_
          refine s_bipush C dX1_answer_133 (-5) (by decide) (fun z20 h21 => ?_)
          refine s_ic_eq C dX1_answer_135 (tgt := 155) rfl (fun c22 => ?_) (fun c22 => ?_)
          ·
            refine a_iload C dX1_answer_155 rfl ?_
            refine a_iload C dX1_answer_157 rfl ?_
            refine s_ic_lt C dX1_answer_159 (tgt := 168) rfl (fun c23 => ?_) (fun c23 => ?_)
            ·
              refine AW.sub (vs' := [some (.ref (ad 9)), some (.ref (ad 54)), none, some (.int y92_3), some (.int y15_4), none, none, none]) (lsub_of (by simp [lsubB])) ?_
              exact j168 _ y92_3 hG17 (ony.tr (ony.tr hoq92 (ony.mono ho12 (by decide))) (ony.mono ho18 (by decide))) (by omega) (by omega)
            ·
              refine a_iload_n C dX1_answer_162 (i := 3) rfl rfl ?_
              refine a_aload_n C dX1_answer_163 (i := 1) rfl rfl ?_
              refine s_alen C (by rw [kd_54]; decide) (hid 54 (by decide)) al_54 (by decide) dX1_answer_164 (fun z24 h25 => ?_)
              refine s_ic_lt C dX1_answer_165 (tgt := 174) rfl (fun c26 => ?_) (fun c26 => ?_)
              ·
                refine a_aload_n C dX1_answer_174 (i := 1) rfl rfl ?_
                refine a_iload_n C dX1_answer_175 (i := 3) rfl rfl ?_
                refine s_iald C (i := 54) kd_54 (hid 54 (by decide)) al_54 (by omega) (by omega) dX1_answer_176 (fun n27 h28 => ?_)
                refine s_val (fun z29 e30 => ?_)
                refine a_istore_n C dX1_answer_177 (i := 3) rfl (by decide) rfl (vs1 := [some (.ref (ad 9)), some (.ref (ad 54)), none, some (.int z29), some (.int y15_4), some (.int y92_5), some (.int z8), some (.int z14)]) rfl ?_
                refine AW.sub (vs' := [some (.ref (ad 9)), some (.ref (ad 54)), none, some (.int z29), some (.int y15_4), none, none, none]) (lsub_of (by simp [lsubB])) ?_
                exact j178 _ z29 hG17 (ony.tr (ony.tr hoq92 (ony.mono ho12 (by decide))) (ony.mono ho18 (by decide))) (by omega)
              ·
                refine AW.sub (vs' := [some (.ref (ad 9)), some (.ref (ad 54)), none, some (.int y92_3), some (.int y15_4), none, none, none]) (lsub_of (by simp [lsubB])) ?_
                exact j168 _ y92_3 hG17 (ony.tr (ony.tr hoq92 (ony.mono ho12 (by decide))) (ony.mono ho18 (by decide))) (by omega) (by omega)
          ·
            refine a_aload_n C dX1_answer_138 (i := 0) rfl rfl ?_
            refine a_aload_n C dX1_answer_139 (i := 0) rfl rfl ?_
            refine a_iload C dX1_answer_140 rfl ?_
            refine a_iload C dX1_answer_142 rfl ?_
            refine a_iload C dX1_answer_144 rfl ?_
            refine a_callVi C (i := 9) kd_9 (hid 9 (by decide)) ⟨_, _, rfl⟩ (by decide) (S_X1_reckon_9 (x1 := y92_5) (x2 := z14) (x3 := z8) hid hG17) mi_X1_reckon ml_RX1_34 rfl rfl (Nat.le_of_ble_eq_true rfl) (Nat.le_of_ble_eq_true rfl) (Nat.le_of_ble_eq_true rfl) dX1_answer_146 (fun z31 σ32 q33 => ?_)
            obtain ⟨hG34, ho35⟩ := q33
            refine a_callVv C (i := 9) kd_9 (hid 9 (by decide)) ⟨_, _, rfl⟩ (by decide) (S_X1_push_9 (x1 := z31) hid hG34) mi_X1_push ml_RX1_26 rfl rfl (Nat.le_of_ble_eq_true rfl) (Nat.le_of_ble_eq_true rfl) (Nat.le_of_ble_eq_true rfl) dX1_answer_149 (fun σ38 q39 => ?_)
            obtain ⟨hG40, ho41⟩ := q39
            refine a_goto C dX1_answer_152 (tgt := 178) rfl ?_
            refine AW.sub (vs' := [some (.ref (ad 9)), some (.ref (ad 54)), none, some (.int y92_3), some (.int y15_4), none, none, none]) (lsub_of (by simp [lsubB])) ?_
            exact j178 _ y92_3 hG40 (ony.tr (ony.tr (ony.tr (ony.tr hoq92 (ony.mono ho12 (by decide))) (ony.mono ho18 (by decide))) (ony.mono ho35 (by decide))) (ony.mono ho41 (by decide))) (by omega)
        ·
          refine a_aload_n C dX1_answer_99 (i := 0) rfl rfl ?_
          refine a_callVi C (i := 9) kd_9 (hid 9 (by decide)) ⟨_, _, rfl⟩ (by decide) (S_X1_pop_9 hid hGq92) mi_X1_pop ml_RX1_30 rfl rfl (Nat.le_of_ble_eq_true rfl) (Nat.le_of_ble_eq_true rfl) (Nat.le_of_ble_eq_true rfl) dX1_answer_100 (fun z43 σ44 q45 => ?_)
          obtain ⟨hG46, ho47⟩ := q45
          refine a_istore C dX1_answer_103 (by decide) rfl (vs1 := [some (.ref (ad 9)), some (.ref (ad 54)), none, some (.int y92_3), some (.int y15_4), some (.int y92_5), some (.int z43), none]) rfl ?_
          refine a_aload_n C dX1_answer_105 (i := 0) rfl rfl ?_
          refine a_get C fl_RX1_22 (i := 9) kd_9 (hid 9 (by decide)) (v := .int (σ44.1 9 3)) rfl dX1_answer_106 ?_
          refine s_if_eq C dX1_answer_109 (tgt := 116) rfl (fun c49 => ?_) (fun c49 => ?_)
          ·
            refine a_iload C dX1_answer_116 rfl ?_
            exact a_iret Rt dX1_answer_118 rfl (⟨hG46, (ony.tr hoq92 (ony.mono ho47 (by decide)))⟩)
          ·
            refine s_iconst C dX1_answer_112 (0) (by decide) (fun z50 h51 => ?_)
            refine a_goto C dX1_answer_113 (tgt := 118) rfl ?_
            exact a_iret Rt dX1_answer_118 rfl (⟨hG46, (ony.tr hoq92 (ony.mono ho47 (by decide)))⟩)
      refine a_iload C dX1_answer_15 rfl ?_
      refine a_aload_n C dX1_answer_17 (i := 1) rfl rfl ?_
      refine s_alen C (by rw [kd_54]; decide) (hid 54 (by decide)) al_54 (by decide) dX1_answer_18 (fun z52 h53 => ?_)
      refine s_ic_ge C dX1_answer_19 (tgt := 184) rfl (fun c54 => ?_) (fun c54 => ?_)
      ·
        refine s_iconst C dX1_answer_184 (0) (by decide) (fun z55 h56 => ?_)
        exact a_iret Rt dX1_answer_185 rfl (⟨hGq15, hoq15⟩)
      ·
        refine a_iload_n C dX1_answer_22 (i := 3) rfl rfl ?_
        refine s_if_lt C dX1_answer_23 (tgt := 184) rfl (fun c57 => ?_) (fun c57 => ?_)
        ·
          refine s_iconst C dX1_answer_184 (0) (by decide) (fun z58 h59 => ?_)
          exact a_iret Rt dX1_answer_185 rfl (⟨hGq15, hoq15⟩)
        ·
          refine a_iload_n C dX1_answer_26 (i := 3) rfl rfl ?_
          refine a_aload_n C dX1_answer_27 (i := 1) rfl rfl ?_
          refine s_alen C (by rw [kd_54]; decide) (hid 54 (by decide)) al_54 (by decide) dX1_answer_28 (fun z60 h61 => ?_)
          refine s_ic_ge C dX1_answer_29 (tgt := 184) rfl (fun c62 => ?_) (fun c62 => ?_)
          ·
            refine s_iconst C dX1_answer_184 (0) (by decide) (fun z63 h64 => ?_)
            exact a_iret Rt dX1_answer_185 rfl (⟨hGq15, hoq15⟩)
          ·
            refine a_aload_n C dX1_answer_32 (i := 0) rfl rfl ?_
            refine a_get C fl_RX1_22 (i := 9) kd_9 (hid 9 (by decide)) (v := .int (σq15.1 9 3)) rfl dX1_answer_33 ?_
            refine s_if_ne C dX1_answer_36 (tgt := 184) rfl (fun c65 => ?_) (fun c65 => ?_)
            ·
              refine s_iconst C dX1_answer_184 (0) (by decide) (fun z66 h67 => ?_)
              exact a_iret Rt dX1_answer_185 rfl (⟨hGq15, hoq15⟩)
            ·
              refine a_aload_n C dX1_answer_39 (i := 1) rfl rfl ?_
              refine a_iload_n C dX1_answer_40 (i := 3) rfl rfl ?_
              refine s_iald C (i := 54) kd_54 (hid 54 (by decide)) al_54 (by omega) (by omega) dX1_answer_41 (fun n68 h69 => ?_)
              refine s_val (fun z70 e71 => ?_)
              refine a_istore C dX1_answer_42 (by decide) rfl (vs1 := [some (.ref (ad 9)), some (.ref (ad 54)), none, some (.int y15_3), some (.int y15_4), some (.int z70), none, none]) rfl ?_
              refine s_iinc C dX1_answer_44 rfl (1) (by decide) (by omega) (by decide) rfl (fun z72 h73 => ?_)
              show AW ids ad ca Γ 47 [some (.ref (ad 9)), some (.ref (ad 54)), none, some (.int z72), some (.int y15_4), some (.int z70), none, none] _ _
              refine a_iload C dX1_answer_47 rfl ?_
              refine s_if_lt C dX1_answer_49 (tgt := 61) rfl (fun c74 => ?_) (fun c74 => ?_)
              ·
                refine a_iload C dX1_answer_61 rfl ?_
                refine s_bipush C dX1_answer_63 (-10) (by decide) (fun z75 h76 => ?_)
                refine s_ic_gt C dX1_answer_65 (tgt := 92) rfl (fun c77 => ?_) (fun c77 => ?_)
                ·
                  exact j92 _ z72 z70 hGq15 hoq15 (by omega) (by omega) (by omega)
                ·
                  refine a_iload C dX1_answer_68 rfl ?_
                  refine s_bipush C dX1_answer_70 (-19) (by decide) (fun z78 h79 => ?_)
                  refine s_ic_le C dX1_answer_72 (tgt := 92) rfl (fun c80 => ?_) (fun c80 => ?_)
                  ·
                    exact j92 _ z72 z70 hGq15 hoq15 (by omega) (by omega) (by omega)
                  ·
                    refine a_aload_n C dX1_answer_75 (i := 0) rfl rfl ?_
                    refine a_aload_n C dX1_answer_76 (i := 0) rfl rfl ?_
                    refine a_get C fl_RX1_9 (i := 9) kd_9 (hid 9 (by decide)) (v := .ref (ad 10)) rfl dX1_answer_77 ?_
                    refine s_bipush C dX1_answer_80 (-10) (by decide) (fun z81 h82 => ?_)
                    refine a_iload C dX1_answer_82 rfl ?_
                    refine s_isub C dX1_answer_84 (by omega) (fun z83 h84 => ?_)
                    refine s_iald C (i := 10) kd_10 (hid 10 (by decide)) al_10 (by omega) (by omega) dX1_answer_85 (fun n85 h86 => ?_)
                    refine s_val (fun z87 e88 => ?_)
                    refine a_callVv C (i := 9) kd_9 (hid 9 (by decide)) ⟨_, _, rfl⟩ (by decide) (S_X1_push_9 (x1 := z87) hid hGq15) mi_X1_push ml_RX1_26 rfl rfl (Nat.le_of_ble_eq_true rfl) (Nat.le_of_ble_eq_true rfl) (Nat.le_of_ble_eq_true rfl) dX1_answer_86 (fun σ90 q91 => ?_)
                    obtain ⟨hG92, ho93⟩ := q91
                    refine a_goto C dX1_answer_89 (tgt := 178) rfl ?_
                    refine AW.sub (vs' := [some (.ref (ad 9)), some (.ref (ad 54)), none, some (.int z72), some (.int y15_4), none, none, none]) (lsub_of (by simp [lsubB])) ?_
                    exact j178 _ z72 hG92 (ony.tr hoq15 (ony.mono ho93 (by decide))) (by omega)
              ·
                refine a_aload_n C dX1_answer_52 (i := 0) rfl rfl ?_
                refine a_iload C dX1_answer_53 rfl ?_
                refine a_callVv C (i := 9) kd_9 (hid 9 (by decide)) ⟨_, _, rfl⟩ (by decide) (S_X1_push_9 (x1 := z70) hid hGq15) mi_X1_push ml_RX1_26 rfl rfl (Nat.le_of_ble_eq_true rfl) (Nat.le_of_ble_eq_true rfl) (Nat.le_of_ble_eq_true rfl) dX1_answer_55 (fun σ96 q97 => ?_)
                obtain ⟨hG98, ho99⟩ := q97
                refine a_goto C dX1_answer_58 (tgt := 178) rfl ?_
                refine AW.sub (vs' := [some (.ref (ad 9)), some (.ref (ad 54)), none, some (.int z72), some (.int y15_4), none, none, none]) (lsub_of (by simp [lsubB])) ?_
                exact j178 _ z72 hG98 (ony.tr hoq15 (ony.mono ho99 (by decide))) (by omega)
  refine a_aload_n C dX1_answer_0 (i := 0) rfl rfl ?_
  refine s_iconst C dX1_answer_1 (0) (by decide) (fun z101 h102 => ?_)
  refine a_put C fp_RX1_18 (i := 9) kd_9 (hid 9 (by decide)) rfl rfl dX1_answer_2 ?_
  have hG103 := wF_9_2 (v := z101) hG (by omega) (by omega)
  refine a_aload_n C dX1_answer_5 (i := 0) rfl rfl ?_
  refine s_iconst C dX1_answer_6 (0) (by decide) (fun z104 h105 => ?_)
  refine a_put C fp_RX1_22 (i := 9) kd_9 (hid 9 (by decide)) (nar_z (by omega)).1 (nar_z (by omega)).2 dX1_answer_7 ?_
  have hG106 := wF_9_3 (v := z104) hG103
  refine a_iload_n C dX1_answer_10 (i := 2) rfl rfl ?_
  refine a_istore_n C dX1_answer_11 (i := 3) rfl (by decide) rfl (vs1 := [some (.ref (ad 9)), some (.ref (ad 54)), some (.int x2), some (.int x2), none, none, none, none]) rfl ?_
  refine s_iconst C dX1_answer_12 (0) (by decide) (fun z107 h108 => ?_)
  refine a_istore C dX1_answer_13 (by decide) rfl (vs1 := [some (.ref (ad 9)), some (.ref (ad 54)), some (.int x2), some (.int x2), some (.int z107), none, none, none]) rfl ?_
  refine AW.sub (vs' := [some (.ref (ad 9)), some (.ref (ad 54)), none, some (.int x2), some (.int z107), none, none, none]) (lsub_of (by simp [lsubB])) ?_
  exact j15 100000 _ x2 z107 (by omega) hG106 (ony.I (ony.I ony.rf (by decide)) (by decide)) (by omega)
theorem dX2_add_9 : decode cX2_add 9 = .ok (.iconst (-1), 1) := by decide +kernel
theorem dX2_add_10 : decode cX2_add 10 = .ok (.ireturn, 1) := by decide +kernel
set_option maxHeartbeats 4000000 in
set_option maxRecDepth 100000 in
theorem S_X2_add_14 {l : Launch} {D : va_G} {ids : List Nat} {ad : Nat → Nat} {ca : Nat → ClassId} {σ : HS} {x1 : Int32} {x2 : Int32} (hid : ∀ i, i < 277 → i ∈ ids) (hG : GIc σ) (hx1 : 0 ≤ x1.toInt ∧ x1.toInt ≤ 40) (hx2 : 0 ≤ x2.toInt ∧ x2.toInt ≤ 1) : Ki l D ids ad ca yX2_add cX2_add 3 .int 0 0 [.ref (ad 14), .int x1, .int x2] σ (fun r σ1 => (GIc σ1) ∧ (ony [14, 15, 16] σ σ1)) := by
  refine Ki.of (by decide) (Nat.le_of_ble_eq_true rfl) 0 (fun Γ C Rt => ?_)
  show AW ids ad ca Γ 0 [some (.ref (ad 14)), some (.int x1), some (.int x2)] [] σ
  refine a_aload_n C dX2_add_0 (i := 0) rfl rfl ?_
  have g1 := bF_14_2 hG
  refine a_get C fl_RX2_19 (i := 14) kd_14 (hid 14 (by decide)) (v := .int (σ.1 14 2)) rfl dX2_add_1 ?_
  refine s_bipush C dX2_add_4 (20) (by decide) (fun z2 h3 => ?_)
  refine s_ic_lt C dX2_add_6 (tgt := 11) rfl (fun c4 => ?_) (fun c4 => ?_)
  ·
    refine a_aload_n C dX2_add_11 (i := 0) rfl rfl ?_
    refine a_get C fl_RX2_9 (i := 14) kd_14 (hid 14 (by decide)) (v := .ref (ad 15)) rfl dX2_add_12 ?_
    refine a_aload_n C dX2_add_15 (i := 0) rfl rfl ?_
    have g5 := bF_14_2 hG
    refine a_get C fl_RX2_19 (i := 14) kd_14 (hid 14 (by decide)) (v := .int (σ.1 14 2)) rfl dX2_add_16 ?_
    refine a_iload_n C dX2_add_19 (i := 1) rfl rfl ?_
    refine s_iast C (i := 15) kd_15 (hid 15 (by decide)) al_15 (by omega) (by omega) dX2_add_20 (fun n6 h7 => ?_)
    have hG8 := wA_15 (v := x1) (j := n6) hG (by omega) (by omega)
    refine a_aload_n C dX2_add_21 (i := 0) rfl rfl ?_
    refine a_get C fl_RX2_15 (i := 14) kd_14 (hid 14 (by decide)) (v := .ref (ad 16)) rfl dX2_add_22 ?_
    refine a_aload_n C dX2_add_25 (i := 0) rfl rfl ?_
    have g9 := bF_14_2 hG
    refine a_get C fl_RX2_19 (i := 14) kd_14 (hid 14 (by decide)) (v := .int (σ.1 14 2)) rfl dX2_add_26 ?_
    refine a_iload_n C dX2_add_29 (i := 2) rfl rfl ?_
    refine s_zast C (i := 16) (nar_v (by omega)) kd_16 (hid 16 (by decide)) al_16 (by omega) (by omega) dX2_add_30 (fun n10 h11 => ?_)
    have hG12 := wA_16 (v := x2) (j := n10) hG8
    refine a_aload_n C dX2_add_31 (i := 0) rfl rfl ?_
    refine a_dup C dX2_add_32 rfl ?_
    have g13 := bF_14_2 hG
    refine a_get C fl_RX2_19 (i := 14) kd_14 (hid 14 (by decide)) (v := .int (σ.1 14 2)) rfl dX2_add_33 ?_
    refine s_iconst C dX2_add_36 (1) (by decide) (fun z14 h15 => ?_)
    refine s_iadd C dX2_add_37 (by omega) (fun z16 h17 => ?_)
    refine a_put C fp_RX2_19 (i := 14) kd_14 (hid 14 (by decide)) rfl rfl dX2_add_38 ?_
    have hG18 := wF_14_2 (v := z16) hG12 (by omega) (by omega)
    refine a_aload_n C dX2_add_41 (i := 0) rfl rfl ?_
    refine a_get C fl_RX2_19 (i := 14) kd_14 (hid 14 (by decide)) (v := .int z16) rfl dX2_add_42 ?_
    refine s_iconst C dX2_add_45 (1) (by decide) (fun z19 h20 => ?_)
    refine s_isub C dX2_add_46 (by omega) (fun z21 h22 => ?_)
    exact a_iret Rt dX2_add_47 rfl (⟨hG18, (ony.I (ony.I (ony.I ony.rf (by decide)) (by decide)) (by decide))⟩)
  ·
    refine s_iconst C dX2_add_9 (-1) (by decide) (fun z23 h24 => ?_)
    exact a_iret Rt dX2_add_10 rfl (⟨hG, ony.rf⟩)
theorem dX2_agreeing_12 : decode cX2_agreeing 12 = .ok (.iload 5, 2) := by decide +kernel
theorem dX2_agreeing_14 : decode cX2_agreeing 14 = .ok (.aload_n 0, 1) := by decide +kernel
theorem dX2_agreeing_15 : decode cX2_agreeing 15 = .ok (.getfield 19, 3) := by decide +kernel
theorem dX2_agreeing_18 : decode cX2_agreeing 18 = .ok (.if_icmp .ge 76, 3) := by decide +kernel
theorem dX2_agreeing_21 : decode cX2_agreeing 21 = .ok (.aload_n 0, 1) := by decide +kernel
theorem dX2_agreeing_22 : decode cX2_agreeing 22 = .ok (.getfield 9, 3) := by decide +kernel
theorem dX2_agreeing_25 : decode cX2_agreeing 25 = .ok (.iload 5, 2) := by decide +kernel
theorem dX2_agreeing_27 : decode cX2_agreeing 27 = .ok (.iaload, 1) := by decide +kernel
theorem dX2_agreeing_28 : decode cX2_agreeing 28 = .ok (.aload_n 3, 1) := by decide +kernel
theorem dX2_agreeing_29 : decode cX2_agreeing 29 = .ok (.arraylength, 1) := by decide +kernel
theorem dX2_agreeing_30 : decode cX2_agreeing 30 = .ok (.if_icmp .ge 15, 3) := by decide +kernel
theorem dX2_agreeing_33 : decode cX2_agreeing 33 = .ok (.aload_n 3, 1) := by decide +kernel
theorem dX2_agreeing_34 : decode cX2_agreeing 34 = .ok (.aload_n 0, 1) := by decide +kernel
theorem dX2_agreeing_35 : decode cX2_agreeing 35 = .ok (.getfield 9, 3) := by decide +kernel
theorem dX2_agreeing_38 : decode cX2_agreeing 38 = .ok (.iload 5, 2) := by decide +kernel
theorem dX2_agreeing_40 : decode cX2_agreeing 40 = .ok (.iaload, 1) := by decide +kernel
theorem dX2_agreeing_41 : decode cX2_agreeing 41 = .ok (.iaload, 1) := by decide +kernel
theorem dX2_agreeing_42 : decode cX2_agreeing 42 = .ok (.goto 4, 3) := by decide +kernel
theorem dX2_agreeing_46 : decode cX2_agreeing 46 = .ok (.istore 6, 2) := by decide +kernel
theorem dX2_agreeing_48 : decode cX2_agreeing 48 = .ok (.iload 6, 2) := by decide +kernel
theorem dX2_agreeing_50 : decode cX2_agreeing 50 = .ok (.iconst (-1), 1) := by decide +kernel
theorem dX2_agreeing_51 : decode cX2_agreeing 51 = .ok (.if_icmp .ne 7, 3) := by decide +kernel
theorem dX2_agreeing_54 : decode cX2_agreeing 54 = .ok (.iconst 0, 1) := by decide +kernel
theorem dX2_agreeing_55 : decode cX2_agreeing 55 = .ok (.goto 7, 3) := by decide +kernel
theorem dX2_agreeing_58 : decode cX2_agreeing 58 = .ok (.iconst 1, 1) := by decide +kernel
theorem dX2_agreeing_59 : decode cX2_agreeing 59 = .ok (.iload 6, 2) := by decide +kernel
theorem dX2_agreeing_61 : decode cX2_agreeing 61 = .ok (.ishl, 1) := by decide +kernel
theorem dX2_agreeing_62 : decode cX2_agreeing 62 = .ok (.istore 7, 2) := by decide +kernel
theorem dX2_agreeing_64 : decode cX2_agreeing 64 = .ok (.iload 4, 2) := by decide +kernel
theorem dX2_agreeing_66 : decode cX2_agreeing 66 = .ok (.aload_n 0, 1) := by decide +kernel
theorem dX2_agreeing_67 : decode cX2_agreeing 67 = .ok (.getfield 15, 3) := by decide +kernel
theorem dX2_agreeing_70 : decode cX2_agreeing 70 = .ok (.iload 5, 2) := by decide +kernel
theorem dX2_agreeing_72 : decode cX2_agreeing 72 = .ok (.baload, 1) := by decide +kernel
theorem dX2_agreeing_73 : decode cX2_agreeing 73 = .ok (.ifCond .eq 8, 3) := by decide +kernel
theorem dX2_agreeing_76 : decode cX2_agreeing 76 = .ok (.iload 7, 2) := by decide +kernel
theorem dX2_agreeing_78 : decode cX2_agreeing 78 = .ok (.goto 7, 3) := by decide +kernel
theorem dX2_agreeing_81 : decode cX2_agreeing 81 = .ok (.iload 7, 2) := by decide +kernel
theorem dX2_agreeing_83 : decode cX2_agreeing 83 = .ok (.iconst (-1), 1) := by decide +kernel
theorem dX2_agreeing_84 : decode cX2_agreeing 84 = .ok (.ixor, 1) := by decide +kernel
theorem dX2_agreeing_85 : decode cX2_agreeing 85 = .ok (.iand, 1) := by decide +kernel
theorem dX2_agreeing_86 : decode cX2_agreeing 86 = .ok (.istore 4, 2) := by decide +kernel
theorem dX2_agreeing_88 : decode cX2_agreeing 88 = .ok (.iinc 5 1, 3) := by decide +kernel
theorem dX2_agreeing_91 : decode cX2_agreeing 91 = .ok (.goto (-85), 3) := by decide +kernel
set_option maxHeartbeats 4000000 in
set_option maxRecDepth 100000 in
theorem S_X2_agreeing_14_27 {l : Launch} {D : va_G} {ids : List Nat} {ad : Nat → Nat} {ca : Nat → ClassId} {σ : HS} {x1 : Int32} {x2 : Int32} (hid : ∀ i, i < 277 → i ∈ ids) (hG : GIc σ) : Ki l D ids ad ca yX2_agreeing cX2_agreeing 8 .int 0 0 [.ref (ad 14), .int x1, .int x2, .ref (ad 27)] σ (fun r σ1 => (σ1 = σ)) := by
  refine Ki.of (by decide) (Nat.le_of_ble_eq_true rfl) 4 (fun Γ C Rt => ?_)
  show AW ids ad ca Γ 0 [some (.ref (ad 14)), some (.int x1), some (.int x2), some (.ref (ad 27)), none, none, none, none] [] σ
  have j6 : ∀ (d6 : Nat) (y6_4 : Int32) (y6_5 : Int32), 20 - y6_5.toInt < d6 → 0 ≤ y6_5.toInt ∧ y6_5.toInt ≤ 20 → AW ids ad ca Γ 6 [some (.ref (ad 14)), none, some (.int x2), some (.ref (ad 27)), some (.int y6_4), some (.int y6_5), none, none] [] σ := by
    intro d6
    induction d6 with
    | zero =>
      intro y6_4 y6_5 hd6 hx6_0
      exfalso
      omega
    | succ d6 ih6 =>
      intro y6_4 y6_5 hd6 hx6_0
      have j85 : ∀ (u85_0 : Int32) (u85_1 : Int32), 1 ≤ x2.toInt → 0 ≤ y6_5.toInt ∧ y6_5.toInt ≤ 19 → AW ids ad ca Γ 85 [some (.ref (ad 14)), none, some (.int x2), some (.ref (ad 27)), none, some (.int y6_5), none, none] [.int u85_0, .int u85_1] σ := by
        intro u85_0 u85_1 hx85_0 hx85_1
        refine s_iandU C dX2_agreeing_85 (fun z1 => ?_)
        refine a_istore C dX2_agreeing_86 (by decide) rfl (vs1 := [some (.ref (ad 14)), none, some (.int x2), some (.ref (ad 27)), some (.int z1), some (.int y6_5), none, none]) rfl ?_
        refine s_iinc C dX2_agreeing_88 rfl (1) (by decide) (by omega) (by decide) rfl (fun z3 h4 => ?_)
        show AW ids ad ca Γ 91 [some (.ref (ad 14)), none, some (.int x2), some (.ref (ad 27)), some (.int z1), some (.int z3), none, none] _ _
        refine a_goto C dX2_agreeing_91 (tgt := 6) rfl ?_
        exact ih6 z1 z3 (by omega) (by omega)
      have j62 : ∀ (u62_0 : Int32), 1 ≤ x2.toInt → 0 ≤ y6_5.toInt ∧ y6_5.toInt ≤ 19 → AW ids ad ca Γ 62 [some (.ref (ad 14)), none, some (.int x2), some (.ref (ad 27)), some (.int y6_4), some (.int y6_5), none, none] [.int u62_0] σ := by
        intro u62_0 hx62_0 hx62_1
        refine a_istore C dX2_agreeing_62 (by decide) rfl (vs1 := [some (.ref (ad 14)), none, some (.int x2), some (.ref (ad 27)), some (.int y6_4), some (.int y6_5), none, some (.int u62_0)]) rfl ?_
        refine a_iload C dX2_agreeing_64 rfl ?_
        refine a_aload_n C dX2_agreeing_66 (i := 0) rfl rfl ?_
        refine a_get C fl_RX2_15 (i := 14) kd_14 (hid 14 (by decide)) (v := .ref (ad 16)) rfl dX2_agreeing_67 ?_
        refine a_iload C dX2_agreeing_70 rfl ?_
        refine s_zald C (i := 16) kd_16 (hid 16 (by decide)) al_16 (by omega) (by omega) dX2_agreeing_72 (fun n5 h6 => ?_)
        refine s_val (fun z7 e8 => ?_)
        refine s_if_eq C dX2_agreeing_73 (tgt := 81) rfl (fun c9 => ?_) (fun c9 => ?_)
        ·
          refine a_iload C dX2_agreeing_81 rfl ?_
          refine s_iconst C dX2_agreeing_83 (-1) (by decide) (fun z10 h11 => ?_)
          refine s_ixorU C dX2_agreeing_84 (fun z12 => ?_)
          refine AW.sub (vs' := [some (.ref (ad 14)), none, some (.int x2), some (.ref (ad 27)), none, some (.int y6_5), none, none]) (lsub_of (by simp [lsubB])) ?_
          exact j85 z12 y6_4 (by omega) (by omega)
        ·
          refine a_iload C dX2_agreeing_76 rfl ?_
          refine a_goto C dX2_agreeing_78 (tgt := 85) rfl ?_
          refine AW.sub (vs' := [some (.ref (ad 14)), none, some (.int x2), some (.ref (ad 27)), none, some (.int y6_5), none, none]) (lsub_of (by simp [lsubB])) ?_
          exact j85 u62_0 y6_4 (by omega) (by omega)
      refine a_iload C dX2_agreeing_6 rfl ?_
      refine a_iload_n C dX2_agreeing_8 (i := 2) rfl rfl ?_
      refine s_ic_ge C dX2_agreeing_9 (tgt := 94) rfl (fun c14 => ?_) (fun c14 => ?_)
      ·
        refine a_iload C dX2_agreeing_94 rfl ?_
        exact a_iret Rt dX2_agreeing_96 rfl (rfl)
      ·
        refine a_iload C dX2_agreeing_12 rfl ?_
        refine a_aload_n C dX2_agreeing_14 (i := 0) rfl rfl ?_
        have g15 := bF_14_2 hG
        refine a_get C fl_RX2_19 (i := 14) kd_14 (hid 14 (by decide)) (v := .int (σ.1 14 2)) rfl dX2_agreeing_15 ?_
        refine s_ic_ge C dX2_agreeing_18 (tgt := 94) rfl (fun c16 => ?_) (fun c16 => ?_)
        ·
          refine a_iload C dX2_agreeing_94 rfl ?_
          exact a_iret Rt dX2_agreeing_96 rfl (rfl)
        ·
          refine a_aload_n C dX2_agreeing_21 (i := 0) rfl rfl ?_
          refine a_get C fl_RX2_9 (i := 14) kd_14 (hid 14 (by decide)) (v := .ref (ad 15)) rfl dX2_agreeing_22 ?_
          refine a_iload C dX2_agreeing_25 rfl ?_
          refine s_iald C (i := 15) kd_15 (hid 15 (by decide)) al_15 (by omega) (by omega) dX2_agreeing_27 (fun n17 h18 => ?_)
          refine s_val (fun z19 e20 => ?_)
          have g21 := bA_15 hG n17
          rw [e20] at g21
          refine a_aload_n C dX2_agreeing_28 (i := 3) rfl rfl ?_
          refine s_alen C (by rw [kd_27]; decide) (hid 27 (by decide)) al_27 (by decide) dX2_agreeing_29 (fun z22 h23 => ?_)
          refine s_ic_ge C dX2_agreeing_30 (tgt := 45) rfl (fun c24 => absurd c24 (by omega)) (fun c24 => ?_)
          refine a_aload_n C dX2_agreeing_33 (i := 3) rfl rfl ?_
          refine a_aload_n C dX2_agreeing_34 (i := 0) rfl rfl ?_
          refine a_get C fl_RX2_9 (i := 14) kd_14 (hid 14 (by decide)) (v := .ref (ad 15)) rfl dX2_agreeing_35 ?_
          refine a_iload C dX2_agreeing_38 rfl ?_
          refine s_iald C (i := 15) kd_15 (hid 15 (by decide)) al_15 (by omega) (by omega) dX2_agreeing_40 (fun n25 h26 => ?_)
          refine s_val (fun z27 e28 => ?_)
          have g29 : z27.toInt = z19.toInt := congrArg Int32.toInt (e28.symm.trans ((congrArg (σ.1 15) (show n25 = n17 by omega)).trans e20))
          have g30 := bA_15 hG n25
          rw [e28] at g30
          refine s_iald C (i := 27) kd_27 (hid 27 (by decide)) al_27 (by omega) (by omega) dX2_agreeing_41 (fun n31 h32 => ?_)
          refine s_val (fun z33 e34 => ?_)
          refine a_goto C dX2_agreeing_42 (tgt := 46) rfl ?_
          refine a_istore C dX2_agreeing_46 (by decide) rfl (vs1 := [some (.ref (ad 14)), none, some (.int x2), some (.ref (ad 27)), some (.int y6_4), some (.int y6_5), some (.int z33), none]) rfl ?_
          refine a_iload C dX2_agreeing_48 rfl ?_
          refine s_iconst C dX2_agreeing_50 (-1) (by decide) (fun z35 h36 => ?_)
          refine s_ic_ne C dX2_agreeing_51 (tgt := 58) rfl (fun c37 => ?_) (fun c37 => ?_)
          ·
            refine s_iconst C dX2_agreeing_58 (1) (by decide) (fun z38 h39 => ?_)
            refine a_iload C dX2_agreeing_59 rfl ?_
            refine s_ishlU C dX2_agreeing_61 (fun z40 => ?_)
            refine AW.sub (vs' := [some (.ref (ad 14)), none, some (.int x2), some (.ref (ad 27)), some (.int y6_4), some (.int y6_5), none, none]) (lsub_of (by simp [lsubB])) ?_
            exact j62 z40 (by omega) (by omega)
          ·
            refine s_iconst C dX2_agreeing_54 (0) (by decide) (fun z42 h43 => ?_)
            refine a_goto C dX2_agreeing_55 (tgt := 62) rfl ?_
            refine AW.sub (vs' := [some (.ref (ad 14)), none, some (.int x2), some (.ref (ad 27)), some (.int y6_4), some (.int y6_5), none, none]) (lsub_of (by simp [lsubB])) ?_
            exact j62 z42 (by omega) (by omega)
  refine a_iload_n C dX2_agreeing_0 (i := 1) rfl rfl ?_
  refine a_istore C dX2_agreeing_1 (by decide) rfl (vs1 := [some (.ref (ad 14)), some (.int x1), some (.int x2), some (.ref (ad 27)), some (.int x1), none, none, none]) rfl ?_
  refine s_iconst C dX2_agreeing_3 (0) (by decide) (fun z44 h45 => ?_)
  refine a_istore C dX2_agreeing_4 (by decide) rfl (vs1 := [some (.ref (ad 14)), some (.int x1), some (.int x2), some (.ref (ad 27)), some (.int x1), some (.int z44), none, none]) rfl ?_
  refine AW.sub (vs' := [some (.ref (ad 14)), none, some (.int x2), some (.ref (ad 27)), some (.int x1), some (.int z44), none, none]) (lsub_of (by simp [lsubB])) ?_
  exact j6 100000 x1 z44 (by omega) (by omega)
theorem dX3_close_0 : decode cX3_close 0 = .ok (.iconst 0, 1) := by decide +kernel
theorem dX3_close_1 : decode cX3_close 1 = .ok (.istore_n 2, 1) := by decide +kernel
theorem dX3_close_2 : decode cX3_close 2 = .ok (.iconst 0, 1) := by decide +kernel
theorem dX3_close_3 : decode cX3_close 3 = .ok (.istore_n 3, 1) := by decide +kernel
theorem dX3_close_4 : decode cX3_close 4 = .ok (.iload_n 3, 1) := by decide +kernel
theorem dX3_close_5 : decode cX3_close 5 = .ok (.iload_n 1, 1) := by decide +kernel
theorem dX3_close_6 : decode cX3_close 6 = .ok (.if_icmp .ge 34, 3) := by decide +kernel
theorem dX3_close_9 : decode cX3_close 9 = .ok (.iconst 1, 1) := by decide +kernel
theorem dX3_close_10 : decode cX3_close 10 = .ok (.iload_n 3, 1) := by decide +kernel
theorem dX3_close_11 : decode cX3_close 11 = .ok (.aload_n 0, 1) := by decide +kernel
theorem dX3_close_12 : decode cX3_close 12 = .ok (.iload_n 3, 1) := by decide +kernel
theorem dX3_close_13 : decode cX3_close 13 = .ok (.iaload, 1) := by decide +kernel
theorem dX3_close_14 : decode cX3_close 14 = .ok (.iadd, 1) := by decide +kernel
theorem dX3_close_15 : decode cX3_close 15 = .ok (.iload_n 1, 1) := by decide +kernel
theorem dX3_close_16 : decode cX3_close 16 = .ok (.irem, 1) := by decide +kernel
theorem dX3_close_17 : decode cX3_close 17 = .ok (.ishl, 1) := by decide +kernel
theorem dX3_close_18 : decode cX3_close 18 = .ok (.istore 4, 2) := by decide +kernel
theorem dX3_close_20 : decode cX3_close 20 = .ok (.iload_n 2, 1) := by decide +kernel
theorem dX3_close_21 : decode cX3_close 21 = .ok (.iload 4, 2) := by decide +kernel
theorem dX3_close_23 : decode cX3_close 23 = .ok (.iand, 1) := by decide +kernel
theorem dX3_close_24 : decode cX3_close 24 = .ok (.ifCond .eq 5, 3) := by decide +kernel
theorem dX3_close_27 : decode cX3_close 27 = .ok (.iconst 0, 1) := by decide +kernel
theorem dX3_close_28 : decode cX3_close 28 = .ok (.ireturn, 1) := by decide +kernel
theorem dX3_close_29 : decode cX3_close 29 = .ok (.iload_n 2, 1) := by decide +kernel
theorem dX3_close_30 : decode cX3_close 30 = .ok (.iload 4, 2) := by decide +kernel
theorem dX3_close_32 : decode cX3_close 32 = .ok (.ior, 1) := by decide +kernel
theorem dX3_close_33 : decode cX3_close 33 = .ok (.istore_n 2, 1) := by decide +kernel
theorem dX3_close_34 : decode cX3_close 34 = .ok (.iinc 3 1, 3) := by decide +kernel
theorem dX3_close_37 : decode cX3_close 37 = .ok (.goto (-33), 3) := by decide +kernel
theorem dX3_close_40 : decode cX3_close 40 = .ok (.iconst 1, 1) := by decide +kernel
theorem dX3_close_41 : decode cX3_close 41 = .ok (.ireturn, 1) := by decide +kernel
set_option maxHeartbeats 4000000 in
set_option maxRecDepth 100000 in
theorem S_X3_close_H8 {l : Launch} {D : va_G} {ids : List Nat} {ad : Nat → Nat} {ca : Nat → ClassId} {σ : HS} {x2 : Int32} {ar1 : Nat} (hid : ∀ i, i < 277 → i ∈ ids) (hG : GIc σ) (hx2 : 0 ≤ x2.toInt ∧ x2.toInt ≤ 8) (hk1 : kd ar1 = 20) (hm1 : ar1 ∈ ids) (hn1 : al ar1 = 8) (hb1 : ∀ j : Nat, 0 ≤ (σ.1 ar1 j).toInt ∧ (σ.1 ar1 j).toInt ≤ 9999) : Ki l D ids ad ca yX3_close cX3_close 5 .boolean 0 0 [.ref (ad ar1), .int x2] σ (fun r σ1 => (σ1 = σ) ∧ (0 ≤ r.toInt ∧ r.toInt ≤ 1)) := by
  refine Ki.of (by decide) (Nat.le_of_ble_eq_true rfl) 3 (fun Γ C Rt => ?_)
  show AW ids ad ca Γ 0 [some (.ref (ad ar1)), some (.int x2), none, none, none] [] σ
  have j4 : ∀ (d4 : Nat) (y4_2 : Int32) (y4_3 : Int32), 8 - y4_3.toInt < d4 → 0 ≤ y4_3.toInt ∧ y4_3.toInt ≤ 8 → AW ids ad ca Γ 4 [some (.ref (ad ar1)), some (.int x2), some (.int y4_2), some (.int y4_3), none] [] σ := by
    intro d4
    induction d4 with
    | zero =>
      intro y4_2 y4_3 hd4 hx4_0
      exfalso
      omega
    | succ d4 ih4 =>
      intro y4_2 y4_3 hd4 hx4_0
      refine a_iload_n C dX3_close_4 (i := 3) rfl rfl ?_
      refine a_iload_n C dX3_close_5 (i := 1) rfl rfl ?_
      refine s_ic_ge C dX3_close_6 (tgt := 40) rfl (fun c1 => ?_) (fun c1 => ?_)
      ·
        refine s_iconst C dX3_close_40 (1) (by decide) (fun z2 h3 => ?_)
        exact a_iret Rt dX3_close_41 (nar_z (by omega)).1 (⟨rfl, (show 0 ≤ z2.toInt ∧ z2.toInt ≤ 1 by intros; omega)⟩)
      ·
        refine s_iconst C dX3_close_9 (1) (by decide) (fun z4 h5 => ?_)
        refine a_iload_n C dX3_close_10 (i := 3) rfl rfl ?_
        refine a_aload_n C dX3_close_11 (i := 0) rfl rfl ?_
        refine a_iload_n C dX3_close_12 (i := 3) rfl rfl ?_
        refine s_iald C (i := ar1) hk1 hm1 hn1 (by omega) (by omega) dX3_close_13 (fun n6 h7 => ?_)
        refine s_val (fun z8 e9 => ?_)
        have g10 := hb1 n6
        rw [e9] at g10
        refine s_iadd C dX3_close_14 (by omega) (fun z11 h12 => ?_)
        refine a_iload_n C dX3_close_15 (i := 1) rfl rfl ?_
        refine s_irem C dX3_close_16 (by omega) (by omega) (fun z13 h14 => ?_)
        refine s_ishlU C dX3_close_17 (fun z15 => ?_)
        refine a_istore C dX3_close_18 (by decide) rfl (vs1 := [some (.ref (ad ar1)), some (.int x2), some (.int y4_2), some (.int y4_3), some (.int z15)]) rfl ?_
        refine a_iload_n C dX3_close_20 (i := 2) rfl rfl ?_
        refine a_iload C dX3_close_21 rfl ?_
        refine s_iandU C dX3_close_23 (fun z17 => ?_)
        refine s_if_eq C dX3_close_24 (tgt := 29) rfl (fun c19 => ?_) (fun c19 => ?_)
        ·
          refine a_iload_n C dX3_close_29 (i := 2) rfl rfl ?_
          refine a_iload C dX3_close_30 rfl ?_
          refine s_iorU C dX3_close_32 (fun z20 => ?_)
          refine a_istore_n C dX3_close_33 (i := 2) rfl (by decide) rfl (vs1 := [some (.ref (ad ar1)), some (.int x2), some (.int z20), some (.int y4_3), some (.int z15)]) rfl ?_
          refine s_iinc C dX3_close_34 rfl (1) (by decide) (by omega) (by decide) rfl (fun z22 h23 => ?_)
          show AW ids ad ca Γ 37 [some (.ref (ad ar1)), some (.int x2), some (.int z20), some (.int z22), some (.int z15)] _ _
          refine a_goto C dX3_close_37 (tgt := 4) rfl ?_
          refine AW.sub (vs' := [some (.ref (ad ar1)), some (.int x2), some (.int z20), some (.int z22), none]) (lsub_of (by simp [lsubB])) ?_
          exact ih4 z20 z22 (by omega) (by omega)
        ·
          refine s_iconst C dX3_close_27 (0) (by decide) (fun z24 h25 => ?_)
          exact a_iret Rt dX3_close_28 (nar_z (by omega)).1 (⟨rfl, (show 0 ≤ z24.toInt ∧ z24.toInt ≤ 1 by intros; omega)⟩)
  refine s_iconst C dX3_close_0 (0) (by decide) (fun z26 h27 => ?_)
  refine a_istore_n C dX3_close_1 (i := 2) rfl (by decide) rfl (vs1 := [some (.ref (ad ar1)), some (.int x2), some (.int z26), none, none]) rfl ?_
  refine s_iconst C dX3_close_2 (0) (by decide) (fun z28 h29 => ?_)
  refine a_istore_n C dX3_close_3 (i := 3) rfl (by decide) rfl (vs1 := [some (.ref (ad ar1)), some (.int x2), some (.int z26), some (.int z28), none]) rfl ?_
  exact j4 100000 z26 z28 (by omega) (by omega)
set_option maxHeartbeats 4000000 in
set_option maxRecDepth 100000 in
theorem S_X3_close_29 {l : Launch} {D : va_G} {ids : List Nat} {ad : Nat → Nat} {ca : Nat → ClassId} {σ : HS} {x2 : Int32} (hid : ∀ i, i < 277 → i ∈ ids) (hG : GIc σ) (hx2 : 0 ≤ x2.toInt ∧ x2.toInt ≤ 16) : Ki l D ids ad ca yX3_close cX3_close 5 .boolean 0 0 [.ref (ad 29), .int x2] σ (fun r σ1 => (σ1 = σ) ∧ (0 ≤ r.toInt ∧ r.toInt ≤ 1)) := by
  refine Ki.of (by decide) (Nat.le_of_ble_eq_true rfl) 3 (fun Γ C Rt => ?_)
  show AW ids ad ca Γ 0 [some (.ref (ad 29)), some (.int x2), none, none, none] [] σ
  have j4 : ∀ (d4 : Nat) (y4_2 : Int32) (y4_3 : Int32), 16 - y4_3.toInt < d4 → 0 ≤ y4_3.toInt ∧ y4_3.toInt ≤ 16 → AW ids ad ca Γ 4 [some (.ref (ad 29)), some (.int x2), some (.int y4_2), some (.int y4_3), none] [] σ := by
    intro d4
    induction d4 with
    | zero =>
      intro y4_2 y4_3 hd4 hx4_0
      exfalso
      omega
    | succ d4 ih4 =>
      intro y4_2 y4_3 hd4 hx4_0
      refine a_iload_n C dX3_close_4 (i := 3) rfl rfl ?_
      refine a_iload_n C dX3_close_5 (i := 1) rfl rfl ?_
      refine s_ic_ge C dX3_close_6 (tgt := 40) rfl (fun c1 => ?_) (fun c1 => ?_)
      ·
        refine s_iconst C dX3_close_40 (1) (by decide) (fun z2 h3 => ?_)
        exact a_iret Rt dX3_close_41 (nar_z (by omega)).1 (⟨rfl, (show 0 ≤ z2.toInt ∧ z2.toInt ≤ 1 by intros; omega)⟩)
      ·
        refine s_iconst C dX3_close_9 (1) (by decide) (fun z4 h5 => ?_)
        refine a_iload_n C dX3_close_10 (i := 3) rfl rfl ?_
        refine a_aload_n C dX3_close_11 (i := 0) rfl rfl ?_
        refine a_iload_n C dX3_close_12 (i := 3) rfl rfl ?_
        refine s_iald C (i := 29) kd_29 (hid 29 (by decide)) al_29 (by omega) (by omega) dX3_close_13 (fun n6 h7 => ?_)
        refine s_val (fun z8 e9 => ?_)
        refine s_iaddU C dX3_close_14 (fun z10 => ?_)
        refine a_iload_n C dX3_close_15 (i := 1) rfl rfl ?_
        refine s_iremU C dX3_close_16 (by omega) (fun z12 => ?_)
        refine s_ishlU C dX3_close_17 (fun z14 => ?_)
        refine a_istore C dX3_close_18 (by decide) rfl (vs1 := [some (.ref (ad 29)), some (.int x2), some (.int y4_2), some (.int y4_3), some (.int z14)]) rfl ?_
        refine a_iload_n C dX3_close_20 (i := 2) rfl rfl ?_
        refine a_iload C dX3_close_21 rfl ?_
        refine s_iandU C dX3_close_23 (fun z16 => ?_)
        refine s_if_eq C dX3_close_24 (tgt := 29) rfl (fun c18 => ?_) (fun c18 => ?_)
        ·
          refine a_iload_n C dX3_close_29 (i := 2) rfl rfl ?_
          refine a_iload C dX3_close_30 rfl ?_
          refine s_iorU C dX3_close_32 (fun z19 => ?_)
          refine a_istore_n C dX3_close_33 (i := 2) rfl (by decide) rfl (vs1 := [some (.ref (ad 29)), some (.int x2), some (.int z19), some (.int y4_3), some (.int z14)]) rfl ?_
          refine s_iinc C dX3_close_34 rfl (1) (by decide) (by omega) (by decide) rfl (fun z21 h22 => ?_)
          show AW ids ad ca Γ 37 [some (.ref (ad 29)), some (.int x2), some (.int z19), some (.int z21), some (.int z14)] _ _
          refine a_goto C dX3_close_37 (tgt := 4) rfl ?_
          refine AW.sub (vs' := [some (.ref (ad 29)), some (.int x2), some (.int z19), some (.int z21), none]) (lsub_of (by simp [lsubB])) ?_
          exact ih4 z19 z21 (by omega) (by omega)
        ·
          refine s_iconst C dX3_close_27 (0) (by decide) (fun z23 h24 => ?_)
          exact a_iret Rt dX3_close_28 (nar_z (by omega)).1 (⟨rfl, (show 0 ≤ z23.toInt ∧ z23.toInt ≤ 1 by intros; omega)⟩)
  refine s_iconst C dX3_close_0 (0) (by decide) (fun z25 h26 => ?_)
  refine a_istore_n C dX3_close_1 (i := 2) rfl (by decide) rfl (vs1 := [some (.ref (ad 29)), some (.int x2), some (.int z25), none, none]) rfl ?_
  refine s_iconst C dX3_close_2 (0) (by decide) (fun z27 h28 => ?_)
  refine a_istore_n C dX3_close_3 (i := 3) rfl (by decide) rfl (vs1 := [some (.ref (ad 29)), some (.int x2), some (.int z25), some (.int z27), none]) rfl ?_
  exact j4 100000 z25 z27 (by omega) (by omega)
theorem dX3_kept_0 : decode cX3_kept 0 = .ok (.iconst 0, 1) := by decide +kernel
theorem dX3_kept_1 : decode cX3_kept 1 = .ok (.istore_n 2, 1) := by decide +kernel
theorem dX3_kept_2 : decode cX3_kept 2 = .ok (.iconst 0, 1) := by decide +kernel
theorem dX3_kept_3 : decode cX3_kept 3 = .ok (.istore_n 3, 1) := by decide +kernel
theorem dX3_kept_4 : decode cX3_kept 4 = .ok (.iload_n 3, 1) := by decide +kernel
theorem dX3_kept_5 : decode cX3_kept 5 = .ok (.iload_n 1, 1) := by decide +kernel
theorem dX3_kept_6 : decode cX3_kept 6 = .ok (.if_icmp .ge 15, 3) := by decide +kernel
theorem dX3_kept_9 : decode cX3_kept 9 = .ok (.iload_n 2, 1) := by decide +kernel
theorem dX3_kept_10 : decode cX3_kept 10 = .ok (.aload_n 0, 1) := by decide +kernel
theorem dX3_kept_11 : decode cX3_kept 11 = .ok (.iload_n 3, 1) := by decide +kernel
theorem dX3_kept_12 : decode cX3_kept 12 = .ok (.iaload, 1) := by decide +kernel
theorem dX3_kept_13 : decode cX3_kept 13 = .ok (.iadd, 1) := by decide +kernel
theorem dX3_kept_14 : decode cX3_kept 14 = .ok (.istore_n 2, 1) := by decide +kernel
theorem dX3_kept_15 : decode cX3_kept 15 = .ok (.iinc 3 1, 3) := by decide +kernel
theorem dX3_kept_18 : decode cX3_kept 18 = .ok (.goto (-14), 3) := by decide +kernel
theorem dX3_kept_21 : decode cX3_kept 21 = .ok (.iload_n 1, 1) := by decide +kernel
theorem dX3_kept_22 : decode cX3_kept 22 = .ok (.iconst 1, 1) := by decide +kernel
theorem dX3_kept_23 : decode cX3_kept 23 = .ok (.if_icmp .ge 7, 3) := by decide +kernel
theorem dX3_kept_26 : decode cX3_kept 26 = .ok (.iconst 0, 1) := by decide +kernel
theorem dX3_kept_27 : decode cX3_kept 27 = .ok (.goto 6, 3) := by decide +kernel
theorem dX3_kept_30 : decode cX3_kept 30 = .ok (.iload_n 2, 1) := by decide +kernel
theorem dX3_kept_31 : decode cX3_kept 31 = .ok (.iload_n 1, 1) := by decide +kernel
theorem dX3_kept_32 : decode cX3_kept 32 = .ok (.idiv, 1) := by decide +kernel
theorem dX3_kept_33 : decode cX3_kept 33 = .ok (.ireturn, 1) := by decide +kernel
set_option maxHeartbeats 4000000 in
set_option maxRecDepth 100000 in
theorem S_X3_kept_H8 {l : Launch} {D : va_G} {ids : List Nat} {ad : Nat → Nat} {ca : Nat → ClassId} {σ : HS} {x2 : Int32} {ar1 : Nat} (hid : ∀ i, i < 277 → i ∈ ids) (hG : GIc σ) (hx2 : 0 ≤ x2.toInt ∧ x2.toInt ≤ 8) (hk1 : kd ar1 = 20) (hm1 : ar1 ∈ ids) (hn1 : al ar1 = 8) (hb1 : ∀ j : Nat, 0 ≤ (σ.1 ar1 j).toInt ∧ (σ.1 ar1 j).toInt ≤ 9999) : Ki l D ids ad ca yX3_kept cX3_kept 4 .int 0 0 [.ref (ad ar1), .int x2] σ (fun r σ1 => (σ1 = σ)) := by
  refine Ki.of (by decide) (Nat.le_of_ble_eq_true rfl) 2 (fun Γ C Rt => ?_)
  show AW ids ad ca Γ 0 [some (.ref (ad ar1)), some (.int x2), none, none] [] σ
  have j4 : ∀ (d4 : Nat) (y4_2 : Int32) (y4_3 : Int32), 8 - y4_3.toInt < d4 → 0 ≤ y4_3.toInt ∧ y4_3.toInt ≤ 8 → AW ids ad ca Γ 4 [some (.ref (ad ar1)), some (.int x2), some (.int y4_2), some (.int y4_3)] [] σ := by
    intro d4
    induction d4 with
    | zero =>
      intro y4_2 y4_3 hd4 hx4_0
      exfalso
      omega
    | succ d4 ih4 =>
      intro y4_2 y4_3 hd4 hx4_0
      refine a_iload_n C dX3_kept_4 (i := 3) rfl rfl ?_
      refine a_iload_n C dX3_kept_5 (i := 1) rfl rfl ?_
      refine s_ic_ge C dX3_kept_6 (tgt := 21) rfl (fun c1 => ?_) (fun c1 => ?_)
      ·
        refine a_iload_n C dX3_kept_21 (i := 1) rfl rfl ?_
        refine s_iconst C dX3_kept_22 (1) (by decide) (fun z2 h3 => ?_)
        refine s_ic_ge C dX3_kept_23 (tgt := 30) rfl (fun c4 => ?_) (fun c4 => ?_)
        ·
          refine a_iload_n C dX3_kept_30 (i := 2) rfl rfl ?_
          refine a_iload_n C dX3_kept_31 (i := 1) rfl rfl ?_
          refine s_idivU C dX3_kept_32 (by omega) (fun z5 => ?_)
          exact a_iret Rt dX3_kept_33 rfl (rfl)
        ·
          refine s_iconst C dX3_kept_26 (0) (by decide) (fun z7 h8 => ?_)
          refine a_goto C dX3_kept_27 (tgt := 33) rfl ?_
          exact a_iret Rt dX3_kept_33 rfl (rfl)
      ·
        refine a_iload_n C dX3_kept_9 (i := 2) rfl rfl ?_
        refine a_aload_n C dX3_kept_10 (i := 0) rfl rfl ?_
        refine a_iload_n C dX3_kept_11 (i := 3) rfl rfl ?_
        refine s_iald C (i := ar1) hk1 hm1 hn1 (by omega) (by omega) dX3_kept_12 (fun n9 h10 => ?_)
        refine s_val (fun z11 e12 => ?_)
        have g13 := hb1 n9
        rw [e12] at g13
        refine s_iaddU C dX3_kept_13 (fun z14 => ?_)
        refine a_istore_n C dX3_kept_14 (i := 2) rfl (by decide) rfl (vs1 := [some (.ref (ad ar1)), some (.int x2), some (.int z14), some (.int y4_3)]) rfl ?_
        refine s_iinc C dX3_kept_15 rfl (1) (by decide) (by omega) (by decide) rfl (fun z16 h17 => ?_)
        show AW ids ad ca Γ 18 [some (.ref (ad ar1)), some (.int x2), some (.int z14), some (.int z16)] _ _
        refine a_goto C dX3_kept_18 (tgt := 4) rfl ?_
        exact ih4 z14 z16 (by omega) (by omega)
  refine s_iconst C dX3_kept_0 (0) (by decide) (fun z18 h19 => ?_)
  refine a_istore_n C dX3_kept_1 (i := 2) rfl (by decide) rfl (vs1 := [some (.ref (ad ar1)), some (.int x2), some (.int z18), none]) rfl ?_
  refine s_iconst C dX3_kept_2 (0) (by decide) (fun z20 h21 => ?_)
  refine a_istore_n C dX3_kept_3 (i := 3) rfl (by decide) rfl (vs1 := [some (.ref (ad ar1)), some (.int x2), some (.int z18), some (.int z20)]) rfl ?_
  exact j4 100000 z18 z20 (by omega) (by omega)
