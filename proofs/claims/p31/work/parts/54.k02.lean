set_option maxHeartbeats 4000000 in
set_option maxRecDepth 100000 in
theorem S_X12_ways_236 {l : Launch} {D : va_G} {ids : List Nat} {ad : Nat → Nat} {ca : Nat → ClassId} {σ : HS} {x1 : Int32} {x2 : Int32} {x3 : Int32} {x4 : Int32} (hid : ∀ i, i < 277 → i ∈ ids) (hG : GIm σ) : Ki l D ids ad ca yX12_ways cX12_ways 10 .int 1 24 [.ref (ad 236), .int x1, .int x2, .int x3, .int x4] σ (fun r σ1 => (GIm σ1) ∧ (onm [269, 1057] σ σ1)) := by
  refine Ki.of (by decide) (Nat.le_of_ble_eq_true rfl) 5 (fun Γ C Rt => ?_)
  show AW ids ad ca Γ 0 [some (.ref (ad 236)), some (.int x1), some (.int x2), some (.int x3), some (.int x4), none, none, none, none, none] [] σ
  have j80 : ∀ (d80 : Nat) (σq80 : HS) (y80_5 : Int32) (y80_6 : Int32) (y80_7 : Int32), 32768 - y80_7.toInt < d80 → GIm σq80 → onm [269, 1057] σ σq80 → 0 ≤ y80_5.toInt ∧ y80_5.toInt ≤ 32768 → 0 ≤ y80_7.toInt ∧ y80_7.toInt ≤ 32768 → 1 ≤ x1.toInt ∧ x1.toInt ≤ 5 → 1 ≤ x2.toInt ∧ x2.toInt ≤ 7 → -1 ≤ x4.toInt ∧ x4.toInt ≤ 4 → (1 ≤ (σq80.1 236 57).toInt) → AW ids ad ca Γ 80 [some (.ref (ad 236)), some (.int x1), some (.int x2), some (.int x3), some (.int x4), some (.int y80_5), some (.int y80_6), some (.int y80_7), none, none] [] σq80 := by
    intro d80
    induction d80 with
    | zero =>
      intro σq80 y80_5 y80_6 y80_7 hd80 hGq80 hoq80 hx80_0 hx80_1 hx80_2 hx80_3 hx80_4 hx80_5
      exfalso
      omega
    | succ d80 ih80 =>
      intro σq80 y80_5 y80_6 y80_7 hd80 hGq80 hoq80 hx80_0 hx80_1 hx80_2 hx80_3 hx80_4 hx80_5
      have j155 : ∀ (σq155 : HS) (y155_6 : Int32), GIm σq155 → onm [269, 1057] σ σq155 → 1 ≤ y80_5.toInt ∧ y80_5.toInt ≤ 32768 → 0 ≤ y80_7.toInt ∧ y80_7.toInt ≤ 32767 → (1 ≤ (σq155.1 236 57).toInt) → AW ids ad ca Γ 155 [some (.ref (ad 236)), some (.int x1), some (.int x2), some (.int x3), some (.int x4), some (.int y80_5), some (.int y155_6), some (.int y80_7), none, none] [] σq155 := by
        intro σq155 y155_6 hGq155 hoq155 hx155_0 hx155_1 hx155_2
        refine s_iinc C dX12_ways_155 rfl (1) (by decide) (by omega) (by decide) rfl (fun z1 h2 => ?_)
        show AW ids ad ca Γ 158 [some (.ref (ad 236)), some (.int x1), some (.int x2), some (.int x3), some (.int x4), some (.int y80_5), some (.int y155_6), some (.int z1), none, none] _ _
        refine a_goto C dX12_ways_158 (tgt := 80) rfl ?_
        have g3 := bF_236_57 hGq155
        exact ih80 _ y80_5 y155_6 z1 (by omega) hGq155 hoq155 (by omega) (by omega) (by omega) (by omega) (by omega) (show 1 ≤ (σq155.1 236 57).toInt by omega)
      have j96 : ∀ (d96 : Nat) (σq96 : HS) (y96_8 : Int32) (y96_9 : Int32), y96_9.toInt + 1 < d96 → GIm σq96 → onm [269, 1057] σ σq96 → 0 ≤ y96_8.toInt ∧ y96_8.toInt ≤ 32768 → -1 ≤ y96_9.toInt ∧ y96_9.toInt ≤ 4 → 1 ≤ y80_5.toInt ∧ y80_5.toInt ≤ 32768 → 0 ≤ y80_7.toInt ∧ y80_7.toInt ≤ 32767 → (1 ≤ (σq96.1 236 57).toInt) → AW ids ad ca Γ 96 [some (.ref (ad 236)), some (.int x1), some (.int x2), some (.int x3), some (.int x4), some (.int y80_5), some (.int y80_6), some (.int y80_7), some (.int y96_8), some (.int y96_9)] [] σq96 := by
        intro d96
        induction d96 with
        | zero =>
          intro σq96 y96_8 y96_9 hd96 hGq96 hoq96 hx96_0 hx96_1 hx96_2 hx96_3 hx96_4
          exfalso
          omega
        | succ d96 ih96 =>
          intro σq96 y96_8 y96_9 hd96 hGq96 hoq96 hx96_0 hx96_1 hx96_2 hx96_3 hx96_4
          refine a_iload C dX12_ways_96 rfl ?_
          refine s_if_lt C dX12_ways_98 (tgt := 128) rfl (fun c4 => ?_) (fun c4 => ?_)
          ·
            refine a_aload_n C dX12_ways_128 (i := 0) rfl rfl ?_
            have g8 := bF_236_57 hGq96
            refine a_callVi C (i := 236) kd_236 (hid 236 (by decide)) ⟨_, _, rfl⟩ (by decide) (S_X12_keeps_236 hid hGq96 (by omega)) mi_X12_keeps ml_RX12_414 rfl rfl (Nat.le_of_ble_eq_true rfl) (Nat.le_of_ble_eq_true rfl) (Nat.le_of_ble_eq_true rfl) dX12_ways_129 (fun z5 σ6 q7 => ?_)
            rw [q7]
            refine a_iload_n C dX12_ways_132 (i := 3) rfl rfl ?_
            refine s_ic_eq C dX12_ways_133 (tgt := 139) rfl (fun c9 => ?_) (fun c9 => ?_)
            ·
              refine a_iload C dX12_ways_139 rfl ?_
              refine s_if_lt C dX12_ways_141 (tgt := 152) rfl (fun c10 => ?_) (fun c10 => ?_)
              ·
                refine s_iincU C dX12_ways_152 rfl (by decide) rfl (fun z11 => ?_)
                show AW ids ad ca Γ 155 [some (.ref (ad 236)), some (.int x1), some (.int x2), some (.int x3), some (.int x4), some (.int y80_5), some (.int z11), some (.int y80_7), some (.int y96_8), some (.int y96_9)] _ _
                refine AW.sub (vs' := [some (.ref (ad 236)), some (.int x1), some (.int x2), some (.int x3), some (.int x4), some (.int y80_5), some (.int z11), some (.int y80_7), none, none]) (lsub_of (by simp [lsubB])) ?_
                exact j155 _ z11 hGq96 hoq96 (by omega) (by omega) (show 1 ≤ (σq96.1 236 57).toInt by omega)
              ·
                refine a_aload_n C dX12_ways_144 (i := 0) rfl rfl ?_
                refine a_get C fl_RX12_116 (i := 236) kd_236 (hid 236 (by decide)) (v := .ref (ad 269)) rfl dX12_ways_145 ?_
                refine a_iload C dX12_ways_148 rfl ?_
                refine s_iald C (i := 269) kd_269 (hid 269 (by decide)) al_269 (by omega) (by omega) dX12_ways_150 (fun n13 h14 => ?_)
                refine s_val (fun z15 e16 => ?_)
                have g17 := bA_269 hGq96 n13
                rw [e16] at g17
                exact a_iret Rt dX12_ways_151 rfl (⟨hGq96, hoq96⟩)
            ·
              refine a_goto C dX12_ways_136 (tgt := 155) rfl ?_
              refine AW.sub (vs' := [some (.ref (ad 236)), some (.int x1), some (.int x2), some (.int x3), some (.int x4), some (.int y80_5), some (.int y80_6), some (.int y80_7), none, none]) (lsub_of (by simp [lsubB])) ?_
              exact j155 _ y80_6 hGq96 hoq96 (by omega) (by omega) (show 1 ≤ (σq96.1 236 57).toInt by omega)
          ·
            refine a_aload_n C dX12_ways_101 (i := 0) rfl rfl ?_
            refine a_get C fl_RX12_116 (i := 236) kd_236 (hid 236 (by decide)) (v := .ref (ad 269)) rfl dX12_ways_102 ?_
            refine a_iload C dX12_ways_105 rfl ?_
            refine a_iload C dX12_ways_107 rfl ?_
            refine a_iload_n C dX12_ways_109 (i := 2) rfl rfl ?_
            refine s_iconst C dX12_ways_110 (1) (by decide) (fun z18 h19 => ?_)
            refine s_iadd C dX12_ways_111 (by omega) (fun z20 h21 => ?_)
            refine s_irem C dX12_ways_112 (by omega) (by omega) (fun z22 h23 => ?_)
            refine s_iast C (i := 269) kd_269 (hid 269 (by decide)) al_269 (by omega) (by omega) dX12_ways_113 (fun n24 h25 => ?_)
            have hG26 := wA_269 (v := z22) (j := n24) hGq96 (by omega) (by omega)
            refine a_iload C dX12_ways_114 rfl ?_
            refine a_iload_n C dX12_ways_116 (i := 2) rfl rfl ?_
            refine s_iconst C dX12_ways_117 (1) (by decide) (fun z27 h28 => ?_)
            refine s_iadd C dX12_ways_118 (by omega) (fun z29 h30 => ?_)
            refine s_idivB C dX12_ways_119 (by omega) (by omega) (fun z31 h32 => ?_)
            refine a_istore C dX12_ways_120 (by decide) rfl (vs1 := [some (.ref (ad 236)), some (.int x1), some (.int x2), some (.int x3), some (.int x4), some (.int y80_5), some (.int y80_6), some (.int y80_7), some (.int z31), some (.int y96_9)]) rfl ?_
            refine s_iinc C dX12_ways_122 rfl (-1) (by decide) (by omega) (by decide) rfl (fun z33 h34 => ?_)
            show AW ids ad ca Γ 125 [some (.ref (ad 236)), some (.int x1), some (.int x2), some (.int x3), some (.int x4), some (.int y80_5), some (.int y80_6), some (.int y80_7), some (.int z31), some (.int z33)] _ _
            refine a_goto C dX12_ways_125 (tgt := 96) rfl ?_
            have g35 := bF_236_57 hGq96
            exact ih96 _ z31 z33 (by omega) hG26 (onm.I hoq96 (by decide)) (by omega) (by omega) (by omega) (by omega) (show 1 ≤ (σq96.1 236 57).toInt by omega)
      refine a_iload C dX12_ways_80 rfl ?_
      refine a_iload C dX12_ways_82 rfl ?_
      refine s_ic_ge C dX12_ways_84 (tgt := 161) rfl (fun c36 => ?_) (fun c36 => ?_)
      ·
        refine a_iload C dX12_ways_161 rfl ?_
        refine s_iconst C dX12_ways_163 (-1) (by decide) (fun z37 h38 => ?_)
        refine s_ic_ne C dX12_ways_164 (tgt := 172) rfl (fun c39 => ?_) (fun c39 => ?_)
        ·
          refine s_bipush C dX12_ways_172 (-2) (by decide) (fun z40 h41 => ?_)
          exact a_iret Rt dX12_ways_174 rfl (⟨hGq80, hoq80⟩)
        ·
          refine a_iload C dX12_ways_167 rfl ?_
          refine a_goto C dX12_ways_169 (tgt := 174) rfl ?_
          exact a_iret Rt dX12_ways_174 rfl (⟨hGq80, hoq80⟩)
      ·
        refine a_iload C dX12_ways_87 rfl ?_
        refine a_istore C dX12_ways_89 (by decide) rfl (vs1 := [some (.ref (ad 236)), some (.int x1), some (.int x2), some (.int x3), some (.int x4), some (.int y80_5), some (.int y80_6), some (.int y80_7), some (.int y80_7), none]) rfl ?_
        refine a_iload_n C dX12_ways_91 (i := 1) rfl rfl ?_
        refine s_iconst C dX12_ways_92 (1) (by decide) (fun z42 h43 => ?_)
        refine s_isub C dX12_ways_93 (by omega) (fun z44 h45 => ?_)
        refine a_istore C dX12_ways_94 (by decide) rfl (vs1 := [some (.ref (ad 236)), some (.int x1), some (.int x2), some (.int x3), some (.int x4), some (.int y80_5), some (.int y80_6), some (.int y80_7), some (.int y80_7), some (.int z44)]) rfl ?_
        have g46 := bF_236_57 hGq80
        exact j96 100000 _ y80_7 z44 (by omega) hGq80 hoq80 (by omega) (by omega) (by omega) (by omega) (show 1 ≤ (σq80.1 236 57).toInt by omega)
  have j49 : ∀ (d49 : Nat) (σq49 : HS) (y49_5 : Int32) (y49_6 : Int32), 5 - y49_6.toInt < d49 → GIm σq49 → onm [269, 1057] σ σq49 → 0 ≤ y49_5.toInt ∧ y49_5.toInt ≤ 32768 → 0 ≤ y49_6.toInt ∧ y49_6.toInt ≤ 5 → 1 ≤ x1.toInt ∧ x1.toInt ≤ 5 → 1 ≤ x2.toInt ∧ x2.toInt ≤ 7 → -1 ≤ x4.toInt ∧ x4.toInt ≤ 4 → (y49_6.toInt ≤ 0 → y49_5.toInt ≤ 1) → (y49_6.toInt ≤ 1 → y49_5.toInt ≤ 8) → (y49_6.toInt ≤ 2 → y49_5.toInt ≤ 64) → (y49_6.toInt ≤ 3 → y49_5.toInt ≤ 512) → (y49_6.toInt ≤ 4 → y49_5.toInt ≤ 4096) → (y49_6.toInt ≤ 5 → y49_5.toInt ≤ 32768) → AW ids ad ca Γ 49 [some (.ref (ad 236)), some (.int x1), some (.int x2), some (.int x3), some (.int x4), some (.int y49_5), some (.int y49_6), none, none, none] [] σq49 := by
    intro d49
    induction d49 with
    | zero =>
      intro σq49 y49_5 y49_6 hd49 hGq49 hoq49 hx49_0 hx49_1 hx49_2 hx49_3 hx49_4 hx49_5 hx49_6 hx49_7 hx49_8 hx49_9 hx49_10
      exfalso
      omega
    | succ d49 ih49 =>
      intro σq49 y49_5 y49_6 hd49 hGq49 hoq49 hx49_0 hx49_1 hx49_2 hx49_3 hx49_4 hx49_5 hx49_6 hx49_7 hx49_8 hx49_9 hx49_10
      refine a_iload C dX12_ways_49 rfl ?_
      refine a_iload_n C dX12_ways_51 (i := 1) rfl rfl ?_
      refine s_ic_ge C dX12_ways_52 (tgt := 69) rfl (fun c47 => ?_) (fun c47 => ?_)
      ·
        refine a_aload_n C dX12_ways_69 (i := 0) rfl rfl ?_
        refine a_iload_n C dX12_ways_70 (i := 1) rfl rfl ?_
        refine a_put C fp_RX12_408 (i := 236) kd_236 (hid 236 (by decide)) rfl rfl dX12_ways_71 ?_
        have hG48 := wF_236_57 (v := x1) hGq49 (by omega) (by omega)
        refine s_iconst C dX12_ways_74 (0) (by decide) (fun z49 h50 => ?_)
        refine a_istore C dX12_ways_75 (by decide) rfl (vs1 := [some (.ref (ad 236)), some (.int x1), some (.int x2), some (.int x3), some (.int x4), some (.int y49_5), some (.int z49), none, none, none]) rfl ?_
        refine s_iconst C dX12_ways_77 (0) (by decide) (fun z51 h52 => ?_)
        refine a_istore C dX12_ways_78 (by decide) rfl (vs1 := [some (.ref (ad 236)), some (.int x1), some (.int x2), some (.int x3), some (.int x4), some (.int y49_5), some (.int z49), some (.int z51), none, none]) rfl ?_
        exact j80 100000 _ y49_5 z49 z51 (by omega) hG48 (onm.F hoq49 (by decide)) (by omega) (by omega) (by omega) (by omega) (by omega) (show 1 ≤ x1.toInt by omega)
      ·
        refine a_iload C dX12_ways_55 rfl ?_
        refine a_iload_n C dX12_ways_57 (i := 2) rfl rfl ?_
        refine s_iconst C dX12_ways_58 (1) (by decide) (fun z53 h54 => ?_)
        refine s_iadd C dX12_ways_59 (by omega) (fun z55 h56 => ?_)
        refine s_imulB C dX12_ways_60 32768 8 (by omega) (by omega) (by decide) (fun z57 h58 => ?_)
        refine a_istore C dX12_ways_61 (by decide) rfl (vs1 := [some (.ref (ad 236)), some (.int x1), some (.int x2), some (.int x3), some (.int x4), some (.int z57), some (.int y49_6), none, none, none]) rfl ?_
        refine s_iinc C dX12_ways_63 rfl (1) (by decide) (by omega) (by decide) rfl (fun z59 h60 => ?_)
        show AW ids ad ca Γ 66 [some (.ref (ad 236)), some (.int x1), some (.int x2), some (.int x3), some (.int x4), some (.int z57), some (.int z59), none, none, none] _ _
        refine a_goto C dX12_ways_66 (tgt := 49) rfl ?_
        exact ih49 _ z57 z59 (by omega) hGq49 hoq49 (by omega) (by omega) (by omega) (by omega) (by omega) (show z59.toInt ≤ 0 → z57.toInt ≤ 1 by omega) (show z59.toInt ≤ 1 → z57.toInt ≤ 8 by omega) (show z59.toInt ≤ 2 → z57.toInt ≤ 64 by omega) (show z59.toInt ≤ 3 → z57.toInt ≤ 512 by omega) (show z59.toInt ≤ 4 → z57.toInt ≤ 4096 by omega) (show z59.toInt ≤ 5 → z57.toInt ≤ 32768 by omega)
  refine a_iload_n C dX12_ways_0 (i := 1) rfl rfl ?_
  refine s_iconst C dX12_ways_1 (1) (by decide) (fun z61 h62 => ?_)
  refine s_iconst C dX12_ways_2 (5) (by decide) (fun z63 h64 => ?_)
  refine a_callSi C (S_X12_in (x1 := x1) (x2 := z61) (x3 := z63) hid hG) ms_X12_in ml_RX12_301 rfl rfl (Nat.le_of_ble_eq_true rfl) (Nat.le_of_ble_eq_true rfl) (Nat.le_of_ble_eq_true rfl) dX12_ways_3 (fun z65 σ66 q67 => ?_)
  obtain ⟨w68, w69, w70⟩ := q67
  rw [w68]
  refine s_if_eq C dX12_ways_6 (tgt := 41) rfl (fun c71 => ?_) (fun c71 => ?_)
  ·
    refine s_iconst C dX12_ways_41 (-1) (by decide) (fun z72 h73 => ?_)
    exact a_iret Rt dX12_ways_42 rfl (⟨hG, onm.rf⟩)
  ·
    refine a_iload_n C dX12_ways_9 (i := 2) rfl rfl ?_
    refine s_iconst C dX12_ways_10 (1) (by decide) (fun z74 h75 => ?_)
    refine s_bipush C dX12_ways_11 (7) (by decide) (fun z76 h77 => ?_)
    refine a_callSi C (S_X12_in (x1 := x2) (x2 := z74) (x3 := z76) hid hG) ms_X12_in ml_RX12_301 rfl rfl (Nat.le_of_ble_eq_true rfl) (Nat.le_of_ble_eq_true rfl) (Nat.le_of_ble_eq_true rfl) dX12_ways_13 (fun z78 σ79 q80 => ?_)
    obtain ⟨w81, w82, w83⟩ := q80
    rw [w81]
    refine s_if_eq C dX12_ways_16 (tgt := 41) rfl (fun c84 => ?_) (fun c84 => ?_)
    ·
      refine s_iconst C dX12_ways_41 (-1) (by decide) (fun z85 h86 => ?_)
      exact a_iret Rt dX12_ways_42 rfl (⟨hG, onm.rf⟩)
    ·
      refine a_iload_n C dX12_ways_19 (i := 3) rfl rfl ?_
      refine s_iconst C dX12_ways_20 (0) (by decide) (fun z87 h88 => ?_)
      refine s_bipush C dX12_ways_21 (7) (by decide) (fun z89 h90 => ?_)
      refine a_callSi C (S_X12_in (x1 := x3) (x2 := z87) (x3 := z89) hid hG) ms_X12_in ml_RX12_301 rfl rfl (Nat.le_of_ble_eq_true rfl) (Nat.le_of_ble_eq_true rfl) (Nat.le_of_ble_eq_true rfl) dX12_ways_23 (fun z91 σ92 q93 => ?_)
      obtain ⟨w94, w95, w96⟩ := q93
      rw [w94]
      refine s_if_eq C dX12_ways_26 (tgt := 41) rfl (fun c97 => ?_) (fun c97 => ?_)
      ·
        refine s_iconst C dX12_ways_41 (-1) (by decide) (fun z98 h99 => ?_)
        exact a_iret Rt dX12_ways_42 rfl (⟨hG, onm.rf⟩)
      ·
        refine a_iload C dX12_ways_29 rfl ?_
        refine s_iconst C dX12_ways_31 (-1) (by decide) (fun z100 h101 => ?_)
        refine a_iload_n C dX12_ways_32 (i := 1) rfl rfl ?_
        refine s_iconst C dX12_ways_33 (1) (by decide) (fun z102 h103 => ?_)
        refine s_isub C dX12_ways_34 (by omega) (fun z104 h105 => ?_)
        refine a_callSi C (S_X12_in (x1 := x4) (x2 := z100) (x3 := z104) hid hG) ms_X12_in ml_RX12_301 rfl rfl (Nat.le_of_ble_eq_true rfl) (Nat.le_of_ble_eq_true rfl) (Nat.le_of_ble_eq_true rfl) dX12_ways_35 (fun z106 σ107 q108 => ?_)
        obtain ⟨w109, w110, w111⟩ := q108
        rw [w109]
        refine s_if_ne C dX12_ways_38 (tgt := 43) rfl (fun c112 => ?_) (fun c112 => ?_)
        ·
          refine s_iconst C dX12_ways_43 (1) (by decide) (fun z113 h114 => ?_)
          refine a_istore C dX12_ways_44 (by decide) rfl (vs1 := [some (.ref (ad 236)), some (.int x1), some (.int x2), some (.int x3), some (.int x4), some (.int z113), none, none, none, none]) rfl ?_
          refine s_iconst C dX12_ways_46 (0) (by decide) (fun z115 h116 => ?_)
          refine a_istore C dX12_ways_47 (by decide) rfl (vs1 := [some (.ref (ad 236)), some (.int x1), some (.int x2), some (.int x3), some (.int x4), some (.int z113), some (.int z115), none, none, none]) rfl ?_
          exact j49 100000 _ z113 z115 (by omega) hG onm.rf (by omega) (by omega) (by omega) (by omega) (by omega) (show z115.toInt ≤ 0 → z113.toInt ≤ 1 by omega) (show z115.toInt ≤ 1 → z113.toInt ≤ 8 by omega) (show z115.toInt ≤ 2 → z113.toInt ≤ 64 by omega) (show z115.toInt ≤ 3 → z113.toInt ≤ 512 by omega) (show z115.toInt ≤ 4 → z113.toInt ≤ 4096 by omega) (show z115.toInt ≤ 5 → z113.toInt ≤ 32768 by omega)
        ·
          refine s_iconst C dX12_ways_41 (-1) (by decide) (fun z117 h118 => ?_)
          exact a_iret Rt dX12_ways_42 rfl (⟨hG, onm.rf⟩)
