theorem dX12_begins_36 : decode cX12_begins 36 = .ok (.aload_n 0, 1) := by decide +kernel
theorem dX12_begins_37 : decode cX12_begins 37 = .ok (.getfield 110, 3) := by decide +kernel
theorem dX12_begins_40 : decode cX12_begins 40 = .ok (.bipush 7, 2) := by decide +kernel
theorem dX12_begins_42 : decode cX12_begins 42 = .ok (.iload_n 1, 1) := by decide +kernel
theorem dX12_begins_43 : decode cX12_begins 43 = .ok (.iadd, 1) := by decide +kernel
theorem dX12_begins_44 : decode cX12_begins 44 = .ok (.aload_n 0, 1) := by decide +kernel
theorem dX12_begins_45 : decode cX12_begins 45 = .ok (.getfield 52, 3) := by decide +kernel
theorem dX12_begins_48 : decode cX12_begins 48 = .ok (.bipush 7, 2) := by decide +kernel
theorem dX12_begins_50 : decode cX12_begins 50 = .ok (.aload_n 0, 1) := by decide +kernel
theorem dX12_begins_51 : decode cX12_begins 51 = .ok (.getfield 221, 3) := by decide +kernel
theorem dX12_begins_54 : decode cX12_begins 54 = .ok (.imul, 1) := by decide +kernel
theorem dX12_begins_55 : decode cX12_begins 55 = .ok (.iload_n 1, 1) := by decide +kernel
theorem dX12_begins_56 : decode cX12_begins 56 = .ok (.iadd, 1) := by decide +kernel
theorem dX12_begins_57 : decode cX12_begins 57 = .ok (.iaload, 1) := by decide +kernel
theorem dX12_begins_58 : decode cX12_begins 58 = .ok (.iastore, 1) := by decide +kernel
theorem dX12_begins_59 : decode cX12_begins 59 = .ok (.iinc 1 1, 3) := by decide +kernel
theorem dX12_begins_62 : decode cX12_begins 62 = .ok (.goto (-39), 3) := by decide +kernel
theorem dX12_begins_83 : decode cX12_begins 83 = .ok (.iconst 0, 1) := by decide +kernel
theorem dX12_begins_84 : decode cX12_begins 84 = .ok (.goto 5, 3) := by decide +kernel
set_option maxHeartbeats 4000000 in
set_option maxRecDepth 100000 in
theorem S_X12_begins_236 {l : Launch} {D : va_G} {ids : List Nat} {ad : Nat → Nat} {ca : Nat → ClassId} {σ : HS} (hid : ∀ i, i < 277 → i ∈ ids) (hG : GIm σ) : Kv l D ids ad ca yX12_begins cX12_begins 2 0 0 [.ref (ad 236)] σ (fun σ1 => (GIm σ1) ∧ (onm [267, 1049, 1050, 2021, 2026, 2027] σ σ1) ∧ ((σ1.1 267 21).toInt = 0) ∧ ((σ1.1 267 27).toInt = 0) ∧ ((σ1.1 267 26).toInt < plm σ)) := by
  refine Kv.of (by decide) (Nat.le_of_ble_eq_true rfl) 1 (fun Γ C Rt => ?_)
  show AW ids ad ca Γ 0 [some (.ref (ad 236)), none] [] σ
  have j89 : ∀ (σq89 : HS) (u89_0 : Int32) (u89_1 : Int32), GIm σq89 → onm [267, 1049, 1050, 2021, 2026, 2027] σ σq89 → -2 ≤ u89_0.toInt ∧ u89_0.toInt ≤ 0 → 26 ≤ u89_1.toInt ∧ u89_1.toInt ≤ 26 → ((σq89.1 267 21).toInt = 0) → ((σq89.1 267 27).toInt = 0) → (u89_0.toInt < plm σ) → AW ids ad ca Γ 89 [some (.ref (ad 236)), none] [.int u89_0, .int u89_1, .ref (ad 267)] σq89 := by
    intro σq89 u89_0 u89_1 hGq89 hoq89 hx89_0 hx89_1 hx89_2 hx89_3 hx89_4
    refine s_iast C (i := 267) kd_267 (hid 267 (by decide)) al_267 (by omega) (by omega) dX12_begins_89 (fun n1 h2 => ?_)
    obtain rfl : n1 = 26 := by omega
    have hG3 := wA_267 (v := u89_0) (j := 26) hGq89
    refine a_aload_n C dX12_begins_90 (i := 0) rfl rfl ?_
    refine a_get C fl_RX12_110 (i := 236) kd_236 (hid 236 (by decide)) (v := .ref (ad 267)) rfl dX12_begins_91 ?_
    refine s_bipush C dX12_begins_94 (28) (by decide) (fun z4 h5 => ?_)
    refine s_iconst C dX12_begins_96 (-1) (by decide) (fun z6 h7 => ?_)
    refine s_iast C (i := 267) kd_267 (hid 267 (by decide)) al_267 (by omega) (by omega) dX12_begins_97 (fun n8 h9 => ?_)
    obtain rfl : n8 = 28 := by omega
    have hG10 := wA_267 (v := z6) (j := 28) hG3
    refine a_aload_n C dX12_begins_98 (i := 0) rfl rfl ?_
    refine a_aload_n C dX12_begins_99 (i := 0) rfl rfl ?_
    refine a_get C fl_RX12_67 (i := 236) kd_236 (hid 236 (by decide)) (v := .ref (ad 253)) rfl dX12_begins_100 ?_
    refine a_aload_n C dX12_begins_103 (i := 0) rfl rfl ?_
    have g11 := bF_236_18 hGq89
    have g12 : (σq89.1 236 18).toInt = (σ.1 236 18).toInt := congrArg Int32.toInt (hoq89.1 236 18 (by decide))
    refine a_get C fl_RX12_221 (i := 236) kd_236 (hid 236 (by decide)) (v := .int (σq89.1 236 18)) rfl dX12_begins_104 ?_
    refine s_iald C (i := 253) kd_253 (hid 253 (by decide)) al_253 (by omega) (by omega) dX12_begins_107 (fun n13 h14 => ?_)
    refine s_val (fun z15 e16 => ?_)
    refine a_put C fp_RX12_305 (i := 236) kd_236 (hid 236 (by decide)) rfl rfl dX12_begins_108 ?_
    have hG17 := wF_236_49 (v := z15) hG10
    refine a_aload_n C dX12_begins_111 (i := 0) rfl rfl ?_
    refine s_iconst C dX12_begins_112 (0) (by decide) (fun z18 h19 => ?_)
    refine a_put C fp_RX12_308 (i := 236) kd_236 (hid 236 (by decide)) (nar_z (by omega)).1 (nar_z (by omega)).2 dX12_begins_113 ?_
    have hG20 := wF_236_50 (v := z18) hG17
    exact a_vret Rt dX12_begins_116 (⟨hG20, (onm.F (onm.F (onm.R (onm.C hoq89 (by decide)) (by decide) (by omega)) (by decide)) (by decide)), (show ((hI (hI (hI (hI σq89 267 26 u89_0) 267 28 z6) 236 49 z15) 236 50 z18).1 267 21).toInt = 0 by have e21 := congrArg Int32.toInt (show ((hI (hI (hI (hI σq89 267 26 u89_0) 267 28 z6) 236 49 z15) 236 50 z18).1 267 21) = (σq89.1 267 21) from (show _ = (σq89.1 267 21) from ((congrFun (hI_o (by decide)) 21).trans ((congrFun (hI_o (by decide)) 21).trans ((hI_n (by decide)).trans (hI_n (by decide))))))); intros; omega), (show ((hI (hI (hI (hI σq89 267 26 u89_0) 267 28 z6) 236 49 z15) 236 50 z18).1 267 27).toInt = 0 by have e27 := congrArg Int32.toInt (show ((hI (hI (hI (hI σq89 267 26 u89_0) 267 28 z6) 236 49 z15) 236 50 z18).1 267 27) = (σq89.1 267 27) from (show _ = (σq89.1 267 27) from ((congrFun (hI_o (by decide)) 27).trans ((congrFun (hI_o (by decide)) 27).trans ((hI_n (by decide)).trans (hI_n (by decide))))))); intros; omega), (show ((hI (hI (hI (hI σq89 267 26 u89_0) 267 28 z6) 236 49 z15) 236 50 z18).1 267 26).toInt < plm σ by have e26 := congrArg Int32.toInt (show ((hI (hI (hI (hI σq89 267 26 u89_0) 267 28 z6) 236 49 z15) 236 50 z18).1 267 26) = u89_0 from (show _ = u89_0 from ((congrFun (hI_o (by decide)) 26).trans ((congrFun (hI_o (by decide)) 26).trans ((hI_n (by decide)).trans hI_s))))); intros; omega)⟩)
  have j23 : ∀ (d23 : Nat) (σq23 : HS) (y23_1 : Int32), 7 - y23_1.toInt < d23 → GIm σq23 → onm [267, 1049, 1050, 2021, 2026, 2027] σ σq23 → 0 ≤ y23_1.toInt ∧ y23_1.toInt ≤ 7 → ((σq23.1 267 21).toInt = 0) → ((σq23.1 267 27).toInt = 0) → AW ids ad ca Γ 23 [some (.ref (ad 236)), some (.int y23_1)] [] σq23 := by
    intro d23
    induction d23 with
    | zero =>
      intro σq23 y23_1 hd23 hGq23 hoq23 hx23_0 hx23_1 hx23_2
      exfalso
      omega
    | succ d23 ih23 =>
      intro σq23 y23_1 hd23 hGq23 hoq23 hx23_0 hx23_1 hx23_2
      refine a_iload_n C dX12_begins_23 (i := 1) rfl rfl ?_
      refine a_aload_n C dX12_begins_24 (i := 0) rfl rfl ?_
      refine a_get C fl_RX12_43 (i := 236) kd_236 (hid 236 (by decide)) (v := .ref (ad 245)) rfl dX12_begins_25 ?_
      refine a_aload_n C dX12_begins_28 (i := 0) rfl rfl ?_
      have g21 := bF_236_18 hGq23
      have g22 : (σq23.1 236 18).toInt = (σ.1 236 18).toInt := congrArg Int32.toInt (hoq23.1 236 18 (by decide))
      refine a_get C fl_RX12_221 (i := 236) kd_236 (hid 236 (by decide)) (v := .int (σq23.1 236 18)) rfl dX12_begins_29 ?_
      refine s_iald C (i := 245) kd_245 (hid 245 (by decide)) al_245 (by omega) (by omega) dX12_begins_32 (fun n23 h24 => ?_)
      refine s_val (fun z25 e26 => ?_)
      have g27 := bA_245 hGq23 n23
      rw [e26] at g27
      refine s_ic_ge C dX12_begins_33 (tgt := 65) rfl (fun c28 => ?_) (fun c28 => ?_)
      ·
        refine a_aload_n C dX12_begins_65 (i := 0) rfl rfl ?_
        refine a_get C fl_RX12_110 (i := 236) kd_236 (hid 236 (by decide)) (v := .ref (ad 267)) rfl dX12_begins_66 ?_
        refine s_bipush C dX12_begins_69 (26) (by decide) (fun z29 h30 => ?_)
        refine a_aload_n C dX12_begins_71 (i := 0) rfl rfl ?_
        refine a_get C fl_RX12_55 (i := 236) kd_236 (hid 236 (by decide)) (v := .ref (ad 249)) rfl dX12_begins_72 ?_
        refine a_aload_n C dX12_begins_75 (i := 0) rfl rfl ?_
        refine a_get C fl_RX12_221 (i := 236) kd_236 (hid 236 (by decide)) (v := .int (σq23.1 236 18)) rfl dX12_begins_76 ?_
        refine s_iald C (i := 249) kd_249 (hid 249 (by decide)) al_249 (by omega) (by omega) dX12_begins_79 (fun n31 h32 => ?_)
        refine s_val (fun z33 e34 => ?_)
        have g35 := bA_249 hGq23 n31
        rw [e34] at g35
        have gp : plm σq23 = z33.toInt := by unfold plm; rw [show (σq23.1 236 18).toInt.toNat = n31 by omega, e34]
        have gp2 := onm.pl (hoq23 : onm [267, 1049, 1050, 2021, 2026, 2027] σ _) (by decide)
        refine s_if_le C dX12_begins_80 (tgt := 87) rfl (fun c36 => ?_) (fun c36 => ?_)
        ·
          refine s_bipush C dX12_begins_87 (-2) (by decide) (fun z37 h38 => ?_)
          refine AW.sub (vs' := [some (.ref (ad 236)), none]) (lsub_of (by simp [lsubB])) ?_
          exact j89 _ z37 z29 hGq23 hoq23 (by omega) (by omega) (show (σq23.1 267 21).toInt = 0 by omega) (show (σq23.1 267 27).toInt = 0 by omega) (show z37.toInt < plm σ by omega)
        ·
          refine s_iconst C dX12_begins_83 (0) (by decide) (fun z39 h40 => ?_)
          refine a_goto C dX12_begins_84 (tgt := 89) rfl ?_
          refine AW.sub (vs' := [some (.ref (ad 236)), none]) (lsub_of (by simp [lsubB])) ?_
          exact j89 _ z39 z29 hGq23 hoq23 (by omega) (by omega) (show (σq23.1 267 21).toInt = 0 by omega) (show (σq23.1 267 27).toInt = 0 by omega) (show z39.toInt < plm σ by omega)
      ·
        refine a_aload_n C dX12_begins_36 (i := 0) rfl rfl ?_
        refine a_get C fl_RX12_110 (i := 236) kd_236 (hid 236 (by decide)) (v := .ref (ad 267)) rfl dX12_begins_37 ?_
        refine s_bipush C dX12_begins_40 (7) (by decide) (fun z41 h42 => ?_)
        refine a_iload_n C dX12_begins_42 (i := 1) rfl rfl ?_
        refine s_iadd C dX12_begins_43 (by omega) (fun z43 h44 => ?_)
        refine a_aload_n C dX12_begins_44 (i := 0) rfl rfl ?_
        refine a_get C fl_RX12_52 (i := 236) kd_236 (hid 236 (by decide)) (v := .ref (ad 248)) rfl dX12_begins_45 ?_
        refine s_bipush C dX12_begins_48 (7) (by decide) (fun z45 h46 => ?_)
        refine a_aload_n C dX12_begins_50 (i := 0) rfl rfl ?_
        refine a_get C fl_RX12_221 (i := 236) kd_236 (hid 236 (by decide)) (v := .int (σq23.1 236 18)) rfl dX12_begins_51 ?_
        refine s_imuld C dX12_begins_54 (7) (by omega) (by omega) (fun z47 h48 => ?_)
        refine a_iload_n C dX12_begins_55 (i := 1) rfl rfl ?_
        refine s_iadd C dX12_begins_56 (by omega) (fun z49 h50 => ?_)
        refine s_iald C (i := 248) kd_248 (hid 248 (by decide)) al_248 (by omega) (by omega) dX12_begins_57 (fun n51 h52 => ?_)
        refine s_val (fun z53 e54 => ?_)
        refine s_iast C (i := 267) kd_267 (hid 267 (by decide)) al_267 (by omega) (by omega) dX12_begins_58 (fun n55 h56 => ?_)
        have hG57 := wA_267 (v := z53) (j := n55) hGq23
        refine s_iinc C dX12_begins_59 rfl (1) (by decide) (by omega) (by decide) rfl (fun z58 h59 => ?_)
        show AW ids ad ca Γ 62 [some (.ref (ad 236)), some (.int z58)] _ _
        refine a_goto C dX12_begins_62 (tgt := 23) rfl ?_
        exact ih23 _ z58 (by omega) hG57 (onm.R hoq23 (by decide) (by omega)) (by omega) (show ((hI σq23 267 n55 z53).1 267 21).toInt = 0 by have e21 := congrArg Int32.toInt (show ((hI σq23 267 n55 z53).1 267 21) = (σq23.1 267 21) from (show _ = (σq23.1 267 21) from (hI_n (by omega)))); omega) (show ((hI σq23 267 n55 z53).1 267 27).toInt = 0 by have e27 := congrArg Int32.toInt (show ((hI σq23 267 n55 z53).1 267 27) = (σq23.1 267 27) from (show _ = (σq23.1 267 27) from (hI_n (by omega)))); omega)
  have j2 : ∀ (d2 : Nat) (σq2 : HS) (y2_1 : Int32), 29 - y2_1.toInt < d2 → GIm σq2 → onm [267, 1049, 1050, 2021, 2026, 2027] σ σq2 → 0 ≤ y2_1.toInt ∧ y2_1.toInt ≤ 29 → (∀ q : Nat, (q : Int) < y2_1.toInt → (σq2.1 267 q).toInt = 0) → AW ids ad ca Γ 2 [some (.ref (ad 236)), some (.int y2_1)] [] σq2 := by
    intro d2
    induction d2 with
    | zero =>
      intro σq2 y2_1 hd2 hGq2 hoq2 hx2_0 hx2_1
      exfalso
      omega
    | succ d2 ih2 =>
      intro σq2 y2_1 hd2 hGq2 hoq2 hx2_0 hx2_1
      refine a_iload_n C dX12_begins_2 (i := 1) rfl rfl ?_
      refine s_bipush C dX12_begins_3 (29) (by decide) (fun z60 h61 => ?_)
      refine s_ic_ge C dX12_begins_5 (tgt := 21) rfl (fun c62 => ?_) (fun c62 => ?_)
      ·
        have g21 := hx2_1 21 (by omega)
        have g27 := hx2_1 27 (by omega)
        refine s_iconst C dX12_begins_21 (0) (by decide) (fun z63 h64 => ?_)
        refine a_istore_n C dX12_begins_22 (i := 1) rfl (by decide) rfl (vs1 := [some (.ref (ad 236)), some (.int z63)]) rfl ?_
        exact j23 100000 _ z63 (by omega) hGq2 hoq2 (by omega) (show (σq2.1 267 21).toInt = 0 by omega) (show (σq2.1 267 27).toInt = 0 by omega)
      ·
        refine a_aload_n C dX12_begins_8 (i := 0) rfl rfl ?_
        refine a_get C fl_RX12_110 (i := 236) kd_236 (hid 236 (by decide)) (v := .ref (ad 267)) rfl dX12_begins_9 ?_
        refine a_iload_n C dX12_begins_12 (i := 1) rfl rfl ?_
        refine s_iconst C dX12_begins_13 (0) (by decide) (fun z65 h66 => ?_)
        refine s_iast C (i := 267) kd_267 (hid 267 (by decide)) al_267 (by omega) (by omega) dX12_begins_14 (fun n67 h68 => ?_)
        have hG69 := wA_267 (v := z65) (j := n67) hGq2
        refine s_iinc C dX12_begins_15 rfl (1) (by decide) (by omega) (by decide) rfl (fun z70 h71 => ?_)
        show AW ids ad ca Γ 18 [some (.ref (ad 236)), some (.int z70)] _ _
        refine a_goto C dX12_begins_18 (tgt := 2) rfl ?_
        exact ih2 _ z70 (by omega) hG69 (onm.RA hoq2 (by decide)) (by omega) (zr_step (n := n67) hx2_1 (by omega) (by omega) (by omega))
  refine s_iconst C dX12_begins_0 (0) (by decide) (fun z72 h73 => ?_)
  refine a_istore_n C dX12_begins_1 (i := 1) rfl (by decide) rfl (vs1 := [some (.ref (ad 236)), some (.int z72)]) rfl ?_
  exact j2 100000 _ z72 (by omega) hG onm.rf (by omega) (fun q hq => absurd hq (by omega))
theorem dX12_read_18 : decode cX12_read 18 = .ok (.aload_n 0, 1) := by decide +kernel
theorem dX12_read_19 : decode cX12_read 19 = .ok (.getfield 17, 3) := by decide +kernel
theorem dX12_read_22 : decode cX12_read 22 = .ok (.iload_n 1, 1) := by decide +kernel
theorem dX12_read_23 : decode cX12_read 23 = .ok (.aload_n 0, 1) := by decide +kernel
theorem dX12_read_24 : decode cX12_read 24 = .ok (.getfield 13, 3) := by decide +kernel
theorem dX12_read_27 : decode cX12_read 27 = .ok (.iload_n 1, 1) := by decide +kernel
theorem dX12_read_28 : decode cX12_read 28 = .ok (.baload, 1) := by decide +kernel
theorem dX12_read_29 : decode cX12_read 29 = .ok (.bastore, 1) := by decide +kernel
theorem dX12_read_30 : decode cX12_read 30 = .ok (.iinc 1 1, 3) := by decide +kernel
theorem dX12_read_33 : decode cX12_read 33 = .ok (.goto (-23), 3) := by decide +kernel
theorem dX12_read_127 : decode cX12_read 127 = .ok (.aload_n 0, 1) := by decide +kernel
theorem dX12_read_128 : decode cX12_read 128 = .ok (.invokevirtual 236, 3) := by decide +kernel
theorem dX12_read_131 : decode cX12_read 131 = .ok (.goto (-19), 3) := by decide +kernel
theorem dX12_read_142 : decode cX12_read 142 = .ok (.aload_n 0, 1) := by decide +kernel
theorem dX12_read_143 : decode cX12_read 143 = .ok (.getfield 197, 3) := by decide +kernel
theorem dX12_read_146 : decode cX12_read 146 = .ok (.goto 18, 3) := by decide +kernel
theorem dX12_read_156 : decode cX12_read 156 = .ok (.aload_n 0, 1) := by decide +kernel
theorem dX12_read_157 : decode cX12_read 157 = .ok (.getfield 203, 3) := by decide +kernel
theorem dX12_read_160 : decode cX12_read 160 = .ok (.goto 4, 3) := by decide +kernel
theorem dX12_read_174 : decode cX12_read 174 = .ok (.aload_n 0, 1) := by decide +kernel
theorem dX12_read_175 : decode cX12_read 175 = .ok (.getfield 191, 3) := by decide +kernel
theorem dX12_read_178 : decode cX12_read 178 = .ok (.ireturn, 1) := by decide +kernel
theorem dX12_read_186 : decode cX12_read 186 = .ok (.aload_n 0, 1) := by decide +kernel
theorem dX12_read_187 : decode cX12_read 187 = .ok (.getfield 200, 3) := by decide +kernel
theorem dX12_read_190 : decode cX12_read 190 = .ok (.ireturn, 1) := by decide +kernel
set_option maxHeartbeats 4000000 in
set_option maxRecDepth 100000 in
theorem S_X12_read_236 {l : Launch} {D : va_G} {ids : List Nat} {ad : Nat → Nat} {ca : Nat → ClassId} {σ : HS} {b : Int} (hid : ∀ i, i < 277 → i ∈ ids) (hG : GIm σ) {s : HS} (hR : AGm s σ) (hp0 : RKm b s) (hp1 : GIm s) : Ki l D ids ad ca yX12_read cX12_read 2 .int 7 147 [.ref (ad 236)] σ (fun r σ1 => (GIm σ1) ∧ (onm [238, 239, 240, 241, 242, 244, 245, 246, 247, 248, 249, 250, 251, 252, 253, 254, 255, 256, 257, 258, 259, 260, 261, 262, 263, 266, 267, 275, 1002, 1004, 1010, 1011, 1012, 1013, 1014, 1015, 1016, 1017, 1018, 1019, 1020, 1033, 1039, 1043, 1049, 1050, 1054, 1060, 2021, 2026, 2027] σ σ1) ∧ (RKm b σ1) ∧ ((σ1.1 236 2).toInt = 0)) := by
  refine Ki.of (by decide) (Nat.le_of_ble_eq_true rfl) 1 (fun Γ C Rt => ?_)
  show AW ids ad ca Γ 0 [some (.ref (ad 236)), none] [] σ
  have j219 : ∀ (d219 : Nat) (σq219 : HS) (y219_1 : Int32), 3 - y219_1.toInt < d219 → GIm σq219 → onm [238, 239, 240, 241, 242, 244, 245, 246, 247, 248, 249, 250, 251, 252, 253, 254, 255, 256, 257, 258, 259, 260, 261, 262, 263, 266, 267, 275, 1002, 1004, 1010, 1011, 1012, 1013, 1014, 1015, 1016, 1017, 1018, 1019, 1020, 1033, 1039, 1043, 1049, 1050, 1054, 1060, 2021, 2026, 2027] σ σq219 → 0 ≤ y219_1.toInt ∧ y219_1.toInt ≤ 3 → ((σq219.1 236 2).toInt = 0) → (RKp y219_1.toInt σq219) → AW ids ad ca Γ 219 [some (.ref (ad 236)), some (.int y219_1)] [] σq219 := by
    intro d219
    induction d219 with
    | zero =>
      intro σq219 y219_1 hd219 hGq219 hoq219 hx219_0 hx219_1 hx219_2
      exfalso
      omega
    | succ d219 ih219 =>
      intro σq219 y219_1 hd219 hGq219 hoq219 hx219_0 hx219_1 hx219_2
      refine a_iload_n C dX12_read_219 (i := 1) rfl rfl ?_
      refine s_iconst C dX12_read_220 (3) (by decide) (fun z1 h2 => ?_)
      refine s_ic_ge C dX12_read_221 (tgt := 237) rfl (fun c3 => ?_) (fun c3 => ?_)
      ·
        refine s_iconst C dX12_read_237 (0) (by decide) (fun z4 h5 => ?_)
        have g6 := bF_236_2 hGq219
        exact a_iret Rt dX12_read_238 rfl (⟨hGq219, hoq219, (RKp.fin hx219_2 (by omega) (by have e9 := hp0.now; omega)), (show (σq219.1 236 2).toInt = 0 by intros; omega)⟩)
      ·
        refine a_aload_n C dX12_read_224 (i := 0) rfl rfl ?_
        refine a_get C fl_RX12_134 (i := 236) kd_236 (hid 236 (by decide)) (v := .ref (ad 275)) rfl dX12_read_225 ?_
        refine a_iload_n C dX12_read_228 (i := 1) rfl rfl ?_
        refine s_iconst C dX12_read_229 (0) (by decide) (fun z7 h8 => ?_)
        refine s_zast C (i := 275) (nar_v (by omega)) kd_275 (hid 275 (by decide)) al_275 (by omega) (by omega) dX12_read_230 (fun n9 h10 => ?_)
        have hG11 := wA_275 (v := z7) (j := n9) hGq219
        refine s_iinc C dX12_read_231 rfl (1) (by decide) (by omega) (by decide) rfl (fun z12 h13 => ?_)
        show AW ids ad ca Γ 234 [some (.ref (ad 236)), some (.int z12)] _ _
        refine a_goto C dX12_read_234 (tgt := 219) rfl ?_
        have g14 := bF_236_2 hGq219
        exact ih219 _ z12 (by omega) hG11 (onm.I hoq219 (by decide)) (by omega) (show (σq219.1 236 2).toInt = 0 by omega) (RKp.st (n := n9) hx219_2 (by omega) (by omega) (by omega))
  have j164 : ∀ (σq164 : HS) (u164_0 : Int32), GIm σq164 → onm [238, 239, 240, 241, 242, 244, 245, 246, 247, 248, 249, 250, 251, 252, 253, 254, 255, 256, 257, 258, 259, 260, 261, 262, 263, 266, 267, 275, 1002, 1004, 1010, 1011, 1012, 1013, 1014, 1015, 1016, 1017, 1018, 1019, 1020, 1033, 1039, 1043, 1049, 1050, 1054, 1060, 2021, 2026, 2027] σ σq164 → AGm s σq164 → ((σq164.1 236 19).toInt + (s.1 236 18).toInt = 1) → ((σq164.1 236 2).toInt = 0) → (RDI σq164) → AW ids ad ca Γ 164 [some (.ref (ad 236)), none] [.int u164_0, .ref (ad 236)] σq164 := by
    intro σq164 u164_0 hGq164 hoq164 hRq164 hx164_0 hx164_1 hx164_2
    have g15 := bF_236_2 hGq164
    have g16 := bF_236_11 hGq164
    have g17 := bF_236_12 hGq164
    have g18 := bF_236_13 hGq164
    have g19 := bF_236_18 hGq164
    have g20 := bF_236_19 hGq164
    have g21 := bF_236_20 hGq164
    have gs164 := congrArg Int32.toInt hRq164.1.1
    refine a_put C fp_RX12_37 (i := 236) kd_236 (hid 236 (by decide)) rfl rfl dX12_read_164 ?_
    have hG22 := wF_236_17 (v := u164_0) hGq164
    have hR23 := AGm.ony (σ1 := hI _ 236 17 u164_0) hRq164 (onm.F (L := [1017]) onm.rf (by decide)) (by decide)
    refine a_aload_n C dX12_read_167 (i := 0) rfl rfl ?_
    refine a_get C fl_RX12_191 (i := 236) kd_236 (hid 236 (by decide)) (v := .int (σq164.1 236 13)) rfl dX12_read_168 ?_
    refine s_if_le C dX12_read_171 (tgt := 179) rfl (fun c24 => ?_) (fun c24 => ?_)
    ·
      refine a_aload_n C dX12_read_179 (i := 0) rfl rfl ?_
      refine a_get C fl_RX12_200 (i := 236) kd_236 (hid 236 (by decide)) (v := .int (σq164.1 236 15)) rfl dX12_read_180 ?_
      refine s_if_le C dX12_read_183 (tgt := 191) rfl (fun c25 => ?_) (fun c25 => ?_)
      ·
        refine a_aload_n C dX12_read_191 (i := 0) rfl rfl ?_
        refine a_aload_n C dX12_read_192 (i := 0) rfl rfl ?_
        refine a_get C fl_RX12_224 (i := 236) kd_236 (hid 236 (by decide)) (v := .int (σq164.1 236 19)) rfl dX12_read_193 ?_
        refine a_put C fp_RX12_221 (i := 236) kd_236 (hid 236 (by decide)) rfl rfl dX12_read_196 ?_
        have hG26 := wF_236_18 (v := (σq164.1 236 19)) hG22 (by omega) (by omega)
        refine a_aload_n C dX12_read_199 (i := 0) rfl rfl ?_
        refine a_callVv C (i := 236) kd_236 (hid 236 (by decide)) ⟨_, _, rfl⟩ (by decide) (S_X12_begins_236 hid hG26) mi_X12_begins ml_RX12_148 rfl rfl (Nat.le_of_ble_eq_true rfl) (Nat.le_of_ble_eq_true rfl) (Nat.le_of_ble_eq_true rfl) dX12_read_200 (fun σ28 q29 => ?_)
        obtain ⟨hG30, ho31, w33, w34, w35⟩ := q29
        have g36 := bF_236_18 hG30
        have g37 : (σ28.1 236 18).toInt = (σq164.1 236 19).toInt := congrArg Int32.toInt (ho31.1 236 18 (by decide))
        have g38 := bF_236_19 hG30
        have g39 : (σ28.1 236 19).toInt = (σq164.1 236 19).toInt := congrArg Int32.toInt (ho31.1 236 19 (by decide))
        have g40 := bF_236_13 hG30
        have g41 : (σ28.1 236 13).toInt = (σq164.1 236 13).toInt := congrArg Int32.toInt (ho31.1 236 13 (by decide))
        have g42 := bF_236_2 hG30
        have g43 : (σ28.1 236 2).toInt = (σq164.1 236 2).toInt := congrArg Int32.toInt (ho31.1 236 2 (by decide))
        refine a_aload_n C dX12_read_203 (i := 0) rfl rfl ?_
        refine a_callVv C (i := 236) kd_236 (hid 236 (by decide)) ⟨_, _, rfl⟩ (by decide) (S_X12_keepsRow_236 hid hG30) mi_X12_keepsRow ml_RX12_151 rfl rfl (Nat.le_of_ble_eq_true rfl) (Nat.le_of_ble_eq_true rfl) (Nat.le_of_ble_eq_true rfl) dX12_read_204 (fun σ45 q46 => ?_)
        obtain ⟨hG47, ho48, w50⟩ := q46
        have g51 := bF_236_18 hG47
        have g52 : (σ45.1 236 18).toInt = (σ28.1 236 18).toInt := congrArg Int32.toInt (ho48.1 236 18 (by decide))
        have g53 := bF_236_19 hG47
        have g54 : (σ45.1 236 19).toInt = (σ28.1 236 19).toInt := congrArg Int32.toInt (ho48.1 236 19 (by decide))
        have g55 := bF_236_13 hG47
        have g56 : (σ45.1 236 13).toInt = (σ28.1 236 13).toInt := congrArg Int32.toInt (ho48.1 236 13 (by decide))
        have g57 := bF_236_2 hG47
        have g58 : (σ45.1 236 2).toInt = (σ28.1 236 2).toInt := congrArg Int32.toInt (ho48.1 236 2 (by decide))
        refine a_aload_n C dX12_read_207 (i := 0) rfl rfl ?_
        refine s_iconst C dX12_read_208 (0) (by decide) (fun z59 h60 => ?_)
        refine a_put C fp_RX12_239 (i := 236) kd_236 (hid 236 (by decide)) rfl rfl dX12_read_209 ?_
        have hG61 := wF_236_54 (v := z59) hG47 (by omega) (by omega)
        refine a_aload_n C dX12_read_212 (i := 0) rfl rfl ?_
        refine s_iconst C dX12_read_213 (0) (by decide) (fun z62 h63 => ?_)
        refine a_put C fp_RX12_242 (i := 236) kd_236 (hid 236 (by decide)) rfl rfl dX12_read_214 ?_
        have hG64 := wF_236_60 (v := z62) hG61 (by omega) (by omega)
        refine s_iconst C dX12_read_217 (0) (by decide) (fun z65 h66 => ?_)
        refine a_istore_n C dX12_read_218 (i := 1) rfl (by decide) rfl (vs1 := [some (.ref (ad 236)), some (.int z65)]) rfl ?_
        have g67 : ((hI (hI σ45 236 54 z59) 236 60 z62).1 236 18).toInt = (σ45.1 236 18).toInt := congrArg Int32.toInt rfl
        have g68 : ((hI (hI σ45 236 54 z59) 236 60 z62).1 236 54).toInt = z59.toInt := congrArg Int32.toInt rfl
        have g69 : ((hI (hI σ45 236 54 z59) 236 60 z62).1 236 19).toInt = (σ45.1 236 19).toInt := congrArg Int32.toInt rfl
        have g70 : ((hI (hI σq164 236 17 u164_0) 236 18 (σq164.1 236 19)).1 236 18).toInt = (σq164.1 236 19).toInt := congrArg Int32.toInt rfl
        have g71 : ((hI (hI σq164 236 17 u164_0) 236 18 (σq164.1 236 19)).1 236 19).toInt = (σq164.1 236 19).toInt := congrArg Int32.toInt rfl
        exact j219 100000 _ z65 (by omega) hG64 (onm.F (onm.F (onm.tr (onm.tr (onm.F (onm.F hoq164 (by decide)) (by decide)) (onm.mono ho31 (by decide))) (onm.mono ho48 (by decide))) (by decide)) (by decide)) (by omega) (show (σ45.1 236 2).toInt = 0 by omega) (by
            have r21 := (congrArg Int32.toInt ((show (hI (hI σ45 236 54 z59) 236 60 z62).1 267 21 = σ28.1 267 21 from ((congrFun (hI_o (by decide)) 21).trans ((congrFun (hI_o (by decide)) 21).trans (ho48.1 267 21 (by decide)))))))
            have r26 := (congrArg Int32.toInt ((show (hI (hI σ45 236 54 z59) 236 60 z62).1 267 26 = σ28.1 267 26 from ((congrFun (hI_o (by decide)) 26).trans ((congrFun (hI_o (by decide)) 26).trans (ho48.1 267 26 (by decide)))))))
            have r27 := (congrArg Int32.toInt ((show (hI (hI σ45 236 54 z59) 236 60 z62).1 267 27 = σ28.1 267 27 from ((congrFun (hI_o (by decide)) 27).trans ((congrFun (hI_o (by decide)) 27).trans (ho48.1 267 27 (by decide)))))))
            have n21 := congrArg Int32.toInt (show (hI (hI σ45 236 54 z59) 236 60 z62).1 266 21 = σ28.1 267 21 from ((congrFun (hI_o (by decide)) 21).trans ((congrFun (hI_o (by decide)) 21).trans (w50 21 (by decide)))))
            have n26 := congrArg Int32.toInt (show (hI (hI σ45 236 54 z59) 236 60 z62).1 266 26 = σ28.1 267 26 from ((congrFun (hI_o (by decide)) 26).trans ((congrFun (hI_o (by decide)) 26).trans (w50 26 (by decide)))))
            have n27 := congrArg Int32.toInt (show (hI (hI σ45 236 54 z59) 236 60 z62).1 266 27 = σ28.1 267 27 from ((congrFun (hI_o (by decide)) 27).trans ((congrFun (hI_o (by decide)) 27).trans (w50 27 (by decide)))))
            have pl9 : plm (hI (hI σ45 236 54 z59) 236 60 z62) = plm (hI (hI σq164 236 17 u164_0) 236 18 (σq164.1 236 19)) := by unfold plm; rw [show ((hI (hI σ45 236 54 z59) 236 60 z62).1 236 18).toInt.toNat = ((hI (hI σq164 236 17 u164_0) 236 18 (σq164.1 236 19)).1 236 18).toInt.toNat by omega, (show (hI (hI σ45 236 54 z59) 236 60 z62).1 249 = (hI (hI σq164 236 17 u164_0) 236 18 (σq164.1 236 19)).1 249 from ((hI_o (by decide)).trans ((hI_o (by decide)).trans ((ho48.a (i := 249) (by decide)).trans (ho31.a (i := 249) (by decide))))))]
            have rdi := hx164_2 (by omega)
            exact RKp.mk rdi.1 rdi.2.1 (by omega) (by omega) (show (hI (hI σ45 236 54 z59) 236 60 z62).1 249 = σq164.1 249 from ((hI_o (by decide)).trans ((hI_o (by decide)).trans ((ho48.a (i := 249) (by decide)).trans ((ho31.a (i := 249) (by decide)).trans ((hI_o (by decide)).trans (hI_o (by decide)))))))) (show (hI (hI σ45 236 54 z59) 236 60 z62).1 250 = σq164.1 250 from ((hI_o (by decide)).trans ((hI_o (by decide)).trans ((ho48.a (i := 250) (by decide)).trans ((ho31.a (i := 250) (by decide)).trans ((hI_o (by decide)).trans (hI_o (by decide)))))))) (show (hI (hI σ45 236 54 z59) 236 60 z62).1 254 = σq164.1 254 from ((hI_o (by decide)).trans ((hI_o (by decide)).trans ((ho48.a (i := 254) (by decide)).trans ((ho31.a (i := 254) (by decide)).trans ((hI_o (by decide)).trans (hI_o (by decide)))))))) (show (hI (hI σ45 236 54 z59) 236 60 z62).1 255 = σq164.1 255 from ((hI_o (by decide)).trans ((hI_o (by decide)).trans ((ho48.a (i := 255) (by decide)).trans ((ho31.a (i := 255) (by decide)).trans ((hI_o (by decide)).trans (hI_o (by decide)))))))) (show (hI (hI σ45 236 54 z59) 236 60 z62).1 256 = σq164.1 256 from ((hI_o (by decide)).trans ((hI_o (by decide)).trans ((ho48.a (i := 256) (by decide)).trans ((ho31.a (i := 256) (by decide)).trans ((hI_o (by decide)).trans (hI_o (by decide)))))))) (show (hI (hI σ45 236 54 z59) 236 60 z62).1 257 = σq164.1 257 from ((hI_o (by decide)).trans ((hI_o (by decide)).trans ((ho48.a (i := 257) (by decide)).trans ((ho31.a (i := 257) (by decide)).trans ((hI_o (by decide)).trans (hI_o (by decide)))))))) (show (hI (hI σ45 236 54 z59) 236 60 z62).1 258 = σq164.1 258 from ((hI_o (by decide)).trans ((hI_o (by decide)).trans ((ho48.a (i := 258) (by decide)).trans ((ho31.a (i := 258) (by decide)).trans ((hI_o (by decide)).trans (hI_o (by decide)))))))) (show (hI (hI σ45 236 54 z59) 236 60 z62).1 259 = σq164.1 259 from ((hI_o (by decide)).trans ((hI_o (by decide)).trans ((ho48.a (i := 259) (by decide)).trans ((ho31.a (i := 259) (by decide)).trans ((hI_o (by decide)).trans (hI_o (by decide)))))))) (show (hI (hI σ45 236 54 z59) 236 60 z62).1 260 = σq164.1 260 from ((hI_o (by decide)).trans ((hI_o (by decide)).trans ((ho48.a (i := 260) (by decide)).trans ((ho31.a (i := 260) (by decide)).trans ((hI_o (by decide)).trans (hI_o (by decide)))))))) (show (hI (hI σ45 236 54 z59) 236 60 z62).1 261 = σq164.1 261 from ((hI_o (by decide)).trans ((hI_o (by decide)).trans ((ho48.a (i := 261) (by decide)).trans ((ho31.a (i := 261) (by decide)).trans ((hI_o (by decide)).trans (hI_o (by decide)))))))) (show (hI (hI σ45 236 54 z59) 236 60 z62).1 262 = σq164.1 262 from ((hI_o (by decide)).trans ((hI_o (by decide)).trans ((ho48.a (i := 262) (by decide)).trans ((ho31.a (i := 262) (by decide)).trans ((hI_o (by decide)).trans (hI_o (by decide)))))))) (by omega) ⟨by omega, by omega, by omega, by omega⟩ ⟨by omega, by omega, by omega, by omega⟩ (by omega))
      ·
        refine a_aload_n C dX12_read_186 (i := 0) rfl rfl ?_
        refine a_get C fl_RX12_200 (i := 236) kd_236 (hid 236 (by decide)) (v := .int (σq164.1 236 15)) rfl dX12_read_187 ?_
        exact a_iret Rt dX12_read_190 rfl (⟨hG22, (onm.F hoq164 (by decide)), (RKm.ag hp0 hp1 hR23), (show (σq164.1 236 2).toInt = 0 by intros; omega)⟩)
    ·
      refine a_aload_n C dX12_read_174 (i := 0) rfl rfl ?_
      refine a_get C fl_RX12_191 (i := 236) kd_236 (hid 236 (by decide)) (v := .int (σq164.1 236 13)) rfl dX12_read_175 ?_
      exact a_iret Rt dX12_read_178 rfl (⟨hG22, (onm.F hoq164 (by decide)), (RKm.ag hp0 hp1 hR23), (show (σq164.1 236 2).toInt = 0 by intros; omega)⟩)
  have j134 : ∀ (σq134 : HS), GIm σq134 → onm [238, 239, 240, 241, 242, 244, 245, 246, 247, 248, 249, 250, 251, 252, 253, 254, 255, 256, 257, 258, 259, 260, 261, 262, 263, 266, 267, 275, 1002, 1004, 1010, 1011, 1012, 1013, 1014, 1015, 1016, 1017, 1018, 1019, 1020, 1033, 1039, 1043, 1049, 1050, 1054, 1060, 2021, 2026, 2027] σ σq134 → AGm s σq134 → ((σq134.1 236 19).toInt + (s.1 236 18).toInt = 1) → ((σq134.1 236 2).toInt = 0) → (RDI σq134) → AW ids ad ca Γ 134 [some (.ref (ad 236)), none] [] σq134 := by
    intro σq134 hGq134 hoq134 hRq134 hx134_0 hx134_1 hx134_2
    have g72 := bF_236_2 hGq134
    have g73 := bF_236_11 hGq134
    have g74 := bF_236_12 hGq134
    have g75 := bF_236_13 hGq134
    have g76 := bF_236_18 hGq134
    have g77 := bF_236_19 hGq134
    have g78 := bF_236_20 hGq134
    have gs134 := congrArg Int32.toInt hRq134.1.1
    refine a_aload_n C dX12_read_134 (i := 0) rfl rfl ?_
    refine a_aload_n C dX12_read_135 (i := 0) rfl rfl ?_
    refine a_get C fl_RX12_191 (i := 236) kd_236 (hid 236 (by decide)) (v := .int (σq134.1 236 13)) rfl dX12_read_136 ?_
    refine s_if_le C dX12_read_139 (tgt := 149) rfl (fun c79 => ?_) (fun c79 => ?_)
    ·
      refine a_aload_n C dX12_read_149 (i := 0) rfl rfl ?_
      refine a_get C fl_RX12_200 (i := 236) kd_236 (hid 236 (by decide)) (v := .int (σq134.1 236 15)) rfl dX12_read_150 ?_
      refine s_if_le C dX12_read_153 (tgt := 163) rfl (fun c80 => ?_) (fun c80 => ?_)
      ·
        refine s_iconst C dX12_read_163 (-1) (by decide) (fun z81 h82 => ?_)
        exact j164 _ z81 hGq134 hoq134 hRq134 (show (σq134.1 236 19).toInt + (s.1 236 18).toInt = 1 by omega) (show (σq134.1 236 2).toInt = 0 by omega) hx134_2
      ·
        refine a_aload_n C dX12_read_156 (i := 0) rfl rfl ?_
        refine a_get C fl_RX12_203 (i := 236) kd_236 (hid 236 (by decide)) (v := .int (σq134.1 236 16)) rfl dX12_read_157 ?_
        refine a_goto C dX12_read_160 (tgt := 164) rfl ?_
        exact j164 _ (σq134.1 236 16) hGq134 hoq134 hRq134 (show (σq134.1 236 19).toInt + (s.1 236 18).toInt = 1 by omega) (show (σq134.1 236 2).toInt = 0 by omega) hx134_2
    ·
      refine a_aload_n C dX12_read_142 (i := 0) rfl rfl ?_
      refine a_get C fl_RX12_197 (i := 236) kd_236 (hid 236 (by decide)) (v := .int (σq134.1 236 14)) rfl dX12_read_143 ?_
      refine a_goto C dX12_read_146 (tgt := 164) rfl ?_
      exact j164 _ (σq134.1 236 14) hGq134 hoq134 hRq134 (show (σq134.1 236 19).toInt + (s.1 236 18).toInt = 1 by omega) (show (σq134.1 236 2).toInt = 0 by omega) hx134_2
  have j112 : ∀ (d112 : Nat) (σq112 : HS), 2 * (401 - (σq112.1 236 11).toInt) - (σq112.1 236 13).toInt < d112 → GIm σq112 → onm [238, 239, 240, 241, 242, 244, 245, 246, 247, 248, 249, 250, 251, 252, 253, 254, 255, 256, 257, 258, 259, 260, 261, 262, 263, 266, 267, 275, 1002, 1004, 1010, 1011, 1012, 1013, 1014, 1015, 1016, 1017, 1018, 1019, 1020, 1033, 1039, 1043, 1049, 1050, 1054, 1060, 2021, 2026, 2027] σ σq112 → AGm s σq112 → ((σq112.1 236 19).toInt + (s.1 236 18).toInt = 1) → ((σq112.1 236 2).toInt = 0) → ((σq112.1 236 11).toInt ≤ 400) → (0 ≤ (σq112.1 236 13).toInt) → ((σq112.1 236 13).toInt ≤ 2) → (RDI σq112) → AW ids ad ca Γ 112 [some (.ref (ad 236)), none] [] σq112 := by
    intro d112
    induction d112 with
    | zero =>
      intro σq112 hd112 hGq112 hoq112 hRq112 hx112_0 hx112_1 hx112_2 hx112_3 hx112_4 hx112_5
      exfalso
      omega
    | succ d112 ih112 =>
      intro σq112 hd112 hGq112 hoq112 hRq112 hx112_0 hx112_1 hx112_2 hx112_3 hx112_4 hx112_5
      have g83 := bF_236_2 hGq112
      have g84 := bF_236_11 hGq112
      have g85 := bF_236_12 hGq112
      have g86 := bF_236_13 hGq112
      have g87 := bF_236_18 hGq112
      have g88 := bF_236_19 hGq112
      have g89 := bF_236_20 hGq112
      have gs112 := congrArg Int32.toInt hRq112.1.1
      refine a_aload_n C dX12_read_112 (i := 0) rfl rfl ?_
      refine a_get C fl_RX12_191 (i := 236) kd_236 (hid 236 (by decide)) (v := .int (σq112.1 236 13)) rfl dX12_read_113 ?_
      refine s_if_ne C dX12_read_116 (tgt := 134) rfl (fun c90 => ?_) (fun c90 => ?_)
      ·
        exact j134 _ hGq112 hoq112 hRq112 (show (σq112.1 236 19).toInt + (s.1 236 18).toInt = 1 by omega) (show (σq112.1 236 2).toInt = 0 by omega) hx112_5
      ·
        refine a_aload_n C dX12_read_119 (i := 0) rfl rfl ?_
        refine s_iconst C dX12_read_120 (0) (by decide) (fun z91 h92 => ?_)
        refine a_callVi C (i := 236) kd_236 (hid 236 (by decide)) ⟨_, _, rfl⟩ (by decide) (S_X12_is_236 (x1 := z91) hid hGq112) mi_X12_is ml_RX12_209 rfl rfl (Nat.le_of_ble_eq_true rfl) (Nat.le_of_ble_eq_true rfl) (Nat.le_of_ble_eq_true rfl) dX12_read_121 (fun z93 σ94 q95 => ?_)
        obtain ⟨w96, w97, w98, w99⟩ := q95
        rw [w96]
        refine s_if_ne C dX12_read_124 (tgt := 134) rfl (fun c100 => ?_) (fun c100 => ?_)
        ·
          exact j134 _ hGq112 hoq112 hRq112 (show (σq112.1 236 19).toInt + (s.1 236 18).toInt = 1 by omega) (show (σq112.1 236 2).toInt = 0 by omega) hx112_5
        ·
          refine a_aload_n C dX12_read_127 (i := 0) rfl rfl ?_
          refine a_callVv C (i := 236) kd_236 (hid 236 (by decide)) ⟨_, _, rfl⟩ (by decide) (S_X12_tellOne_236 hid hGq112 hRq112 (by omega) (by omega) hx112_5) mi_X12_tellOne ml_RX12_236 rfl rfl (Nat.le_of_ble_eq_true rfl) (Nat.le_of_ble_eq_true rfl) (Nat.le_of_ble_eq_true rfl) dX12_read_128 (fun σ102 q103 => ?_)
          obtain ⟨hG104, ho105, hR106, w107, w108, w109⟩ := q103
          refine a_goto C dX12_read_131 (tgt := 112) rfl ?_
          have g110 := bF_236_11 hG104
          have g111 := bF_236_13 hG104
          have g112 := bF_236_19 hG104
          have g113 : (σ102.1 236 19).toInt = (σq112.1 236 19).toInt := congrArg Int32.toInt (ho105.1 236 19 (by decide))
          have g114 := bF_236_2 hG104
          have g115 : (σ102.1 236 2).toInt = (σq112.1 236 2).toInt := congrArg Int32.toInt (ho105.1 236 2 (by decide))
          have g116 := bF_236_18 hG104
          have g117 : (σ102.1 236 18).toInt = (σq112.1 236 18).toInt := congrArg Int32.toInt (ho105.1 236 18 (by decide))
          exact ih112 _ (by omega) hG104 (onm.tr hoq112 (onm.mono ho105 (by decide))) hR106 (show (σ102.1 236 19).toInt + (s.1 236 18).toInt = 1 by omega) (show (σ102.1 236 2).toInt = 0 by omega) (show (σ102.1 236 11).toInt ≤ 400 by omega) (show 0 ≤ (σ102.1 236 13).toInt by omega) (show (σ102.1 236 13).toInt ≤ 2 by omega) w109
  have j10 : ∀ (d10 : Nat) (σq10 : HS) (y10_1 : Int32), 2000 - y10_1.toInt < d10 → GIm σq10 → onm [238, 239, 240, 241, 242, 244, 245, 246, 247, 248, 249, 250, 251, 252, 253, 254, 255, 256, 257, 258, 259, 260, 261, 262, 263, 266, 267, 275, 1002, 1004, 1010, 1011, 1012, 1013, 1014, 1015, 1016, 1017, 1018, 1019, 1020, 1033, 1039, 1043, 1049, 1050, 1054, 1060, 2021, 2026, 2027] σ σq10 → AGm s σq10 → 0 ≤ y10_1.toInt ∧ y10_1.toInt ≤ 2000 → AW ids ad ca Γ 10 [some (.ref (ad 236)), some (.int y10_1)] [] σq10 := by
    intro d10
    induction d10 with
    | zero =>
      intro σq10 y10_1 hd10 hGq10 hoq10 hRq10 hx10_0
      exfalso
      omega
    | succ d10 ih10 =>
      intro σq10 y10_1 hd10 hGq10 hoq10 hRq10 hx10_0
      have g118 := bF_236_2 hGq10
      have g119 := bF_236_11 hGq10
      have g120 := bF_236_12 hGq10
      have g121 := bF_236_13 hGq10
      have g122 := bF_236_18 hGq10
      have g123 := bF_236_19 hGq10
      have g124 := bF_236_20 hGq10
      have gs10 := congrArg Int32.toInt hRq10.1.1
      refine a_iload_n C dX12_read_10 (i := 1) rfl rfl ?_
      refine a_aload_n C dX12_read_11 (i := 0) rfl rfl ?_
      have g125 := bF_236_4 hGq10
      refine a_get C fl_RX12_160 (i := 236) kd_236 (hid 236 (by decide)) (v := .int (σq10.1 236 4)) rfl dX12_read_12 ?_
      refine s_ic_ge C dX12_read_15 (tgt := 36) rfl (fun c126 => ?_) (fun c126 => ?_)
      ·
        refine a_aload_n C dX12_read_36 (i := 0) rfl rfl ?_
        refine s_iconst C dX12_read_37 (0) (by decide) (fun z127 h128 => ?_)
        refine a_put C fp_RX12_154 (i := 236) kd_236 (hid 236 (by decide)) rfl rfl dX12_read_38 ?_
        have hG129 := wF_236_2 (v := z127) hGq10 (by omega) (by omega)
        have hR130 := AGm.ony (σ1 := hI _ 236 2 z127) hRq10 (onm.F (L := [1002]) onm.rf (by decide)) (by decide)
        refine a_aload_n C dX12_read_41 (i := 0) rfl rfl ?_
        refine a_callVv C (i := 236) kd_236 (hid 236 (by decide)) ⟨_, _, rfl⟩ (by decide) (S_X12_cut_236 hid hG129) mi_X12_cut ml_RX12_215 rfl rfl (Nat.le_of_ble_eq_true rfl) (Nat.le_of_ble_eq_true rfl) (Nat.le_of_ble_eq_true rfl) dX12_read_42 (fun σ132 q133 => ?_)
        obtain ⟨hG134, ho135⟩ := q133
        have hR136 := AGm.ony hR130 ho135 (by decide)
        refine a_aload_n C dX12_read_45 (i := 0) rfl rfl ?_
        refine s_iconst C dX12_read_46 (0) (by decide) (fun z137 h138 => ?_)
        refine a_put C fp_RX12_194 (i := 236) kd_236 (hid 236 (by decide)) rfl rfl dX12_read_47 ?_
        have hG139 := wF_236_11 (v := z137) hG134 (by omega) (by omega)
        have hR140 := AGm.ony (σ1 := hI _ 236 11 z137) hR136 (onm.F (L := [1011]) onm.rf (by decide)) (by decide)
        refine a_aload_n C dX12_read_50 (i := 0) rfl rfl ?_
        refine s_iconst C dX12_read_51 (0) (by decide) (fun z141 h142 => ?_)
        refine a_put C fp_RX12_218 (i := 236) kd_236 (hid 236 (by decide)) rfl rfl dX12_read_52 ?_
        have hG143 := wF_236_12 (v := z141) hG139 (by omega) (by omega)
        have hR144 := AGm.ony (σ1 := hI _ 236 12 z141) hR140 (onm.F (L := [1012]) onm.rf (by decide)) (by decide)
        refine a_aload_n C dX12_read_55 (i := 0) rfl rfl ?_
        refine s_iconst C dX12_read_56 (0) (by decide) (fun z145 h146 => ?_)
        refine a_put C fp_RX12_191 (i := 236) kd_236 (hid 236 (by decide)) rfl rfl dX12_read_57 ?_
        have hG147 := wF_236_13 (v := z145) hG143 (by omega) (by omega)
        have hR148 := AGm.ony (σ1 := hI _ 236 13 z145) hR144 (onm.F (L := [1013]) onm.rf (by decide)) (by decide)
        refine a_aload_n C dX12_read_60 (i := 0) rfl rfl ?_
        refine s_iconst C dX12_read_61 (0) (by decide) (fun z149 h150 => ?_)
        refine a_put C fp_RX12_200 (i := 236) kd_236 (hid 236 (by decide)) rfl rfl dX12_read_62 ?_
        have hG151 := wF_236_15 (v := z149) hG147
        have hR152 := AGm.ony (σ1 := hI _ 236 15 z149) hR148 (onm.F (L := [1015]) onm.rf (by decide)) (by decide)
        refine a_aload_n C dX12_read_65 (i := 0) rfl rfl ?_
        refine s_iconst C dX12_read_66 (1) (by decide) (fun z153 h154 => ?_)
        refine a_aload_n C dX12_read_67 (i := 0) rfl rfl ?_
        have g155 := bF_236_18 hG134
        have g156 : (σ132.1 236 18).toInt = (σq10.1 236 18).toInt := congrArg Int32.toInt (ho135.1 236 18 (by decide))
        refine a_get C fl_RX12_221 (i := 236) kd_236 (hid 236 (by decide)) (v := .int (σ132.1 236 18)) rfl dX12_read_68 ?_
        refine s_isub C dX12_read_71 (by omega) (fun z157 h158 => ?_)
        refine a_put C fp_RX12_224 (i := 236) kd_236 (hid 236 (by decide)) rfl rfl dX12_read_72 ?_
        have hG159 := wF_236_19 (v := z157) hG151 (by omega) (by omega)
        have hR160 := AGm.ony (σ1 := hI _ 236 19 z157) hR152 (onm.F (L := [1019]) onm.rf (by decide)) (by decide)
        refine a_aload_n C dX12_read_75 (i := 0) rfl rfl ?_
        refine s_iconst C dX12_read_76 (0) (by decide) (fun z161 h162 => ?_)
        refine a_put C fp_RX12_227 (i := 236) kd_236 (hid 236 (by decide)) rfl rfl dX12_read_77 ?_
        have hG163 := wF_236_20 (v := z161) hG159 (by omega) (by omega)
        have hR164 := AGm.ony (σ1 := hI _ 236 20 z161) hR160 (onm.F (L := [1020]) onm.rf (by decide)) (by decide)
        refine a_aload_n C dX12_read_80 (i := 0) rfl rfl ?_
        refine a_aload_n C dX12_read_81 (i := 0) rfl rfl ?_
        refine a_get C fl_RX12_224 (i := 236) kd_236 (hid 236 (by decide)) (v := .int z157) rfl dX12_read_82 ?_
        refine a_callVv C (i := 236) kd_236 (hid 236 (by decide)) ⟨_, _, rfl⟩ (by decide) (S_X12_plain_236 (x1 := z157) hid hG163 hR164 (by omega) (by omega)) mi_X12_plain ml_RX12_140 rfl rfl (Nat.le_of_ble_eq_true rfl) (Nat.le_of_ble_eq_true rfl) (Nat.le_of_ble_eq_true rfl) dX12_read_85 (fun σ166 q167 => ?_)
        obtain ⟨hG168, ho169, hR170, w171, w172⟩ := q167
        have g173 := bF_236_2 hG168
        have g174 := bF_236_2 hG134
        have g175 : (σ132.1 236 2).toInt = z127.toInt := congrArg Int32.toInt (ho135.1 236 2 (by decide))
        have g176 : (σ166.1 236 2).toInt = (σ132.1 236 2).toInt := congrArg Int32.toInt (ho169.1 236 2 (by decide))
        have g177 := bF_236_11 hG168
        have g178 : (σ166.1 236 11).toInt = z137.toInt := congrArg Int32.toInt (ho169.1 236 11 (by decide))
        have g179 := bF_236_12 hG168
        have g180 : (σ166.1 236 12).toInt = z141.toInt := congrArg Int32.toInt (ho169.1 236 12 (by decide))
        have g181 := bF_236_13 hG168
        have g182 : (σ166.1 236 13).toInt = z145.toInt := congrArg Int32.toInt (ho169.1 236 13 (by decide))
        have g183 := bF_236_18 hG168
        have g184 : (σ166.1 236 18).toInt = (σ132.1 236 18).toInt := congrArg Int32.toInt (ho169.1 236 18 (by decide))
        have g185 := bF_236_19 hG168
        have g186 : (σ166.1 236 19).toInt = z157.toInt := congrArg Int32.toInt (ho169.1 236 19 (by decide))
        have g187 := bF_236_20 hG168
        have g188 : (σ166.1 236 20).toInt = z161.toInt := congrArg Int32.toInt (ho169.1 236 20 (by decide))
        have g189 : (σ132.1 236 33).toInt = (σq10.1 236 33).toInt := congrArg Int32.toInt (ho135.1 236 33 (by decide))
        have g190 : (σ166.1 236 33).toInt = (σ132.1 236 33).toInt := congrArg Int32.toInt (ho169.1 236 33 (by decide))
        have g191 : (σ132.1 236 39).toInt = (σq10.1 236 39).toInt := congrArg Int32.toInt (ho135.1 236 39 (by decide))
        have g192 : (σ166.1 236 39).toInt = (σ132.1 236 39).toInt := congrArg Int32.toInt (ho169.1 236 39 (by decide))
        refine a_aload_n C dX12_read_88 (i := 0) rfl rfl ?_
        refine s_sipush C dX12_read_89 (130) (by decide) (fun z193 h194 => ?_)
        refine a_aload_n C dX12_read_92 (i := 0) rfl rfl ?_
        refine a_get C fl_RX12_224 (i := 236) kd_236 (hid 236 (by decide)) (v := .int (σ166.1 236 19)) rfl dX12_read_93 ?_
        refine s_imuld C dX12_read_96 (130) (by omega) (by omega) (fun z195 h196 => ?_)
        refine a_put C fp_RX12_230 (i := 236) kd_236 (hid 236 (by decide)) rfl rfl dX12_read_97 ?_
        have hG197 := wF_236_33 (v := z195) hG168
        have hR198 := AGm.ony (σ1 := hI _ 236 33 z195) hR170 (onm.F (L := [1033]) onm.rf (by decide)) (by decide)
        refine a_aload_n C dX12_read_100 (i := 0) rfl rfl ?_
        refine s_sipush C dX12_read_101 (420) (by decide) (fun z199 h200 => ?_)
        refine a_aload_n C dX12_read_104 (i := 0) rfl rfl ?_
        refine a_get C fl_RX12_224 (i := 236) kd_236 (hid 236 (by decide)) (v := .int (σ166.1 236 19)) rfl dX12_read_105 ?_
        refine s_imuld C dX12_read_108 (420) (by omega) (by omega) (fun z201 h202 => ?_)
        refine a_put C fp_RX12_233 (i := 236) kd_236 (hid 236 (by decide)) rfl rfl dX12_read_109 ?_
        have hG203 := wF_236_39 (v := z201) hG197
        have hR204 := AGm.ony (σ1 := hI _ 236 39 z201) hR198 (onm.F (L := [1039]) onm.rf (by decide)) (by decide)
        have g205 : ((hI (hI σ166 236 33 z195) 236 39 z201).1 236 11).toInt = (σ166.1 236 11).toInt := congrArg Int32.toInt rfl
        have g206 : ((hI (hI σ166 236 33 z195) 236 39 z201).1 236 13).toInt = (σ166.1 236 13).toInt := congrArg Int32.toInt rfl
        have g207 : ((hI (hI σ166 236 33 z195) 236 39 z201).1 236 2).toInt = (σ166.1 236 2).toInt := congrArg Int32.toInt rfl
        have g208 : ((hI (hI σ166 236 33 z195) 236 39 z201).1 236 11).toInt = (σ166.1 236 11).toInt := congrArg Int32.toInt rfl
        have g209 : ((hI (hI σ166 236 33 z195) 236 39 z201).1 236 12).toInt = (σ166.1 236 12).toInt := congrArg Int32.toInt rfl
        have g210 : ((hI (hI σ166 236 33 z195) 236 39 z201).1 236 13).toInt = (σ166.1 236 13).toInt := congrArg Int32.toInt rfl
        have g211 : ((hI (hI σ166 236 33 z195) 236 39 z201).1 236 18).toInt = (σ166.1 236 18).toInt := congrArg Int32.toInt rfl
        have g212 : ((hI (hI σ166 236 33 z195) 236 39 z201).1 236 19).toInt = (σ166.1 236 19).toInt := congrArg Int32.toInt rfl
        have g213 : ((hI (hI σ166 236 33 z195) 236 39 z201).1 236 20).toInt = (σ166.1 236 20).toInt := congrArg Int32.toInt rfl
        have g214 : ((hI (hI σ166 236 33 z195) 236 39 z201).1 236 33).toInt = z195.toInt := congrArg Int32.toInt rfl
        have g215 : ((hI (hI σ166 236 33 z195) 236 39 z201).1 236 39).toInt = z201.toInt := congrArg Int32.toInt rfl
        refine AW.sub (vs' := [some (.ref (ad 236)), none]) (lsub_of (by simp [lsubB])) ?_
        exact j112 100000 _ (by omega) hG203 (onm.F (onm.F (onm.tr (onm.F (onm.F (onm.F (onm.F (onm.F (onm.F (onm.tr (onm.F hoq10 (by decide)) (onm.mono ho135 (by decide))) (by decide)) (by decide)) (by decide)) (by decide)) (by decide)) (by decide)) (onm.mono ho169 (by decide))) (by decide)) (by decide)) hR204 (show (σ166.1 236 19).toInt + (s.1 236 18).toInt = 1 by omega) (show (σ166.1 236 2).toInt = 0 by omega) (show (σ166.1 236 11).toInt ≤ 400 by omega) (show 0 ≤ (σ166.1 236 13).toInt by omega) (show (σ166.1 236 13).toInt ≤ 2 by omega) (fun _ => by
            have e1 : ((hI (hI σ166 236 33 z195) 236 39 z201).1 245 ((hI (hI σ166 236 33 z195) 236 39 z201).1 236 19).toInt.toNat).toInt = 0 := by rw [show ((hI (hI σ166 236 33 z195) 236 39 z201).1 236 19).toInt.toNat = z157.toInt.toNat by omega]; exact w171.1
            have e2 : ((hI (hI σ166 236 33 z195) 236 39 z201).1 249 ((hI (hI σ166 236 33 z195) 236 39 z201).1 236 19).toInt.toNat).toInt = 0 := by rw [show ((hI (hI σ166 236 33 z195) 236 39 z201).1 236 19).toInt.toNat = z157.toInt.toNat by omega]; exact w171.2
            exact ⟨LAW.zero (by omega) (fun k hk => by rw [show ((hI (hI σ166 236 33 z195) 236 39 z201).1 236 19).toInt.toNat = z157.toInt.toNat by omega]; exact w172 k hk), fun p hp => absurd hp (by omega), by omega, by omega, by omega, by omega, by omega, by omega⟩)
      ·
        refine a_aload_n C dX12_read_18 (i := 0) rfl rfl ?_
        refine a_get C fl_RX12_17 (i := 236) kd_236 (hid 236 (by decide)) (v := .ref (ad 238)) rfl dX12_read_19 ?_
        refine a_iload_n C dX12_read_22 (i := 1) rfl rfl ?_
        refine a_aload_n C dX12_read_23 (i := 0) rfl rfl ?_
        refine a_get C fl_RX12_13 (i := 236) kd_236 (hid 236 (by decide)) (v := .ref (ad 237)) rfl dX12_read_24 ?_
        refine a_iload_n C dX12_read_27 (i := 1) rfl rfl ?_
        refine s_bald C (i := 237) kd_237 (hid 237 (by decide)) al_237 (by omega) (by omega) dX12_read_28 (fun n216 h217 => ?_)
        refine s_val (fun z218 e219 => ?_)
        refine s_bastN C (i := 238) kd_238 (hid 238 (by decide)) al_238 (by omega) (by omega) dX12_read_29 (fun n220 z222 h221 => ?_)
        have hG223 := wA_238 (v := z222) (j := n220) hGq10
        have hR224 := AGm.ony (σ1 := hI _ 238 n220 z222) hRq10 (onm.I (L := [238]) onm.rf (by decide)) (by decide)
        refine s_iinc C dX12_read_30 rfl (1) (by decide) (by omega) (by decide) rfl (fun z225 h226 => ?_)
        show AW ids ad ca Γ 33 [some (.ref (ad 236)), some (.int z225)] _ _
        refine a_goto C dX12_read_33 (tgt := 10) rfl ?_
        exact ih10 _ z225 (by omega) hG223 (onm.I hoq10 (by decide)) hR224 (by omega)
  have g227 := bF_236_2 hG
  have g228 := bF_236_11 hG
  have g229 := bF_236_12 hG
  have g230 := bF_236_13 hG
  have g231 := bF_236_18 hG
  have g232 := bF_236_19 hG
  have g233 := bF_236_20 hG
  have gs0 := congrArg Int32.toInt hR.1.1
  refine a_aload_n C dX12_read_0 (i := 0) rfl rfl ?_
  refine a_aload_n C dX12_read_1 (i := 0) rfl rfl ?_
  refine a_get C fl_RX12_154 (i := 236) kd_236 (hid 236 (by decide)) (v := .int (σ.1 236 2)) rfl dX12_read_2 ?_
  refine a_put C fp_RX12_160 (i := 236) kd_236 (hid 236 (by decide)) rfl rfl dX12_read_5 ?_
  have hG234 := wF_236_4 (v := (σ.1 236 2)) hG (by omega) (by omega)
  have hR235 := AGm.ony (σ1 := hI _ 236 4 (σ.1 236 2)) hR (onm.F (L := [1004]) onm.rf (by decide)) (by decide)
  refine s_iconst C dX12_read_8 (0) (by decide) (fun z236 h237 => ?_)
  refine a_istore_n C dX12_read_9 (i := 1) rfl (by decide) rfl (vs1 := [some (.ref (ad 236)), some (.int z236)]) rfl ?_
  exact j10 100000 _ z236 (by omega) hG234 (onm.F onm.rf (by decide)) hR235 (by omega)
