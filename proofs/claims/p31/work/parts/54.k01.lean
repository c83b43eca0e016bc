theorem nof_270 : ∀ q ∈ bdFm, ¬ q.1 = 270 := by decide
theorem wA_270 {σ : HS} {v : Int32} {j : Nat} (h : GIm σ) : GIm (hI σ 270 j v) := GIm.I h (fun q hq e1 _ => absurd e1 (nof_270 q hq)) (hAm_of (L := []) (by decide) (fun _ h => absurd h List.not_mem_nil))
theorem dX12_fillsFar_0 : decode cX12_fillsFar 0 = .ok (.iconst 0, 1) := by decide +kernel
theorem dX12_fillsFar_1 : decode cX12_fillsFar 1 = .ok (.istore_n 2, 1) := by decide +kernel
theorem dX12_fillsFar_2 : decode cX12_fillsFar 2 = .ok (.iload_n 2, 1) := by decide +kernel
theorem dX12_fillsFar_3 : decode cX12_fillsFar 3 = .ok (.sipush 1024, 3) := by decide +kernel
theorem dX12_fillsFar_6 : decode cX12_fillsFar 6 = .ok (.if_icmp .ge 26, 3) := by decide +kernel
theorem dX12_fillsFar_9 : decode cX12_fillsFar 9 = .ok (.aload_n 0, 1) := by decide +kernel
theorem dX12_fillsFar_10 : decode cX12_fillsFar 10 = .ok (.getfield 119, 3) := by decide +kernel
theorem dX12_fillsFar_13 : decode cX12_fillsFar 13 = .ok (.iload_n 2, 1) := by decide +kernel
theorem dX12_fillsFar_14 : decode cX12_fillsFar 14 = .ok (.iload_n 2, 1) := by decide +kernel
theorem dX12_fillsFar_15 : decode cX12_fillsFar 15 = .ok (.iload_n 1, 1) := by decide +kernel
theorem dX12_fillsFar_16 : decode cX12_fillsFar 16 = .ok (.if_icmp .ne 7, 3) := by decide +kernel
theorem dX12_fillsFar_19 : decode cX12_fillsFar 19 = .ok (.iconst 0, 1) := by decide +kernel
theorem dX12_fillsFar_20 : decode cX12_fillsFar 20 = .ok (.goto 5, 3) := by decide +kernel
theorem dX12_fillsFar_23 : decode cX12_fillsFar 23 = .ok (.bipush 99, 2) := by decide +kernel
theorem dX12_fillsFar_25 : decode cX12_fillsFar 25 = .ok (.iastore, 1) := by decide +kernel
theorem dX12_fillsFar_26 : decode cX12_fillsFar 26 = .ok (.iinc 2 1, 3) := by decide +kernel
theorem dX12_fillsFar_29 : decode cX12_fillsFar 29 = .ok (.goto (-27), 3) := by decide +kernel
theorem dX12_fillsFar_32 : decode cX12_fillsFar 32 = .ok (.iconst 1, 1) := by decide +kernel
theorem dX12_fillsFar_33 : decode cX12_fillsFar 33 = .ok (.istore_n 2, 1) := by decide +kernel
theorem dX12_fillsFar_34 : decode cX12_fillsFar 34 = .ok (.iload_n 2, 1) := by decide +kernel
theorem dX12_fillsFar_35 : decode cX12_fillsFar 35 = .ok (.bipush 12, 2) := by decide +kernel
theorem dX12_fillsFar_37 : decode cX12_fillsFar 37 = .ok (.if_icmp .gt 84, 3) := by decide +kernel
theorem dX12_fillsFar_40 : decode cX12_fillsFar 40 = .ok (.iconst 0, 1) := by decide +kernel
theorem dX12_fillsFar_41 : decode cX12_fillsFar 41 = .ok (.istore_n 3, 1) := by decide +kernel
theorem dX12_fillsFar_42 : decode cX12_fillsFar 42 = .ok (.iload_n 3, 1) := by decide +kernel
theorem dX12_fillsFar_43 : decode cX12_fillsFar 43 = .ok (.sipush 1024, 3) := by decide +kernel
theorem dX12_fillsFar_46 : decode cX12_fillsFar 46 = .ok (.if_icmp .ge 69, 3) := by decide +kernel
theorem dX12_fillsFar_49 : decode cX12_fillsFar 49 = .ok (.iconst 0, 1) := by decide +kernel
theorem dX12_fillsFar_50 : decode cX12_fillsFar 50 = .ok (.istore 4, 2) := by decide +kernel
theorem dX12_fillsFar_52 : decode cX12_fillsFar 52 = .ok (.iload 4, 2) := by decide +kernel
theorem dX12_fillsFar_54 : decode cX12_fillsFar 54 = .ok (.bipush 9, 2) := by decide +kernel
theorem dX12_fillsFar_56 : decode cX12_fillsFar 56 = .ok (.if_icmp .gt 53, 3) := by decide +kernel
theorem dX12_fillsFar_59 : decode cX12_fillsFar 59 = .ok (.aload_n 0, 1) := by decide +kernel
theorem dX12_fillsFar_60 : decode cX12_fillsFar 60 = .ok (.getfield 119, 3) := by decide +kernel
theorem dX12_fillsFar_63 : decode cX12_fillsFar 63 = .ok (.iload_n 3, 1) := by decide +kernel
theorem dX12_fillsFar_64 : decode cX12_fillsFar 64 = .ok (.iaload, 1) := by decide +kernel
theorem dX12_fillsFar_65 : decode cX12_fillsFar 65 = .ok (.bipush 99, 2) := by decide +kernel
theorem dX12_fillsFar_67 : decode cX12_fillsFar 67 = .ok (.if_icmp .ne 42, 3) := by decide +kernel
theorem dX12_fillsFar_70 : decode cX12_fillsFar 70 = .ok (.iload_n 3, 1) := by decide +kernel
theorem dX12_fillsFar_71 : decode cX12_fillsFar 71 = .ok (.iload 4, 2) := by decide +kernel
theorem dX12_fillsFar_73 : decode cX12_fillsFar 73 = .ok (.invokestatic 432, 3) := by decide +kernel
theorem dX12_fillsFar_76 : decode cX12_fillsFar 76 = .ok (.istore 5, 2) := by decide +kernel
theorem dX12_fillsFar_78 : decode cX12_fillsFar 78 = .ok (.iload 5, 2) := by decide +kernel
theorem dX12_fillsFar_80 : decode cX12_fillsFar 80 = .ok (.ifCond .lt 23, 3) := by decide +kernel
theorem dX12_fillsFar_83 : decode cX12_fillsFar 83 = .ok (.aload_n 0, 1) := by decide +kernel
theorem dX12_fillsFar_84 : decode cX12_fillsFar 84 = .ok (.getfield 119, 3) := by decide +kernel
theorem dX12_fillsFar_87 : decode cX12_fillsFar 87 = .ok (.iload 5, 2) := by decide +kernel
theorem dX12_fillsFar_89 : decode cX12_fillsFar 89 = .ok (.iaload, 1) := by decide +kernel
theorem dX12_fillsFar_90 : decode cX12_fillsFar 90 = .ok (.iload_n 2, 1) := by decide +kernel
theorem dX12_fillsFar_91 : decode cX12_fillsFar 91 = .ok (.iconst 1, 1) := by decide +kernel
theorem dX12_fillsFar_92 : decode cX12_fillsFar 92 = .ok (.isub, 1) := by decide +kernel
theorem dX12_fillsFar_93 : decode cX12_fillsFar 93 = .ok (.if_icmp .ne 10, 3) := by decide +kernel
theorem dX12_fillsFar_96 : decode cX12_fillsFar 96 = .ok (.aload_n 0, 1) := by decide +kernel
theorem dX12_fillsFar_97 : decode cX12_fillsFar 97 = .ok (.getfield 119, 3) := by decide +kernel
theorem dX12_fillsFar_100 : decode cX12_fillsFar 100 = .ok (.iload_n 3, 1) := by decide +kernel
theorem dX12_fillsFar_101 : decode cX12_fillsFar 101 = .ok (.iload_n 2, 1) := by decide +kernel
theorem dX12_fillsFar_102 : decode cX12_fillsFar 102 = .ok (.iastore, 1) := by decide +kernel
theorem dX12_fillsFar_103 : decode cX12_fillsFar 103 = .ok (.iinc 4 1, 3) := by decide +kernel
theorem dX12_fillsFar_106 : decode cX12_fillsFar 106 = .ok (.goto (-54), 3) := by decide +kernel
theorem dX12_fillsFar_109 : decode cX12_fillsFar 109 = .ok (.iinc 3 1, 3) := by decide +kernel
theorem dX12_fillsFar_112 : decode cX12_fillsFar 112 = .ok (.goto (-70), 3) := by decide +kernel
theorem dX12_fillsFar_115 : decode cX12_fillsFar 115 = .ok (.iinc 2 1, 3) := by decide +kernel
theorem dX12_fillsFar_118 : decode cX12_fillsFar 118 = .ok (.goto (-84), 3) := by decide +kernel
theorem dX12_fillsFar_121 : decode cX12_fillsFar 121 = .ok (.return_, 1) := by decide +kernel
set_option maxHeartbeats 4000000 in
set_option maxRecDepth 100000 in
theorem S_X12_fillsFar_236 {l : Launch} {D : va_G} {ids : List Nat} {ad : Nat → Nat} {ca : Nat → ClassId} {σ : HS} {x1 : Int32} (hid : ∀ i, i < 277 → i ∈ ids) (hG : GIm σ) : Kv l D ids ad ca yX12_fillsFar cX12_fillsFar 6 1 21 [.ref (ad 236), .int x1] σ (fun σ1 => (GIm σ1) ∧ (onm [270] σ σ1) ∧ (FJ (σ1.1 270) 12)) := by
  refine Kv.of (by decide) (Nat.le_of_ble_eq_true rfl) 4 (fun Γ C Rt => ?_)
  show AW ids ad ca Γ 0 [some (.ref (ad 236)), some (.int x1), none, none, none, none] [] σ
  have j34 : ∀ (d34 : Nat) (σq34 : HS) (y34_2 : Int32), 13 - y34_2.toInt < d34 → GIm σq34 → onm [270] σ σq34 → 1 ≤ y34_2.toInt ∧ y34_2.toInt ≤ 13 → (FJ (σq34.1 270) (y34_2.toInt - 1)) → AW ids ad ca Γ 34 [some (.ref (ad 236)), none, some (.int y34_2), none, none, none] [] σq34 := by
    intro d34
    induction d34 with
    | zero =>
      intro σq34 y34_2 hd34 hGq34 hoq34 hx34_0 hx34_1
      exfalso
      omega
    | succ d34 ih34 =>
      intro σq34 y34_2 hd34 hGq34 hoq34 hx34_0 hx34_1
      have j42 : ∀ (d42 : Nat) (σq42 : HS) (y42_3 : Int32), 1024 - y42_3.toInt < d42 → GIm σq42 → onm [270] σ σq42 → 0 ≤ y42_3.toInt ∧ y42_3.toInt ≤ 1024 → 1 ≤ y34_2.toInt ∧ y34_2.toInt ≤ 12 → (FJ (σq42.1 270) y34_2.toInt) → AW ids ad ca Γ 42 [some (.ref (ad 236)), none, some (.int y34_2), some (.int y42_3), none, none] [] σq42 := by
        intro d42
        induction d42 with
        | zero =>
          intro σq42 y42_3 hd42 hGq42 hoq42 hx42_0 hx42_1 hx42_2
          exfalso
          omega
        | succ d42 ih42 =>
          intro σq42 y42_3 hd42 hGq42 hoq42 hx42_0 hx42_1 hx42_2
          have j109 : ∀ (σq109 : HS), GIm σq109 → onm [270] σ σq109 → 0 ≤ y42_3.toInt ∧ y42_3.toInt ≤ 1023 → (FJ (σq109.1 270) y34_2.toInt) → AW ids ad ca Γ 109 [some (.ref (ad 236)), none, some (.int y34_2), some (.int y42_3), none, none] [] σq109 := by
            intro σq109 hGq109 hoq109 hx109_0 hx109_1
            refine s_iinc C dX12_fillsFar_109 rfl (1) (by decide) (by omega) (by decide) rfl (fun z1 h2 => ?_)
            show AW ids ad ca Γ 112 [some (.ref (ad 236)), none, some (.int y34_2), some (.int z1), none, none] _ _
            refine a_goto C dX12_fillsFar_112 (tgt := 42) rfl ?_
            exact ih42 _ z1 (by omega) hGq109 hoq109 (by omega) (by omega) hx109_1
          have j52 : ∀ (d52 : Nat) (σq52 : HS) (y52_4 : Int32), 10 - y52_4.toInt < d52 → GIm σq52 → onm [270] σ σq52 → 0 ≤ y52_4.toInt ∧ y52_4.toInt ≤ 10 → 0 ≤ y42_3.toInt ∧ y42_3.toInt ≤ 1023 → (FJ (σq52.1 270) y34_2.toInt) → AW ids ad ca Γ 52 [some (.ref (ad 236)), none, some (.int y34_2), some (.int y42_3), some (.int y52_4), none] [] σq52 := by
            intro d52
            induction d52 with
            | zero =>
              intro σq52 y52_4 hd52 hGq52 hoq52 hx52_0 hx52_1 hx52_2
              exfalso
              omega
            | succ d52 ih52 =>
              intro σq52 y52_4 hd52 hGq52 hoq52 hx52_0 hx52_1 hx52_2
              have j103 : ∀ (σq103 : HS), GIm σq103 → onm [270] σ σq103 → 0 ≤ y52_4.toInt ∧ y52_4.toInt ≤ 9 → (FJ (σq103.1 270) y34_2.toInt) → AW ids ad ca Γ 103 [some (.ref (ad 236)), none, some (.int y34_2), some (.int y42_3), some (.int y52_4), none] [] σq103 := by
                intro σq103 hGq103 hoq103 hx103_0 hx103_1
                refine s_iinc C dX12_fillsFar_103 rfl (1) (by decide) (by omega) (by decide) rfl (fun z3 h4 => ?_)
                show AW ids ad ca Γ 106 [some (.ref (ad 236)), none, some (.int y34_2), some (.int y42_3), some (.int z3), none] _ _
                refine a_goto C dX12_fillsFar_106 (tgt := 52) rfl ?_
                exact ih52 _ z3 (by omega) hGq103 hoq103 (by omega) (by omega) hx103_1
              refine a_iload C dX12_fillsFar_52 rfl ?_
              refine s_bipush C dX12_fillsFar_54 (9) (by decide) (fun z5 h6 => ?_)
              refine s_ic_gt C dX12_fillsFar_56 (tgt := 109) rfl (fun c7 => ?_) (fun c7 => ?_)
              ·
                refine AW.sub (vs' := [some (.ref (ad 236)), none, some (.int y34_2), some (.int y42_3), none, none]) (lsub_of (by simp [lsubB])) ?_
                exact j109 _ hGq52 hoq52 (by omega) hx52_2
              ·
                refine a_aload_n C dX12_fillsFar_59 (i := 0) rfl rfl ?_
                refine a_get C fl_RX12_119 (i := 236) kd_236 (hid 236 (by decide)) (v := .ref (ad 270)) rfl dX12_fillsFar_60 ?_
                refine a_iload_n C dX12_fillsFar_63 (i := 3) rfl rfl ?_
                refine s_iald C (i := 270) kd_270 (hid 270 (by decide)) al_270 (by omega) (by omega) dX12_fillsFar_64 (fun n8 h9 => ?_)
                refine s_val (fun z10 e11 => ?_)
                have g99v : (σq52.1 270 y42_3.toInt.toNat).toInt = z10.toInt := congrArg Int32.toInt (by rw [show y42_3.toInt.toNat = n8 by omega]; exact e11)
                refine s_bipush C dX12_fillsFar_65 (99) (by decide) (fun z12 h13 => ?_)
                refine s_ic_ne C dX12_fillsFar_67 (tgt := 109) rfl (fun c14 => ?_) (fun c14 => ?_)
                ·
                  refine AW.sub (vs' := [some (.ref (ad 236)), none, some (.int y34_2), some (.int y42_3), none, none]) (lsub_of (by simp [lsubB])) ?_
                  exact j109 _ hGq52 hoq52 (by omega) hx52_2
                ·
                  refine a_iload_n C dX12_fillsFar_70 (i := 3) rfl rfl ?_
                  refine a_iload C dX12_fillsFar_71 rfl ?_
                  refine a_callSi C (S_X12_nextOf (x1 := y42_3) (x2 := y52_4) hid hGq52) ms_X12_nextOf ml_RX12_432 rfl rfl (Nat.le_of_ble_eq_true rfl) (Nat.le_of_ble_eq_true rfl) (Nat.le_of_ble_eq_true rfl) dX12_fillsFar_73 (fun z15 σ16 q17 => ?_)
                  obtain ⟨w18, w19⟩ := q17
                  rw [w18]
                  have gnx : z15 = nxt y42_3 y52_4 := w19
                  have gle := nxt_le (s := y42_3) (h := y52_4) (by omega) (by omega)
                  rw [← gnx] at gle
                  refine a_istore C dX12_fillsFar_76 (by decide) rfl (vs1 := [some (.ref (ad 236)), none, some (.int y34_2), some (.int y42_3), some (.int y52_4), some (.int z15)]) rfl ?_
                  refine a_iload C dX12_fillsFar_78 rfl ?_
                  refine s_if_lt C dX12_fillsFar_80 (tgt := 103) rfl (fun c20 => ?_) (fun c20 => ?_)
                  ·
                    refine AW.sub (vs' := [some (.ref (ad 236)), none, some (.int y34_2), some (.int y42_3), some (.int y52_4), none]) (lsub_of (by simp [lsubB])) ?_
                    exact j103 _ hGq52 hoq52 (by omega) hx52_2
                  ·
                    refine a_aload_n C dX12_fillsFar_83 (i := 0) rfl rfl ?_
                    refine a_get C fl_RX12_119 (i := 236) kd_236 (hid 236 (by decide)) (v := .ref (ad 270)) rfl dX12_fillsFar_84 ?_
                    refine a_iload C dX12_fillsFar_87 rfl ?_
                    refine s_iald C (i := 270) kd_270 (hid 270 (by decide)) al_270 (by omega) (by omega) dX12_fillsFar_89 (fun n21 h22 => ?_)
                    refine s_val (fun z23 e24 => ?_)
                    have gthv : (σq52.1 270 (nxt y42_3 y52_4).toInt.toNat).toInt = z23.toInt := congrArg Int32.toInt (by rw [← gnx, show z15.toInt.toNat = n21 by omega]; exact e24)
                    refine a_iload_n C dX12_fillsFar_90 (i := 2) rfl rfl ?_
                    refine s_iconst C dX12_fillsFar_91 (1) (by decide) (fun z25 h26 => ?_)
                    refine s_isub C dX12_fillsFar_92 (by omega) (fun z27 h28 => ?_)
                    refine s_ic_ne C dX12_fillsFar_93 (tgt := 103) rfl (fun c29 => ?_) (fun c29 => ?_)
                    ·
                      refine AW.sub (vs' := [some (.ref (ad 236)), none, some (.int y34_2), some (.int y42_3), some (.int y52_4), none]) (lsub_of (by simp [lsubB])) ?_
                      exact j103 _ hGq52 hoq52 (by omega) hx52_2
                    ·
                      have g99 : (σq52.1 270 y42_3.toInt.toNat).toInt = 99 := by omega
                      have gth : (σq52.1 270 (nxt y42_3 y52_4).toInt.toNat).toInt = y34_2.toInt - 1 := by omega
                      refine a_aload_n C dX12_fillsFar_96 (i := 0) rfl rfl ?_
                      refine a_get C fl_RX12_119 (i := 236) kd_236 (hid 236 (by decide)) (v := .ref (ad 270)) rfl dX12_fillsFar_97 ?_
                      refine a_iload_n C dX12_fillsFar_100 (i := 3) rfl rfl ?_
                      refine a_iload_n C dX12_fillsFar_101 (i := 2) rfl rfl ?_
                      refine s_iast C (i := 270) kd_270 (hid 270 (by decide)) al_270 (by omega) (by omega) dX12_fillsFar_102 (fun n30 h31 => ?_)
                      have hG32 := wA_270 (v := y34_2) (j := n30) hGq52
                      refine AW.sub (vs' := [some (.ref (ad 236)), none, some (.int y34_2), some (.int y42_3), some (.int y52_4), none]) (lsub_of (by simp [lsubB])) ?_
                      exact j103 _ hG32 (onm.I hoq52 (by decide)) (by omega) (fj_step (h := y52_4) hx52_2 (by omega) (by omega) (by omega) (by omega) g99 (by omega) (by rw [← gnx]; omega) gth)
          refine a_iload_n C dX12_fillsFar_42 (i := 3) rfl rfl ?_
          refine s_sipush C dX12_fillsFar_43 (1024) (by decide) (fun z33 h34 => ?_)
          refine s_ic_ge C dX12_fillsFar_46 (tgt := 115) rfl (fun c35 => ?_) (fun c35 => ?_)
          ·
            refine s_iinc C dX12_fillsFar_115 rfl (1) (by decide) (by omega) (by decide) rfl (fun z36 h37 => ?_)
            show AW ids ad ca Γ 118 [some (.ref (ad 236)), none, some (.int z36), some (.int y42_3), none, none] _ _
            refine a_goto C dX12_fillsFar_118 (tgt := 34) rfl ?_
            refine AW.sub (vs' := [some (.ref (ad 236)), none, some (.int z36), none, none, none]) (lsub_of (by simp [lsubB])) ?_
            exact ih34 _ z36 (by omega) hGq42 hoq42 (by omega) (show FJ (σq42.1 270) (z36.toInt - 1) from FJ.mono hx42_2 (by omega))
          ·
            refine s_iconst C dX12_fillsFar_49 (0) (by decide) (fun z38 h39 => ?_)
            refine a_istore C dX12_fillsFar_50 (by decide) rfl (vs1 := [some (.ref (ad 236)), none, some (.int y34_2), some (.int y42_3), some (.int z38), none]) rfl ?_
            exact j52 100000 _ z38 (by omega) hGq42 hoq42 (by omega) (by omega) hx42_2
      refine a_iload_n C dX12_fillsFar_34 (i := 2) rfl rfl ?_
      refine s_bipush C dX12_fillsFar_35 (12) (by decide) (fun z40 h41 => ?_)
      refine s_ic_gt C dX12_fillsFar_37 (tgt := 121) rfl (fun c42 => ?_) (fun c42 => ?_)
      ·
        exact a_vret Rt dX12_fillsFar_121 (⟨hGq34, hoq34, (show FJ (σq34.1 270) 12 from FJ.mono hx34_1 (by omega))⟩)
      ·
        refine s_iconst C dX12_fillsFar_40 (0) (by decide) (fun z43 h44 => ?_)
        refine a_istore_n C dX12_fillsFar_41 (i := 3) rfl (by decide) rfl (vs1 := [some (.ref (ad 236)), none, some (.int y34_2), some (.int z43), none, none]) rfl ?_
        exact j42 100000 _ z43 (by omega) hGq34 hoq34 (by omega) (by omega) (FJ.mono hx34_1 (by omega))
  have j2 : ∀ (d2 : Nat) (σq2 : HS) (y2_2 : Int32), 1024 - y2_2.toInt < d2 → GIm σq2 → onm [270] σ σq2 → 0 ≤ y2_2.toInt ∧ y2_2.toInt ≤ 1024 → (∀ q : Nat, (q : Int) < y2_2.toInt → (σq2.1 270 q).toInt = 0 ∨ (σq2.1 270 q).toInt = 99) → AW ids ad ca Γ 2 [some (.ref (ad 236)), some (.int x1), some (.int y2_2), none, none, none] [] σq2 := by
    intro d2
    induction d2 with
    | zero =>
      intro σq2 y2_2 hd2 hGq2 hoq2 hx2_0 hx2_1
      exfalso
      omega
    | succ d2 ih2 =>
      intro σq2 y2_2 hd2 hGq2 hoq2 hx2_0 hx2_1
      have j25 : ∀ (σq25 : HS) (u25_0 : Int32) (u25_1 : Int32), GIm σq25 → onm [270] σ σq25 → 0 ≤ u25_0.toInt ∧ u25_0.toInt ≤ 99 → 0 ≤ u25_1.toInt ∧ u25_1.toInt ≤ 1023 → 0 ≤ y2_2.toInt ∧ y2_2.toInt ≤ 1023 → (u25_0.toInt = 0 ∨ u25_0.toInt = 99) → (u25_1.toInt = y2_2.toInt) → (∀ q : Nat, (q : Int) < y2_2.toInt → (σq25.1 270 q).toInt = 0 ∨ (σq25.1 270 q).toInt = 99) → AW ids ad ca Γ 25 [some (.ref (ad 236)), some (.int x1), some (.int y2_2), none, none, none] [.int u25_0, .int u25_1, .ref (ad 270)] σq25 := by
        intro σq25 u25_0 u25_1 hGq25 hoq25 hx25_0 hx25_1 hx25_2 hx25_3 hx25_4 hx25_5
        refine s_iast C (i := 270) kd_270 (hid 270 (by decide)) al_270 (by omega) (by omega) dX12_fillsFar_25 (fun n45 h46 => ?_)
        have hG47 := wA_270 (v := u25_0) (j := n45) hGq25
        refine s_iinc C dX12_fillsFar_26 rfl (1) (by decide) (by omega) (by decide) rfl (fun z48 h49 => ?_)
        show AW ids ad ca Γ 29 [some (.ref (ad 236)), some (.int x1), some (.int z48), none, none, none] _ _
        refine a_goto C dX12_fillsFar_29 (tgt := 2) rfl ?_
        exact ih2 _ z48 (by omega) hG47 (onm.I hoq25 (by decide)) (by omega) (ff_step hx25_5 (by omega) (by omega) (by omega))
      refine a_iload_n C dX12_fillsFar_2 (i := 2) rfl rfl ?_
      refine s_sipush C dX12_fillsFar_3 (1024) (by decide) (fun z50 h51 => ?_)
      refine s_ic_ge C dX12_fillsFar_6 (tgt := 32) rfl (fun c52 => ?_) (fun c52 => ?_)
      ·
        refine s_iconst C dX12_fillsFar_32 (1) (by decide) (fun z53 h54 => ?_)
        refine a_istore_n C dX12_fillsFar_33 (i := 2) rfl (by decide) rfl (vs1 := [some (.ref (ad 236)), some (.int x1), some (.int z53), none, none, none]) rfl ?_
        refine AW.sub (vs' := [some (.ref (ad 236)), none, some (.int z53), none, none, none]) (lsub_of (by simp [lsubB])) ?_
        exact j34 100000 _ z53 (by omega) hGq2 hoq2 (by omega) (show FJ (σq2.1 270) (z53.toInt - 1) from FJ.of hx2_1 (by omega) (by omega))
      ·
        refine a_aload_n C dX12_fillsFar_9 (i := 0) rfl rfl ?_
        refine a_get C fl_RX12_119 (i := 236) kd_236 (hid 236 (by decide)) (v := .ref (ad 270)) rfl dX12_fillsFar_10 ?_
        refine a_iload_n C dX12_fillsFar_13 (i := 2) rfl rfl ?_
        refine a_iload_n C dX12_fillsFar_14 (i := 2) rfl rfl ?_
        refine a_iload_n C dX12_fillsFar_15 (i := 1) rfl rfl ?_
        refine s_ic_ne C dX12_fillsFar_16 (tgt := 23) rfl (fun c55 => ?_) (fun c55 => ?_)
        ·
          refine s_bipush C dX12_fillsFar_23 (99) (by decide) (fun z56 h57 => ?_)
          exact j25 _ z56 y2_2 hGq2 hoq2 (by omega) (by omega) (by omega) (show z56.toInt = 0 ∨ z56.toInt = 99 by omega) (show y2_2.toInt = y2_2.toInt by omega) hx2_1
        ·
          refine s_iconst C dX12_fillsFar_19 (0) (by decide) (fun z58 h59 => ?_)
          refine a_goto C dX12_fillsFar_20 (tgt := 25) rfl ?_
          exact j25 _ z58 y2_2 hGq2 hoq2 (by omega) (by omega) (by omega) (show z58.toInt = 0 ∨ z58.toInt = 99 by omega) (show y2_2.toInt = y2_2.toInt by omega) hx2_1
  refine s_iconst C dX12_fillsFar_0 (0) (by decide) (fun z60 h61 => ?_)
  refine a_istore_n C dX12_fillsFar_1 (i := 2) rfl (by decide) rfl (vs1 := [some (.ref (ad 236)), some (.int x1), some (.int z60), none, none, none]) rfl ?_
  exact j2 100000 _ z60 (by omega) hG onm.rf (by omega) (fun q hq => absurd hq (by omega))
theorem dX12_firstOf_0 : decode cX12_firstOf 0 = .ok (.iconst 0, 1) := by decide +kernel
theorem dX12_firstOf_1 : decode cX12_firstOf 1 = .ok (.istore_n 2, 1) := by decide +kernel
theorem dX12_firstOf_2 : decode cX12_firstOf 2 = .ok (.iload_n 1, 1) := by decide +kernel
theorem dX12_firstOf_3 : decode cX12_firstOf 3 = .ok (.iload_n 2, 1) := by decide +kernel
theorem dX12_firstOf_4 : decode cX12_firstOf 4 = .ok (.invokestatic 432, 3) := by decide +kernel
theorem dX12_firstOf_7 : decode cX12_firstOf 7 = .ok (.ifCond .lt 24, 3) := by decide +kernel
theorem dX12_firstOf_10 : decode cX12_firstOf 10 = .ok (.aload_n 0, 1) := by decide +kernel
theorem dX12_firstOf_11 : decode cX12_firstOf 11 = .ok (.getfield 119, 3) := by decide +kernel
theorem dX12_firstOf_14 : decode cX12_firstOf 14 = .ok (.iload_n 1, 1) := by decide +kernel
theorem dX12_firstOf_15 : decode cX12_firstOf 15 = .ok (.iload_n 2, 1) := by decide +kernel
theorem dX12_firstOf_16 : decode cX12_firstOf 16 = .ok (.invokestatic 432, 3) := by decide +kernel
theorem dX12_firstOf_19 : decode cX12_firstOf 19 = .ok (.iaload, 1) := by decide +kernel
theorem dX12_firstOf_20 : decode cX12_firstOf 20 = .ok (.aload_n 0, 1) := by decide +kernel
theorem dX12_firstOf_21 : decode cX12_firstOf 21 = .ok (.getfield 119, 3) := by decide +kernel
theorem dX12_firstOf_24 : decode cX12_firstOf 24 = .ok (.iload_n 1, 1) := by decide +kernel
theorem dX12_firstOf_25 : decode cX12_firstOf 25 = .ok (.iaload, 1) := by decide +kernel
theorem dX12_firstOf_26 : decode cX12_firstOf 26 = .ok (.iconst 1, 1) := by decide +kernel
theorem dX12_firstOf_27 : decode cX12_firstOf 27 = .ok (.isub, 1) := by decide +kernel
theorem dX12_firstOf_28 : decode cX12_firstOf 28 = .ok (.if_icmp .eq 9, 3) := by decide +kernel
theorem dX12_firstOf_31 : decode cX12_firstOf 31 = .ok (.iinc 2 1, 3) := by decide +kernel
theorem dX12_firstOf_34 : decode cX12_firstOf 34 = .ok (.goto (-32), 3) := by decide +kernel
theorem dX12_firstOf_37 : decode cX12_firstOf 37 = .ok (.iload_n 2, 1) := by decide +kernel
theorem dX12_firstOf_38 : decode cX12_firstOf 38 = .ok (.ireturn, 1) := by decide +kernel
set_option maxHeartbeats 4000000 in
set_option maxRecDepth 100000 in
theorem S_X12_firstOf_236 {l : Launch} {D : va_G} {ids : List Nat} {ad : Nat → Nat} {ca : Nat → ClassId} {σ : HS} {x1 : Int32} (hid : ∀ i, i < 277 → i ∈ ids) (hG : GIm σ) (hx1 : 0 ≤ x1.toInt ∧ x1.toInt ≤ 1023) (hp0 : FJ (σ.1 270) 12) (hp1 : 1 ≤ (σ.1 270 x1.toInt.toNat).toInt) (hp2 : (σ.1 270 x1.toInt.toNat).toInt ≤ 12) : Ki l D ids ad ca yX12_firstOf cX12_firstOf 3 .int 1 21 [.ref (ad 236), .int x1] σ (fun r σ1 => (σ1 = σ) ∧ (0 ≤ r.toInt ∧ r.toInt ≤ 9) ∧ (0 ≤ (nxt x1 r).toInt) ∧ ((σ.1 270 (nxt x1 r).toInt.toNat).toInt = (σ.1 270 x1.toInt.toNat).toInt - 1)) := by
  refine Ki.of (by decide) (Nat.le_of_ble_eq_true rfl) 1 (fun Γ C Rt => ?_)
  show AW ids ad ca Γ 0 [some (.ref (ad 236)), some (.int x1), none] [] σ
  have j2 : ∀ (d2 : Nat) (y2_2 : Int32), 10 - y2_2.toInt < d2 → 0 ≤ y2_2.toInt ∧ y2_2.toInt ≤ 10 → (FO (σ.1 270) x1 y2_2) → AW ids ad ca Γ 2 [some (.ref (ad 236)), some (.int x1), some (.int y2_2)] [] σ := by
    intro d2
    induction d2 with
    | zero =>
      intro y2_2 hd2 hx2_0 hx2_1
      exfalso
      omega
    | succ d2 ih2 =>
      intro y2_2 hd2 hx2_0 hx2_1
      have j31 : (0 ≤ (nxt x1 y2_2).toInt → (σ.1 270 (nxt x1 y2_2).toInt.toNat).toInt ≠ (σ.1 270 x1.toInt.toNat).toInt - 1) → AW ids ad ca Γ 31 [some (.ref (ad 236)), some (.int x1), some (.int y2_2)] [] σ := by
        intro hx31_0
        have gfl := FO.le hx2_1
        refine s_iinc C dX12_firstOf_31 rfl (1) (by decide) (by omega) (by decide) rfl (fun z1 h2 => ?_)
        show AW ids ad ca Γ 34 [some (.ref (ad 236)), some (.int x1), some (.int z1)] _ _
        refine a_goto C dX12_firstOf_34 (tgt := 2) rfl ?_
        exact ih2 z1 (by omega) (by omega) (FO.step hx2_1 (by omega) hx31_0)
      have gfl := FO.le hx2_1
      refine a_iload_n C dX12_firstOf_2 (i := 1) rfl rfl ?_
      refine a_iload_n C dX12_firstOf_3 (i := 2) rfl rfl ?_
      refine a_callSi C (S_X12_nextOf (x1 := x1) (x2 := y2_2) hid hG) ms_X12_nextOf ml_RX12_432 rfl rfl (Nat.le_of_ble_eq_true rfl) (Nat.le_of_ble_eq_true rfl) (Nat.le_of_ble_eq_true rfl) dX12_firstOf_4 (fun z3 σ4 q5 => ?_)
      obtain ⟨w6, w7⟩ := q5
      rw [w6]
      have gn4 : z3 = nxt x1 y2_2 := w7
      have gle := nxt_le (s := x1) (h := y2_2) (by omega) (by have := FO.le hx2_1; omega)
      rw [← gn4] at gle
      refine s_if_lt C dX12_firstOf_7 (tgt := 31) rfl (fun c8 => ?_) (fun c8 => ?_)
      ·
        exact j31 (fun h9 => by first | (rw [gt]; omega) | exact absurd h9 (by rw [← gn4]; omega))
      ·
        refine a_aload_n C dX12_firstOf_10 (i := 0) rfl rfl ?_
        refine a_get C fl_RX12_119 (i := 236) kd_236 (hid 236 (by decide)) (v := .ref (ad 270)) rfl dX12_firstOf_11 ?_
        refine a_iload_n C dX12_firstOf_14 (i := 1) rfl rfl ?_
        refine a_iload_n C dX12_firstOf_15 (i := 2) rfl rfl ?_
        refine a_callSi C (S_X12_nextOf (x1 := x1) (x2 := y2_2) hid hG) ms_X12_nextOf ml_RX12_432 rfl rfl (Nat.le_of_ble_eq_true rfl) (Nat.le_of_ble_eq_true rfl) (Nat.le_of_ble_eq_true rfl) dX12_firstOf_16 (fun z9 σ10 q11 => ?_)
        obtain ⟨w12, w13⟩ := q11
        rw [w12]
        have gn16 : z9 = nxt x1 y2_2 := w13
        have ge16 : z9.toInt = z3.toInt := by rw [gn16, gn4]
        refine s_iald C (i := 270) kd_270 (hid 270 (by decide)) al_270 (by omega) (by omega) dX12_firstOf_19 (fun n14 h15 => ?_)
        refine s_val (fun z16 e17 => ?_)
        have gt : (σ.1 270 (nxt x1 y2_2).toInt.toNat).toInt = z16.toInt := congrArg Int32.toInt (by rw [← gn16, show z9.toInt.toNat = n14 by omega]; exact e17)
        refine a_aload_n C dX12_firstOf_20 (i := 0) rfl rfl ?_
        refine a_get C fl_RX12_119 (i := 236) kd_236 (hid 236 (by decide)) (v := .ref (ad 270)) rfl dX12_firstOf_21 ?_
        refine a_iload_n C dX12_firstOf_24 (i := 1) rfl rfl ?_
        refine s_iald C (i := 270) kd_270 (hid 270 (by decide)) al_270 (by omega) (by omega) dX12_firstOf_25 (fun n18 h19 => ?_)
        refine s_val (fun z20 e21 => ?_)
        have gq : (σ.1 270 x1.toInt.toNat).toInt = z20.toInt := congrArg Int32.toInt (by rw [show x1.toInt.toNat = n18 by omega]; exact e21)
        refine s_iconst C dX12_firstOf_26 (1) (by decide) (fun z22 h23 => ?_)
        refine s_isub C dX12_firstOf_27 (by omega) (fun z24 h25 => ?_)
        refine s_ic_eq C dX12_firstOf_28 (tgt := 37) rfl (fun c26 => ?_) (fun c26 => ?_)
        ·
          refine a_iload_n C dX12_firstOf_37 (i := 2) rfl rfl ?_
          exact a_iret Rt dX12_firstOf_38 rfl (⟨rfl, (show 0 ≤ y2_2.toInt ∧ y2_2.toInt ≤ 9 by intros; omega), (show 0 ≤ (nxt x1 y2_2).toInt by rw [← gn4]; omega), (show (σ.1 270 (nxt x1 y2_2).toInt.toNat).toInt = (σ.1 270 x1.toInt.toNat).toInt - 1 by rw [gt]; omega)⟩)
        ·
          exact j31 (fun h9 => by first | (rw [gt]; omega) | exact absurd h9 (by rw [← gn4]; omega))
  refine s_iconst C dX12_firstOf_0 (0) (by decide) (fun z27 h28 => ?_)
  refine a_istore_n C dX12_firstOf_1 (i := 2) rfl (by decide) rfl (vs1 := [some (.ref (ad 236)), some (.int x1), some (.int z27)]) rfl ?_
  exact j2 100000 z27 (by omega) (by omega) (FO.of hp0 (by omega) (by omega) (by omega) (by omega) (by omega))
theorem dX12_into_8 : decode cX12_into 8 = .ok (.aload_n 0, 1) := by decide +kernel
theorem dX12_into_9 : decode cX12_into 9 = .ok (.iload_n 1, 1) := by decide +kernel
theorem dX12_into_10 : decode cX12_into 10 = .ok (.invokevirtual 417, 3) := by decide +kernel
theorem dX12_into_13 : decode cX12_into 13 = .ok (.ifCond .lt 8, 3) := by decide +kernel
theorem dX12_into_16 : decode cX12_into 16 = .ok (.iload_n 2, 1) := by decide +kernel
theorem dX12_into_17 : decode cX12_into 17 = .ok (.iconst (-1), 1) := by decide +kernel
theorem dX12_into_18 : decode cX12_into 18 = .ok (.if_icmp .ge 5, 3) := by decide +kernel
theorem dX12_into_23 : decode cX12_into 23 = .ok (.aload_n 0, 1) := by decide +kernel
theorem dX12_into_24 : decode cX12_into 24 = .ok (.invokevirtual 435, 3) := by decide +kernel
theorem dX12_into_27 : decode cX12_into 27 = .ok (.istore_n 3, 1) := by decide +kernel
theorem dX12_into_28 : decode cX12_into 28 = .ok (.aload_n 0, 1) := by decide +kernel
theorem dX12_into_29 : decode cX12_into 29 = .ok (.aload_n 0, 1) := by decide +kernel
theorem dX12_into_30 : decode cX12_into 30 = .ok (.iload_n 1, 1) := by decide +kernel
theorem dX12_into_31 : decode cX12_into 31 = .ok (.invokevirtual 438, 3) := by decide +kernel
theorem dX12_into_34 : decode cX12_into 34 = .ok (.invokevirtual 441, 3) := by decide +kernel
theorem dX12_into_37 : decode cX12_into 37 = .ok (.aload_n 0, 1) := by decide +kernel
theorem dX12_into_38 : decode cX12_into 38 = .ok (.invokevirtual 444, 3) := by decide +kernel
theorem dX12_into_41 : decode cX12_into 41 = .ok (.ifCond .ne 14, 3) := by decide +kernel
theorem dX12_into_44 : decode cX12_into 44 = .ok (.aload_n 0, 1) := by decide +kernel
theorem dX12_into_45 : decode cX12_into 45 = .ok (.getfield 119, 3) := by decide +kernel
theorem dX12_into_48 : decode cX12_into 48 = .ok (.iload_n 3, 1) := by decide +kernel
theorem dX12_into_49 : decode cX12_into 49 = .ok (.iaload, 1) := by decide +kernel
theorem dX12_into_50 : decode cX12_into 50 = .ok (.bipush 99, 2) := by decide +kernel
theorem dX12_into_52 : decode cX12_into 52 = .ok (.if_icmp .ne 16, 3) := by decide +kernel
theorem dX12_into_55 : decode cX12_into 55 = .ok (.iload_n 2, 1) := by decide +kernel
theorem dX12_into_56 : decode cX12_into 56 = .ok (.iconst (-1), 1) := by decide +kernel
theorem dX12_into_57 : decode cX12_into 57 = .ok (.if_icmp .ne 8, 3) := by decide +kernel
theorem dX12_into_60 : decode cX12_into 60 = .ok (.bipush (-2), 2) := by decide +kernel
theorem dX12_into_62 : decode cX12_into 62 = .ok (.goto 5, 3) := by decide +kernel
theorem dX12_into_65 : decode cX12_into 65 = .ok (.bipush (-3), 2) := by decide +kernel
theorem dX12_into_67 : decode cX12_into 67 = .ok (.ireturn, 1) := by decide +kernel
theorem dX12_into_68 : decode cX12_into 68 = .ok (.iload_n 2, 1) := by decide +kernel
theorem dX12_into_69 : decode cX12_into 69 = .ok (.iconst (-1), 1) := by decide +kernel
theorem dX12_into_70 : decode cX12_into 70 = .ok (.if_icmp .ne 10, 3) := by decide +kernel
theorem dX12_into_73 : decode cX12_into 73 = .ok (.aload_n 0, 1) := by decide +kernel
theorem dX12_into_74 : decode cX12_into 74 = .ok (.getfield 119, 3) := by decide +kernel
theorem dX12_into_77 : decode cX12_into 77 = .ok (.iload_n 3, 1) := by decide +kernel
theorem dX12_into_78 : decode cX12_into 78 = .ok (.iaload, 1) := by decide +kernel
theorem dX12_into_79 : decode cX12_into 79 = .ok (.ireturn, 1) := by decide +kernel
theorem dX12_into_80 : decode cX12_into 80 = .ok (.iload_n 2, 1) := by decide +kernel
theorem dX12_into_81 : decode cX12_into 81 = .ok (.aload_n 0, 1) := by decide +kernel
theorem dX12_into_82 : decode cX12_into 82 = .ok (.getfield 119, 3) := by decide +kernel
theorem dX12_into_85 : decode cX12_into 85 = .ok (.iload_n 3, 1) := by decide +kernel
theorem dX12_into_86 : decode cX12_into 86 = .ok (.iaload, 1) := by decide +kernel
theorem dX12_into_87 : decode cX12_into 87 = .ok (.if_icmp .lt 5, 3) := by decide +kernel
theorem dX12_into_90 : decode cX12_into 90 = .ok (.iconst (-1), 1) := by decide +kernel
theorem dX12_into_91 : decode cX12_into 91 = .ok (.ireturn, 1) := by decide +kernel
theorem dX12_into_92 : decode cX12_into 92 = .ok (.iconst 0, 1) := by decide +kernel
theorem dX12_into_93 : decode cX12_into 93 = .ok (.istore 4, 2) := by decide +kernel
theorem dX12_into_95 : decode cX12_into 95 = .ok (.iload 4, 2) := by decide +kernel
theorem dX12_into_97 : decode cX12_into 97 = .ok (.iload_n 2, 1) := by decide +kernel
theorem dX12_into_98 : decode cX12_into 98 = .ok (.if_icmp .ge 19, 3) := by decide +kernel
theorem dX12_into_101 : decode cX12_into 101 = .ok (.iload_n 3, 1) := by decide +kernel
theorem dX12_into_102 : decode cX12_into 102 = .ok (.aload_n 0, 1) := by decide +kernel
theorem dX12_into_103 : decode cX12_into 103 = .ok (.iload_n 3, 1) := by decide +kernel
theorem dX12_into_104 : decode cX12_into 104 = .ok (.invokevirtual 448, 3) := by decide +kernel
theorem dX12_into_107 : decode cX12_into 107 = .ok (.invokestatic 432, 3) := by decide +kernel
theorem dX12_into_110 : decode cX12_into 110 = .ok (.istore_n 3, 1) := by decide +kernel
theorem dX12_into_111 : decode cX12_into 111 = .ok (.iinc 4 1, 3) := by decide +kernel
theorem dX12_into_114 : decode cX12_into 114 = .ok (.goto (-19), 3) := by decide +kernel
theorem dX12_into_117 : decode cX12_into 117 = .ok (.aload_n 0, 1) := by decide +kernel
theorem dX12_into_118 : decode cX12_into 118 = .ok (.iload_n 3, 1) := by decide +kernel
theorem dX12_into_119 : decode cX12_into 119 = .ok (.invokevirtual 448, 3) := by decide +kernel
theorem dX12_into_122 : decode cX12_into 122 = .ok (.ireturn, 1) := by decide +kernel
set_option maxHeartbeats 4000000 in
set_option maxRecDepth 100000 in
theorem S_X12_into_236 {l : Launch} {D : va_G} {ids : List Nat} {ad : Nat → Nat} {ca : Nat → ClassId} {σ : HS} {x1 : Int32} {x2 : Int32} (hid : ∀ i, i < 277 → i ∈ ids) (hG : GIm σ) {b : Int} (hR : RKm b σ) : Ki l D ids ad ca yX12_into cX12_into 5 .int 4 87 [.ref (ad 236), .int x1, .int x2] σ (fun r σ1 => (GIm σ1) ∧ (onm [267, 269, 270, 1049, 1050, 1057, 2021, 2026, 2027] σ σ1) ∧ (RKm b σ1)) := by
  refine Ki.of (by decide) (Nat.le_of_ble_eq_true rfl) 2 (fun Γ C Rt => ?_)
  show AW ids ad ca Γ 0 [some (.ref (ad 236)), some (.int x1), some (.int x2), none, none] [] σ
  have j95 : ∀ (d95 : Nat) (σq95 : HS) (y95_3 : Int32) (y95_4 : Int32), 13 - y95_4.toInt < d95 → GIm σq95 → onm [267, 269, 270, 1049, 1050, 1057, 2021, 2026, 2027] σ σq95 → RKm b σq95 → 0 ≤ y95_3.toInt ∧ y95_3.toInt ≤ 1023 → 0 ≤ y95_4.toInt ∧ y95_4.toInt ≤ 13 → -1 ≤ x2.toInt ∧ x2.toInt ≤ 12 → (y95_4.toInt ≤ x2.toInt) → (FJ (σq95.1 270) 12) → (x2.toInt - y95_4.toInt < (σq95.1 270 y95_3.toInt.toNat).toInt) → ((σq95.1 270 y95_3.toInt.toNat).toInt ≤ 12) → AW ids ad ca Γ 95 [some (.ref (ad 236)), none, some (.int x2), some (.int y95_3), some (.int y95_4)] [] σq95 := by
    intro d95
    induction d95 with
    | zero =>
      intro σq95 y95_3 y95_4 hd95 hGq95 hoq95 hRq95 hx95_0 hx95_1 hx95_2 hx95_3 hx95_4 hx95_5 hx95_6
      exfalso
      omega
    | succ d95 ih95 =>
      intro σq95 y95_3 y95_4 hd95 hGq95 hoq95 hRq95 hx95_0 hx95_1 hx95_2 hx95_3 hx95_4 hx95_5 hx95_6
      refine a_iload C dX12_into_95 rfl ?_
      refine a_iload_n C dX12_into_97 (i := 2) rfl rfl ?_
      refine s_ic_ge C dX12_into_98 (tgt := 117) rfl (fun c1 => ?_) (fun c1 => ?_)
      ·
        refine a_aload_n C dX12_into_117 (i := 0) rfl rfl ?_
        refine a_iload_n C dX12_into_118 (i := 3) rfl rfl ?_
        refine a_callVi C (i := 236) kd_236 (hid 236 (by decide)) ⟨_, _, rfl⟩ (by decide) (S_X12_firstOf_236 (x1 := y95_3) hid hGq95 (by omega) hx95_4 (by omega) (by omega)) mi_X12_firstOf ml_RX12_448 rfl rfl (Nat.le_of_ble_eq_true rfl) (Nat.le_of_ble_eq_true rfl) (Nat.le_of_ble_eq_true rfl) dX12_into_119 (fun z2 σ3 q4 => ?_)
        obtain ⟨w5, w6, w7, w8⟩ := q4
        rw [w5]
        exact a_iret Rt dX12_into_122 rfl (⟨hGq95, hoq95, hRq95⟩)
      ·
        refine a_iload_n C dX12_into_101 (i := 3) rfl rfl ?_
        refine a_aload_n C dX12_into_102 (i := 0) rfl rfl ?_
        refine a_iload_n C dX12_into_103 (i := 3) rfl rfl ?_
        refine a_callVi C (i := 236) kd_236 (hid 236 (by decide)) ⟨_, _, rfl⟩ (by decide) (S_X12_firstOf_236 (x1 := y95_3) hid hGq95 (by omega) hx95_4 (by omega) (by omega)) mi_X12_firstOf ml_RX12_448 rfl rfl (Nat.le_of_ble_eq_true rfl) (Nat.le_of_ble_eq_true rfl) (Nat.le_of_ble_eq_true rfl) dX12_into_104 (fun z9 σ10 q11 => ?_)
        obtain ⟨w12, w13, w14, w15⟩ := q11
        rw [w12]
        have gs0 := w14
        have gst := w15
        refine a_callSi C (S_X12_nextOf (x1 := y95_3) (x2 := z9) hid hGq95) ms_X12_nextOf ml_RX12_432 rfl rfl (Nat.le_of_ble_eq_true rfl) (Nat.le_of_ble_eq_true rfl) (Nat.le_of_ble_eq_true rfl) dX12_into_107 (fun z16 σ17 q18 => ?_)
        obtain ⟨w19, w20⟩ := q18
        rw [w19]
        have gs3 : z16 = nxt y95_3 z9 := w20
        have gs4 := nxt_le (s := y95_3) (h := z9) (by omega) (by omega)
        rw [← gs3] at gs0 gs4
        refine a_istore_n C dX12_into_110 (i := 3) rfl (by decide) rfl (vs1 := [some (.ref (ad 236)), none, some (.int x2), some (.int z16), some (.int y95_4)]) rfl ?_
        refine s_iinc C dX12_into_111 rfl (1) (by decide) (by omega) (by decide) rfl (fun z21 h22 => ?_)
        show AW ids ad ca Γ 114 [some (.ref (ad 236)), none, some (.int x2), some (.int z16), some (.int z21)] _ _
        refine a_goto C dX12_into_114 (tgt := 95) rfl ?_
        exact ih95 _ z16 z21 (by omega) hGq95 hoq95 hRq95 (by omega) (by omega) (by omega) (show z21.toInt ≤ x2.toInt by omega) hx95_4 (show x2.toInt - z21.toInt < (σq95.1 270 z16.toInt.toNat).toInt by rw [gs3, gst]; omega) (show (σq95.1 270 z16.toInt.toNat).toInt ≤ 12 by rw [gs3, gst]; omega)
  have j55 : ∀ (σq55 : HS), GIm σq55 → onm [267, 269, 270, 1049, 1050, 1057, 2021, 2026, 2027] σ σq55 → RKm b σq55 → -1 ≤ x2.toInt → AW ids ad ca Γ 55 [none, none, some (.int x2), none, none] [] σq55 := by
    intro σq55 hGq55 hoq55 hRq55 hx55_0
    refine a_iload_n C dX12_into_55 (i := 2) rfl rfl ?_
    refine s_iconst C dX12_into_56 (-1) (by decide) (fun z23 h24 => ?_)
    refine s_ic_ne C dX12_into_57 (tgt := 65) rfl (fun c25 => ?_) (fun c25 => ?_)
    ·
      refine s_bipush C dX12_into_65 (-3) (by decide) (fun z26 h27 => ?_)
      exact a_iret Rt dX12_into_67 rfl (⟨hGq55, hoq55, hRq55⟩)
    ·
      refine s_bipush C dX12_into_60 (-2) (by decide) (fun z28 h29 => ?_)
      refine a_goto C dX12_into_62 (tgt := 67) rfl ?_
      exact a_iret Rt dX12_into_67 rfl (⟨hGq55, hoq55, hRq55⟩)
  refine a_aload_n C dX12_into_0 (i := 0) rfl rfl ?_
  refine a_iload_n C dX12_into_1 (i := 1) rfl rfl ?_
  refine a_callVi C (i := 236) kd_236 (hid 236 (by decide)) ⟨_, _, rfl⟩ (by decide) (S_X12_isPattern_236 (x1 := x1) hid hG) mi_X12_isPattern ml_RX12_393 rfl rfl (Nat.le_of_ble_eq_true rfl) (Nat.le_of_ble_eq_true rfl) (Nat.le_of_ble_eq_true rfl) dX12_into_2 (fun z30 σ31 q32 => ?_)
  obtain ⟨w33, w34, w35⟩ := q32
  rw [w33]
  refine s_if_eq C dX12_into_5 (tgt := 21) rfl (fun c36 => ?_) (fun c36 => ?_)
  ·
    refine s_iconst C dX12_into_21 (-1) (by decide) (fun z37 h38 => ?_)
    exact a_iret Rt dX12_into_22 rfl (⟨hG, onm.rf, hR⟩)
  ·
    refine a_aload_n C dX12_into_8 (i := 0) rfl rfl ?_
    refine a_iload_n C dX12_into_9 (i := 1) rfl rfl ?_
    have g42 := onm.pl (onm.rf : onm [267, 269, 270, 1049, 1050, 1057, 2021, 2026, 2027] σ _) (by decide)
    refine a_callVi C (i := 236) kd_236 (hid 236 (by decide)) ⟨_, _, rfl⟩ (by decide) (S_X12_keepsOf_236 (x1 := x1) hid hG hR (by omega) (by omega)) mi_X12_keepsOf ml_RX12_417 rfl rfl (Nat.le_of_ble_eq_true rfl) (Nat.le_of_ble_eq_true rfl) (Nat.le_of_ble_eq_true rfl) dX12_into_10 (fun z39 σ40 q41 => ?_)
    obtain ⟨hG43, ho44, hR45, w46⟩ := q41
    refine s_if_lt C dX12_into_13 (tgt := 21) rfl (fun c47 => ?_) (fun c47 => ?_)
    ·
      refine s_iconst C dX12_into_21 (-1) (by decide) (fun z48 h49 => ?_)
      exact a_iret Rt dX12_into_22 rfl (⟨hG43, (onm.tr onm.rf (onm.mono ho44 (by decide))), hR45⟩)
    ·
      refine a_iload_n C dX12_into_16 (i := 2) rfl rfl ?_
      refine s_iconst C dX12_into_17 (-1) (by decide) (fun z50 h51 => ?_)
      refine s_ic_ge C dX12_into_18 (tgt := 23) rfl (fun c52 => ?_) (fun c52 => ?_)
      ·
        refine a_aload_n C dX12_into_23 (i := 0) rfl rfl ?_
        refine a_callVi C (i := 236) kd_236 (hid 236 (by decide)) ⟨_, _, rfl⟩ (by decide) (S_X12_lands_236 hid hG43 hR45) mi_X12_lands ml_RX12_435 rfl rfl (Nat.le_of_ble_eq_true rfl) (Nat.le_of_ble_eq_true rfl) (Nat.le_of_ble_eq_true rfl) dX12_into_24 (fun z53 σ54 q55 => ?_)
        obtain ⟨hG56, ho57, hR58, w59⟩ := q55
        refine a_istore_n C dX12_into_27 (i := 3) rfl (by decide) rfl (vs1 := [some (.ref (ad 236)), some (.int x1), some (.int x2), some (.int z53), none]) rfl ?_
        refine a_aload_n C dX12_into_28 (i := 0) rfl rfl ?_
        refine a_aload_n C dX12_into_29 (i := 0) rfl rfl ?_
        refine a_iload_n C dX12_into_30 (i := 1) rfl rfl ?_
        have g63 := onm.pl ((onm.tr (onm.tr onm.rf (onm.mono ho44 (by decide))) (onm.mono ho57 (by decide))) : onm [267, 269, 270, 1049, 1050, 1057, 2021, 2026, 2027] σ _) (by decide)
        refine a_callVi C (i := 236) kd_236 (hid 236 (by decide)) ⟨_, _, rfl⟩ (by decide) (S_X12_aimOf_236 (x1 := x1) hid hG56 hR58 (by omega) (by omega)) mi_X12_aimOf ml_RX12_438 rfl rfl (Nat.le_of_ble_eq_true rfl) (Nat.le_of_ble_eq_true rfl) (Nat.le_of_ble_eq_true rfl) dX12_into_31 (fun z60 σ61 q62 => ?_)
        rw [q62]
        refine a_callVv C (i := 236) kd_236 (hid 236 (by decide)) ⟨_, _, rfl⟩ (by decide) (S_X12_fillsFar_236 (x1 := z60) hid hG56) mi_X12_fillsFar ml_RX12_441 rfl rfl (Nat.le_of_ble_eq_true rfl) (Nat.le_of_ble_eq_true rfl) (Nat.le_of_ble_eq_true rfl) dX12_into_34 (fun σ65 q66 => ?_)
        obtain ⟨hG67, ho68, w70⟩ := q66
        have hR69 := RKm.ony hR58 ho68 (by decide)
        have gFJ : FJ (σ65.1 270) 12 := w70
        refine a_aload_n C dX12_into_37 (i := 0) rfl rfl ?_
        refine a_callVi C (i := 236) kd_236 (hid 236 (by decide)) ⟨_, _, rfl⟩ (by decide) (S_X12_areTwoSoon_236 hid hG67) mi_X12_areTwoSoon ml_RX12_444 rfl rfl (Nat.le_of_ble_eq_true rfl) (Nat.le_of_ble_eq_true rfl) (Nat.le_of_ble_eq_true rfl) dX12_into_38 (fun z71 σ72 q73 => ?_)
        obtain ⟨w74, w75⟩ := q73
        rw [w74]
        refine s_if_ne C dX12_into_41 (tgt := 55) rfl (fun c76 => ?_) (fun c76 => ?_)
        ·
          refine AW.sub (vs' := [none, none, some (.int x2), none, none]) (lsub_of (by simp [lsubB])) ?_
          exact j55 _ hG67 (onm.tr (onm.tr (onm.tr onm.rf (onm.mono ho44 (by decide))) (onm.mono ho57 (by decide))) (onm.mono ho68 (by decide))) hR69 (by omega)
        ·
          refine a_aload_n C dX12_into_44 (i := 0) rfl rfl ?_
          refine a_get C fl_RX12_119 (i := 236) kd_236 (hid 236 (by decide)) (v := .ref (ad 270)) rfl dX12_into_45 ?_
          refine a_iload_n C dX12_into_48 (i := 3) rfl rfl ?_
          refine s_iald C (i := 270) kd_270 (hid 270 (by decide)) al_270 (by omega) (by omega) dX12_into_49 (fun n77 h78 => ?_)
          refine s_val (fun z79 e80 => ?_)
          have gi49 : (σ65.1 270 z53.toInt.toNat).toInt = z79.toInt := congrArg Int32.toInt (by rw [show z53.toInt.toNat = n77 by omega]; exact e80)
          refine s_bipush C dX12_into_50 (99) (by decide) (fun z81 h82 => ?_)
          refine s_ic_ne C dX12_into_52 (tgt := 68) rfl (fun c83 => ?_) (fun c83 => ?_)
          ·
            refine a_iload_n C dX12_into_68 (i := 2) rfl rfl ?_
            refine s_iconst C dX12_into_69 (-1) (by decide) (fun z84 h85 => ?_)
            refine s_ic_ne C dX12_into_70 (tgt := 80) rfl (fun c86 => ?_) (fun c86 => ?_)
            ·
              refine a_iload_n C dX12_into_80 (i := 2) rfl rfl ?_
              refine a_aload_n C dX12_into_81 (i := 0) rfl rfl ?_
              refine a_get C fl_RX12_119 (i := 236) kd_236 (hid 236 (by decide)) (v := .ref (ad 270)) rfl dX12_into_82 ?_
              refine a_iload_n C dX12_into_85 (i := 3) rfl rfl ?_
              refine s_iald C (i := 270) kd_270 (hid 270 (by decide)) al_270 (by omega) (by omega) dX12_into_86 (fun n87 h88 => ?_)
              refine s_val (fun z89 e90 => ?_)
              have g91 : z89.toInt = z79.toInt := congrArg Int32.toInt (e90.symm.trans ((congrArg (σ65.1 270) (show n87 = n77 by omega)).trans e80))
              have gi86 : (σ65.1 270 z53.toInt.toNat).toInt = z89.toInt := congrArg Int32.toInt (by rw [show z53.toInt.toNat = n87 by omega]; exact e90)
              refine s_ic_lt C dX12_into_87 (tgt := 92) rfl (fun c92 => ?_) (fun c92 => ?_)
              ·
                have gJ9 := (gFJ z53 (by omega) (by omega) (by omega)).2.1
                refine s_iconst C dX12_into_92 (0) (by decide) (fun z93 h94 => ?_)
                refine a_istore C dX12_into_93 (by decide) rfl (vs1 := [some (.ref (ad 236)), some (.int x1), some (.int x2), some (.int z53), some (.int z93)]) rfl ?_
                refine AW.sub (vs' := [some (.ref (ad 236)), none, some (.int x2), some (.int z53), some (.int z93)]) (lsub_of (by simp [lsubB])) ?_
                exact j95 100000 _ z53 z93 (by omega) hG67 (onm.tr (onm.tr (onm.tr onm.rf (onm.mono ho44 (by decide))) (onm.mono ho57 (by decide))) (onm.mono ho68 (by decide))) hR69 (by omega) (by omega) (by omega) (show z93.toInt ≤ x2.toInt by omega) gFJ (show x2.toInt - z93.toInt < (σ65.1 270 z53.toInt.toNat).toInt by omega) (show (σ65.1 270 z53.toInt.toNat).toInt ≤ 12 by omega)
              ·
                refine s_iconst C dX12_into_90 (-1) (by decide) (fun z95 h96 => ?_)
                exact a_iret Rt dX12_into_91 rfl (⟨hG67, (onm.tr (onm.tr (onm.tr onm.rf (onm.mono ho44 (by decide))) (onm.mono ho57 (by decide))) (onm.mono ho68 (by decide))), hR69⟩)
            ·
              refine a_aload_n C dX12_into_73 (i := 0) rfl rfl ?_
              refine a_get C fl_RX12_119 (i := 236) kd_236 (hid 236 (by decide)) (v := .ref (ad 270)) rfl dX12_into_74 ?_
              refine a_iload_n C dX12_into_77 (i := 3) rfl rfl ?_
              refine s_iald C (i := 270) kd_270 (hid 270 (by decide)) al_270 (by omega) (by omega) dX12_into_78 (fun n97 h98 => ?_)
              refine s_val (fun z99 e100 => ?_)
              have g101 : z99.toInt = z79.toInt := congrArg Int32.toInt (e100.symm.trans ((congrArg (σ65.1 270) (show n97 = n77 by omega)).trans e80))
              exact a_iret Rt dX12_into_79 rfl (⟨hG67, (onm.tr (onm.tr (onm.tr onm.rf (onm.mono ho44 (by decide))) (onm.mono ho57 (by decide))) (onm.mono ho68 (by decide))), hR69⟩)
          ·
            refine AW.sub (vs' := [none, none, some (.int x2), none, none]) (lsub_of (by simp [lsubB])) ?_
            exact j55 _ hG67 (onm.tr (onm.tr (onm.tr onm.rf (onm.mono ho44 (by decide))) (onm.mono ho57 (by decide))) (onm.mono ho68 (by decide))) hR69 (by omega)
      ·
        refine s_iconst C dX12_into_21 (-1) (by decide) (fun z102 h103 => ?_)
        exact a_iret Rt dX12_into_22 rfl (⟨hG43, (onm.tr onm.rf (onm.mono ho44 (by decide))), hR45⟩)
theorem dX12_orbits_10 : decode cX12_orbits 10 = .ok (.aload_n 0, 1) := by decide +kernel
theorem dX12_orbits_11 : decode cX12_orbits 11 = .ok (.iload_n 1, 1) := by decide +kernel
theorem dX12_orbits_12 : decode cX12_orbits 12 = .ok (.invokevirtual 417, 3) := by decide +kernel
theorem dX12_orbits_15 : decode cX12_orbits 15 = .ok (.ifCond .ge 6, 3) := by decide +kernel
theorem dX12_orbits_18 : decode cX12_orbits 18 = .ok (.bipush (-2), 2) := by decide +kernel
theorem dX12_orbits_20 : decode cX12_orbits 20 = .ok (.ireturn, 1) := by decide +kernel
theorem dX12_orbits_21 : decode cX12_orbits 21 = .ok (.iconst 0, 1) := by decide +kernel
theorem dX12_orbits_22 : decode cX12_orbits 22 = .ok (.istore_n 2, 1) := by decide +kernel
theorem dX12_orbits_23 : decode cX12_orbits 23 = .ok (.iconst 0, 1) := by decide +kernel
theorem dX12_orbits_24 : decode cX12_orbits 24 = .ok (.istore_n 3, 1) := by decide +kernel
theorem dX12_orbits_25 : decode cX12_orbits 25 = .ok (.iconst 0, 1) := by decide +kernel
theorem dX12_orbits_26 : decode cX12_orbits 26 = .ok (.istore 4, 2) := by decide +kernel
theorem dX12_orbits_28 : decode cX12_orbits 28 = .ok (.iload 4, 2) := by decide +kernel
theorem dX12_orbits_30 : decode cX12_orbits 30 = .ok (.aload_n 0, 1) := by decide +kernel
theorem dX12_orbits_31 : decode cX12_orbits 31 = .ok (.getfield 408, 3) := by decide +kernel
theorem dX12_orbits_34 : decode cX12_orbits 34 = .ok (.if_icmp .ge 65, 3) := by decide +kernel
theorem dX12_orbits_37 : decode cX12_orbits 37 = .ok (.iload_n 2, 1) := by decide +kernel
theorem dX12_orbits_38 : decode cX12_orbits 38 = .ok (.iload 4, 2) := by decide +kernel
theorem dX12_orbits_40 : decode cX12_orbits 40 = .ok (.ishr, 1) := by decide +kernel
theorem dX12_orbits_41 : decode cX12_orbits 41 = .ok (.iconst 1, 1) := by decide +kernel
theorem dX12_orbits_42 : decode cX12_orbits 42 = .ok (.iand, 1) := by decide +kernel
theorem dX12_orbits_43 : decode cX12_orbits 43 = .ok (.iconst 1, 1) := by decide +kernel
theorem dX12_orbits_44 : decode cX12_orbits 44 = .ok (.if_icmp .ne 6, 3) := by decide +kernel
theorem dX12_orbits_47 : decode cX12_orbits 47 = .ok (.goto 46, 3) := by decide +kernel
theorem dX12_orbits_50 : decode cX12_orbits 50 = .ok (.iinc 3 1, 3) := by decide +kernel
theorem dX12_orbits_53 : decode cX12_orbits 53 = .ok (.iload 4, 2) := by decide +kernel
theorem dX12_orbits_55 : decode cX12_orbits 55 = .ok (.istore 5, 2) := by decide +kernel
theorem dX12_orbits_57 : decode cX12_orbits 57 = .ok (.iload_n 2, 1) := by decide +kernel
theorem dX12_orbits_58 : decode cX12_orbits 58 = .ok (.iload 5, 2) := by decide +kernel
theorem dX12_orbits_60 : decode cX12_orbits 60 = .ok (.ishr, 1) := by decide +kernel
theorem dX12_orbits_61 : decode cX12_orbits 61 = .ok (.iconst 1, 1) := by decide +kernel
theorem dX12_orbits_62 : decode cX12_orbits 62 = .ok (.iand, 1) := by decide +kernel
theorem dX12_orbits_63 : decode cX12_orbits 63 = .ok (.ifCond .ne 30, 3) := by decide +kernel
theorem dX12_orbits_66 : decode cX12_orbits 66 = .ok (.iload_n 2, 1) := by decide +kernel
theorem dX12_orbits_67 : decode cX12_orbits 67 = .ok (.iconst 1, 1) := by decide +kernel
theorem dX12_orbits_68 : decode cX12_orbits 68 = .ok (.iload 5, 2) := by decide +kernel
theorem dX12_orbits_70 : decode cX12_orbits 70 = .ok (.ishl, 1) := by decide +kernel
theorem dX12_orbits_71 : decode cX12_orbits 71 = .ok (.ior, 1) := by decide +kernel
theorem dX12_orbits_72 : decode cX12_orbits 72 = .ok (.istore_n 2, 1) := by decide +kernel
theorem dX12_orbits_73 : decode cX12_orbits 73 = .ok (.iload 5, 2) := by decide +kernel
theorem dX12_orbits_75 : decode cX12_orbits 75 = .ok (.aload_n 0, 1) := by decide +kernel
theorem dX12_orbits_76 : decode cX12_orbits 76 = .ok (.getfield 116, 3) := by decide +kernel
theorem dX12_orbits_79 : decode cX12_orbits 79 = .ok (.iload 5, 2) := by decide +kernel
theorem dX12_orbits_81 : decode cX12_orbits 81 = .ok (.iaload, 1) := by decide +kernel
theorem dX12_orbits_82 : decode cX12_orbits 82 = .ok (.iadd, 1) := by decide +kernel
theorem dX12_orbits_83 : decode cX12_orbits 83 = .ok (.aload_n 0, 1) := by decide +kernel
theorem dX12_orbits_84 : decode cX12_orbits 84 = .ok (.getfield 408, 3) := by decide +kernel
theorem dX12_orbits_87 : decode cX12_orbits 87 = .ok (.irem, 1) := by decide +kernel
theorem dX12_orbits_88 : decode cX12_orbits 88 = .ok (.istore 5, 2) := by decide +kernel
theorem dX12_orbits_90 : decode cX12_orbits 90 = .ok (.goto (-33), 3) := by decide +kernel
theorem dX12_orbits_93 : decode cX12_orbits 93 = .ok (.iinc 4 1, 3) := by decide +kernel
theorem dX12_orbits_96 : decode cX12_orbits 96 = .ok (.goto (-68), 3) := by decide +kernel
theorem dX12_orbits_99 : decode cX12_orbits 99 = .ok (.iload_n 3, 1) := by decide +kernel
theorem dX12_orbits_100 : decode cX12_orbits 100 = .ok (.ireturn, 1) := by decide +kernel
set_option maxHeartbeats 4000000 in
set_option maxRecDepth 100000 in
theorem S_X12_orbits_236 {l : Launch} {D : va_G} {ids : List Nat} {ad : Nat → Nat} {ca : Nat → ClassId} {σ : HS} {x1 : Int32} (hid : ∀ i, i < 277 → i ∈ ids) (hG : GIm σ) {b : Int} (hR : RKm b σ) : Ki l D ids ad ca yX12_orbits cX12_orbits 6 .int 4 87 [.ref (ad 236), .int x1] σ (fun r σ1 => (GIm σ1) ∧ (onm [269, 1057] σ σ1) ∧ (RKm b σ1)) := by
  refine Ki.of (by decide) (Nat.le_of_ble_eq_true rfl) 4 (fun Γ C Rt => ?_)
  show AW ids ad ca Γ 0 [some (.ref (ad 236)), some (.int x1), none, none, none, none] [] σ
  have j28 : ∀ (d28 : Nat) (σq28 : HS) (y28_2 : Int32) (y28_3 : Int32) (y28_4 : Int32), 16 - y28_4.toInt < d28 → GIm σq28 → onm [269, 1057] σ σq28 → RKm b σq28 → 0 ≤ y28_2.toInt ∧ y28_2.toInt ≤ 65535 → 0 ≤ y28_4.toInt ∧ y28_4.toInt ≤ 16 → (1 ≤ (σq28.1 236 57).toInt) → AW ids ad ca Γ 28 [some (.ref (ad 236)), none, some (.int y28_2), some (.int y28_3), some (.int y28_4), none] [] σq28 := by
    intro d28
    induction d28 with
    | zero =>
      intro σq28 y28_2 y28_3 y28_4 hd28 hGq28 hoq28 hRq28 hx28_0 hx28_1 hx28_2
      exfalso
      omega
    | succ d28 ih28 =>
      intro σq28 y28_2 y28_3 y28_4 hd28 hGq28 hoq28 hRq28 hx28_0 hx28_1 hx28_2
      have j93 : ∀ (σq93 : HS) (y93_2 : Int32) (y93_3 : Int32), GIm σq93 → onm [269, 1057] σ σq93 → RKm b σq93 → 0 ≤ y93_2.toInt ∧ y93_2.toInt ≤ 65535 → 0 ≤ y28_4.toInt ∧ y28_4.toInt ≤ 15 → (1 ≤ (σq93.1 236 57).toInt) → AW ids ad ca Γ 93 [some (.ref (ad 236)), none, some (.int y93_2), some (.int y93_3), some (.int y28_4), none] [] σq93 := by
        intro σq93 y93_2 y93_3 hGq93 hoq93 hRq93 hx93_0 hx93_1 hx93_2
        refine s_iinc C dX12_orbits_93 rfl (1) (by decide) (by omega) (by decide) rfl (fun z1 h2 => ?_)
        show AW ids ad ca Γ 96 [some (.ref (ad 236)), none, some (.int y93_2), some (.int y93_3), some (.int z1), none] _ _
        refine a_goto C dX12_orbits_96 (tgt := 28) rfl ?_
        have g3 := bF_236_57 hGq93
        exact ih28 _ y93_2 y93_3 z1 (by omega) hGq93 hoq93 hRq93 (by omega) (by omega) (show 1 ≤ (σq93.1 236 57).toInt by omega)
      have j57 : ∀ (d57 : Nat) (σq57 : HS) (y57_2 : Int32) (y57_3 : Int32) (y57_5 : Int32), 65536 - y57_2.toInt < d57 → GIm σq57 → onm [269, 1057] σ σq57 → RKm b σq57 → 0 ≤ y57_2.toInt ∧ y57_2.toInt ≤ 65535 → 0 ≤ y57_5.toInt ∧ y57_5.toInt ≤ 15 → 0 ≤ y28_4.toInt ∧ y28_4.toInt ≤ 15 → (1 ≤ (σq57.1 236 57).toInt) → AW ids ad ca Γ 57 [some (.ref (ad 236)), none, some (.int y57_2), some (.int y57_3), some (.int y28_4), some (.int y57_5)] [] σq57 := by
        intro d57
        induction d57 with
        | zero =>
          intro σq57 y57_2 y57_3 y57_5 hd57 hGq57 hoq57 hRq57 hx57_0 hx57_1 hx57_2 hx57_3
          exfalso
          omega
        | succ d57 ih57 =>
          intro σq57 y57_2 y57_3 y57_5 hd57 hGq57 hoq57 hRq57 hx57_0 hx57_1 hx57_2 hx57_3
          refine a_iload_n C dX12_orbits_57 (i := 2) rfl rfl ?_
          refine a_iload C dX12_orbits_58 rfl ?_
          refine a_ishr C dX12_orbits_60 ?_
          refine s_val (fun z4 e5 => ?_)
          refine s_iconst C dX12_orbits_61 (1) (by decide) (fun z6 h7 => ?_)
          refine a_iand C dX12_orbits_62 ?_
          refine s_val (fun z8 e9 => ?_)
          refine s_if_ne C dX12_orbits_63 (tgt := 93) rfl (fun c10 => ?_) (fun c10 => ?_)
          ·
            have g11 := bF_236_57 hGq57
            refine AW.sub (vs' := [some (.ref (ad 236)), none, some (.int y57_2), some (.int y57_3), some (.int y28_4), none]) (lsub_of (by simp [lsubB])) ?_
            exact j93 _ y57_2 y57_3 hGq57 hoq57 hRq57 (by omega) (by omega) (show 1 ≤ (σq57.1 236 57).toInt by omega)
          ·
            refine a_iload_n C dX12_orbits_66 (i := 2) rfl rfl ?_
            refine s_iconst C dX12_orbits_67 (1) (by decide) (fun z12 h13 => ?_)
            refine a_iload C dX12_orbits_68 rfl ?_
            refine a_ishl C dX12_orbits_70 ?_
            refine s_val (fun z14 e15 => ?_)
            refine a_ior C dX12_orbits_71 ?_
            refine s_val (fun z16 e17 => ?_)
            have gor : y57_2.toInt < z16.toInt ∧ z16.toInt ≤ 65535 := by
              rw [← e17, ← e15]
              exact orb (o1 := z6) (by omega) (by omega) (by omega) (by omega) (by rw [e5, e9]; omega)
            refine a_istore_n C dX12_orbits_72 (i := 2) rfl (by decide) rfl (vs1 := [some (.ref (ad 236)), none, some (.int z16), some (.int y57_3), some (.int y28_4), some (.int y57_5)]) rfl ?_
            refine a_iload C dX12_orbits_73 rfl ?_
            refine a_aload_n C dX12_orbits_75 (i := 0) rfl rfl ?_
            refine a_get C fl_RX12_116 (i := 236) kd_236 (hid 236 (by decide)) (v := .ref (ad 269)) rfl dX12_orbits_76 ?_
            refine a_iload C dX12_orbits_79 rfl ?_
            refine s_iald C (i := 269) kd_269 (hid 269 (by decide)) al_269 (by omega) (by omega) dX12_orbits_81 (fun n18 h19 => ?_)
            refine s_val (fun z20 e21 => ?_)
            have g22 := bA_269 hGq57 n18
            rw [e21] at g22
            refine s_iadd C dX12_orbits_82 (by omega) (fun z23 h24 => ?_)
            refine a_aload_n C dX12_orbits_83 (i := 0) rfl rfl ?_
            have g25 := bF_236_57 hGq57
            refine a_get C fl_RX12_408 (i := 236) kd_236 (hid 236 (by decide)) (v := .int (σq57.1 236 57)) rfl dX12_orbits_84 ?_
            refine s_irem C dX12_orbits_87 (by omega) (by omega) (fun z26 h27 => ?_)
            refine a_istore C dX12_orbits_88 (by decide) rfl (vs1 := [some (.ref (ad 236)), none, some (.int z16), some (.int y57_3), some (.int y28_4), some (.int z26)]) rfl ?_
            refine a_goto C dX12_orbits_90 (tgt := 57) rfl ?_
            exact ih57 _ z16 y57_3 z26 (by omega) hGq57 hoq57 hRq57 (by omega) (by omega) (by omega) (show 1 ≤ (σq57.1 236 57).toInt by omega)
      refine a_iload C dX12_orbits_28 rfl ?_
      refine a_aload_n C dX12_orbits_30 (i := 0) rfl rfl ?_
      have g28 := bF_236_57 hGq28
      refine a_get C fl_RX12_408 (i := 236) kd_236 (hid 236 (by decide)) (v := .int (σq28.1 236 57)) rfl dX12_orbits_31 ?_
      refine s_ic_ge C dX12_orbits_34 (tgt := 99) rfl (fun c29 => ?_) (fun c29 => ?_)
      ·
        refine a_iload_n C dX12_orbits_99 (i := 3) rfl rfl ?_
        exact a_iret Rt dX12_orbits_100 rfl (⟨hGq28, hoq28, hRq28⟩)
      ·
        refine a_iload_n C dX12_orbits_37 (i := 2) rfl rfl ?_
        refine a_iload C dX12_orbits_38 rfl ?_
        refine s_ishrU C dX12_orbits_40 (fun z30 => ?_)
        refine s_iconst C dX12_orbits_41 (1) (by decide) (fun z32 h33 => ?_)
        refine s_iand C dX12_orbits_42 (by omega) (fun z34 h35 => ?_)
        refine s_iconst C dX12_orbits_43 (1) (by decide) (fun z36 h37 => ?_)
        refine s_ic_ne C dX12_orbits_44 (tgt := 50) rfl (fun c38 => ?_) (fun c38 => ?_)
        ·
          refine s_iincU C dX12_orbits_50 rfl (by decide) rfl (fun z39 => ?_)
          show AW ids ad ca Γ 53 [some (.ref (ad 236)), none, some (.int y28_2), some (.int z39), some (.int y28_4), none] _ _
          refine a_iload C dX12_orbits_53 rfl ?_
          refine a_istore C dX12_orbits_55 (by decide) rfl (vs1 := [some (.ref (ad 236)), none, some (.int y28_2), some (.int z39), some (.int y28_4), some (.int y28_4)]) rfl ?_
          exact j57 100000 _ y28_2 z39 y28_4 (by omega) hGq28 hoq28 hRq28 (by omega) (by omega) (by omega) (show 1 ≤ (σq28.1 236 57).toInt by omega)
        ·
          refine a_goto C dX12_orbits_47 (tgt := 93) rfl ?_
          exact j93 _ y28_2 y28_3 hGq28 hoq28 hRq28 (by omega) (by omega) (show 1 ≤ (σq28.1 236 57).toInt by omega)
  refine a_aload_n C dX12_orbits_0 (i := 0) rfl rfl ?_
  refine a_iload_n C dX12_orbits_1 (i := 1) rfl rfl ?_
  refine a_callVi C (i := 236) kd_236 (hid 236 (by decide)) ⟨_, _, rfl⟩ (by decide) (S_X12_isPattern_236 (x1 := x1) hid hG) mi_X12_isPattern ml_RX12_393 rfl rfl (Nat.le_of_ble_eq_true rfl) (Nat.le_of_ble_eq_true rfl) (Nat.le_of_ble_eq_true rfl) dX12_orbits_2 (fun z41 σ42 q43 => ?_)
  obtain ⟨w44, w45, w46⟩ := q43
  rw [w44]
  refine s_if_ne C dX12_orbits_5 (tgt := 10) rfl (fun c47 => ?_) (fun c47 => ?_)
  ·
    refine a_aload_n C dX12_orbits_10 (i := 0) rfl rfl ?_
    refine a_iload_n C dX12_orbits_11 (i := 1) rfl rfl ?_
    have g51 := onm.pl (onm.rf : onm [269, 1057] σ _) (by decide)
    refine a_callVi C (i := 236) kd_236 (hid 236 (by decide)) ⟨_, _, rfl⟩ (by decide) (S_X12_keepsOf_236 (x1 := x1) hid hG hR (by omega) (by omega)) mi_X12_keepsOf ml_RX12_417 rfl rfl (Nat.le_of_ble_eq_true rfl) (Nat.le_of_ble_eq_true rfl) (Nat.le_of_ble_eq_true rfl) dX12_orbits_12 (fun z48 σ49 q50 => ?_)
    obtain ⟨hG52, ho53, hR54, w55⟩ := q50
    refine s_if_ge C dX12_orbits_15 (tgt := 21) rfl (fun c56 => ?_) (fun c56 => ?_)
    ·
      refine s_iconst C dX12_orbits_21 (0) (by decide) (fun z57 h58 => ?_)
      refine a_istore_n C dX12_orbits_22 (i := 2) rfl (by decide) rfl (vs1 := [some (.ref (ad 236)), some (.int x1), some (.int z57), none, none, none]) rfl ?_
      refine s_iconst C dX12_orbits_23 (0) (by decide) (fun z59 h60 => ?_)
      refine a_istore_n C dX12_orbits_24 (i := 3) rfl (by decide) rfl (vs1 := [some (.ref (ad 236)), some (.int x1), some (.int z57), some (.int z59), none, none]) rfl ?_
      refine s_iconst C dX12_orbits_25 (0) (by decide) (fun z61 h62 => ?_)
      refine a_istore C dX12_orbits_26 (by decide) rfl (vs1 := [some (.ref (ad 236)), some (.int x1), some (.int z57), some (.int z59), some (.int z61), none]) rfl ?_
      have g63 := bF_236_57 hG52
      refine AW.sub (vs' := [some (.ref (ad 236)), none, some (.int z57), some (.int z59), some (.int z61), none]) (lsub_of (by simp [lsubB])) ?_
      exact j28 100000 _ z57 z59 z61 (by omega) hG52 (onm.tr onm.rf (onm.mono ho53 (by decide))) hR54 (by omega) (by omega) (show 1 ≤ (σ49.1 236 57).toInt by omega)
    ·
      refine s_bipush C dX12_orbits_18 (-2) (by decide) (fun z64 h65 => ?_)
      exact a_iret Rt dX12_orbits_20 rfl (⟨hG52, (onm.tr onm.rf (onm.mono ho53 (by decide))), hR54⟩)
  ·
    refine s_iconst C dX12_orbits_8 (-1) (by decide) (fun z66 h67 => ?_)
    exact a_iret Rt dX12_orbits_9 rfl (⟨hG, onm.rf, hR⟩)
