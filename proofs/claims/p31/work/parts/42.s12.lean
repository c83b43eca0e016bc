theorem dX4_lookAt_0 : decode cX4_lookAt 0 = .ok (.aload_n 0, 1) := by decide +kernel
theorem dX4_lookAt_1 : decode cX4_lookAt 1 = .ok (.getfield 12, 3) := by decide +kernel
theorem dX4_lookAt_4 : decode cX4_lookAt 4 = .ok (.getfield 107, 3) := by decide +kernel
theorem dX4_lookAt_7 : decode cX4_lookAt 7 = .ok (.iconst 0, 1) := by decide +kernel
theorem dX4_lookAt_8 : decode cX4_lookAt 8 = .ok (.aload_n 1, 1) := by decide +kernel
theorem dX4_lookAt_9 : decode cX4_lookAt 9 = .ok (.getfield 110, 3) := by decide +kernel
theorem dX4_lookAt_12 : decode cX4_lookAt 12 = .ok (.iload_n 3, 1) := by decide +kernel
theorem dX4_lookAt_13 : decode cX4_lookAt 13 = .ok (.iaload, 1) := by decide +kernel
theorem dX4_lookAt_14 : decode cX4_lookAt 14 = .ok (.iastore, 1) := by decide +kernel
theorem dX4_lookAt_15 : decode cX4_lookAt 15 = .ok (.aload_n 0, 1) := by decide +kernel
theorem dX4_lookAt_16 : decode cX4_lookAt 16 = .ok (.getfield 12, 3) := by decide +kernel
theorem dX4_lookAt_19 : decode cX4_lookAt 19 = .ok (.getfield 107, 3) := by decide +kernel
theorem dX4_lookAt_22 : decode cX4_lookAt 22 = .ok (.iconst 1, 1) := by decide +kernel
theorem dX4_lookAt_23 : decode cX4_lookAt 23 = .ok (.aload_n 1, 1) := by decide +kernel
theorem dX4_lookAt_24 : decode cX4_lookAt 24 = .ok (.getfield 113, 3) := by decide +kernel
theorem dX4_lookAt_27 : decode cX4_lookAt 27 = .ok (.iload_n 3, 1) := by decide +kernel
theorem dX4_lookAt_28 : decode cX4_lookAt 28 = .ok (.iaload, 1) := by decide +kernel
theorem dX4_lookAt_29 : decode cX4_lookAt 29 = .ok (.iastore, 1) := by decide +kernel
theorem dX4_lookAt_30 : decode cX4_lookAt 30 = .ok (.aload_n 0, 1) := by decide +kernel
theorem dX4_lookAt_31 : decode cX4_lookAt 31 = .ok (.getfield 12, 3) := by decide +kernel
theorem dX4_lookAt_34 : decode cX4_lookAt 34 = .ok (.getfield 107, 3) := by decide +kernel
theorem dX4_lookAt_37 : decode cX4_lookAt 37 = .ok (.iconst 3, 1) := by decide +kernel
theorem dX4_lookAt_38 : decode cX4_lookAt 38 = .ok (.aload_n 2, 1) := by decide +kernel
theorem dX4_lookAt_39 : decode cX4_lookAt 39 = .ok (.getfield 78, 3) := by decide +kernel
theorem dX4_lookAt_42 : decode cX4_lookAt 42 = .ok (.iastore, 1) := by decide +kernel
theorem dX4_lookAt_43 : decode cX4_lookAt 43 = .ok (.aload_n 0, 1) := by decide +kernel
theorem dX4_lookAt_44 : decode cX4_lookAt 44 = .ok (.getfield 12, 3) := by decide +kernel
theorem dX4_lookAt_47 : decode cX4_lookAt 47 = .ok (.getfield 107, 3) := by decide +kernel
theorem dX4_lookAt_50 : decode cX4_lookAt 50 = .ok (.iconst 4, 1) := by decide +kernel
theorem dX4_lookAt_51 : decode cX4_lookAt 51 = .ok (.aload_n 2, 1) := by decide +kernel
theorem dX4_lookAt_52 : decode cX4_lookAt 52 = .ok (.getfield 42, 3) := by decide +kernel
theorem dX4_lookAt_55 : decode cX4_lookAt 55 = .ok (.iastore, 1) := by decide +kernel
theorem dX4_lookAt_56 : decode cX4_lookAt 56 = .ok (.aload_n 0, 1) := by decide +kernel
theorem dX4_lookAt_57 : decode cX4_lookAt 57 = .ok (.getfield 12, 3) := by decide +kernel
theorem dX4_lookAt_60 : decode cX4_lookAt 60 = .ok (.getfield 107, 3) := by decide +kernel
theorem dX4_lookAt_63 : decode cX4_lookAt 63 = .ok (.iconst 5, 1) := by decide +kernel
theorem dX4_lookAt_64 : decode cX4_lookAt 64 = .ok (.iload 4, 2) := by decide +kernel
theorem dX4_lookAt_66 : decode cX4_lookAt 66 = .ok (.iastore, 1) := by decide +kernel
theorem dX4_lookAt_67 : decode cX4_lookAt 67 = .ok (.aload_n 0, 1) := by decide +kernel
theorem dX4_lookAt_68 : decode cX4_lookAt 68 = .ok (.getfield 12, 3) := by decide +kernel
theorem dX4_lookAt_71 : decode cX4_lookAt 71 = .ok (.getfield 107, 3) := by decide +kernel
theorem dX4_lookAt_74 : decode cX4_lookAt 74 = .ok (.bipush 6, 2) := by decide +kernel
theorem dX4_lookAt_76 : decode cX4_lookAt 76 = .ok (.iload_n 3, 1) := by decide +kernel
theorem dX4_lookAt_77 : decode cX4_lookAt 77 = .ok (.iastore, 1) := by decide +kernel
theorem dX4_lookAt_78 : decode cX4_lookAt 78 = .ok (.aload_n 0, 1) := by decide +kernel
theorem dX4_lookAt_79 : decode cX4_lookAt 79 = .ok (.getfield 12, 3) := by decide +kernel
theorem dX4_lookAt_82 : decode cX4_lookAt 82 = .ok (.getfield 107, 3) := by decide +kernel
theorem dX4_lookAt_85 : decode cX4_lookAt 85 = .ok (.bipush 7, 2) := by decide +kernel
theorem dX4_lookAt_87 : decode cX4_lookAt 87 = .ok (.aload_n 2, 1) := by decide +kernel
theorem dX4_lookAt_88 : decode cX4_lookAt 88 = .ok (.getfield 98, 3) := by decide +kernel
theorem dX4_lookAt_91 : decode cX4_lookAt 91 = .ok (.iastore, 1) := by decide +kernel
theorem dX4_lookAt_92 : decode cX4_lookAt 92 = .ok (.aload_n 0, 1) := by decide +kernel
theorem dX4_lookAt_93 : decode cX4_lookAt 93 = .ok (.getfield 12, 3) := by decide +kernel
theorem dX4_lookAt_96 : decode cX4_lookAt 96 = .ok (.getfield 107, 3) := by decide +kernel
theorem dX4_lookAt_99 : decode cX4_lookAt 99 = .ok (.bipush 8, 2) := by decide +kernel
theorem dX4_lookAt_101 : decode cX4_lookAt 101 = .ok (.aload_n 2, 1) := by decide +kernel
theorem dX4_lookAt_102 : decode cX4_lookAt 102 = .ok (.getfield 78, 3) := by decide +kernel
theorem dX4_lookAt_105 : decode cX4_lookAt 105 = .ok (.iconst 1, 1) := by decide +kernel
theorem dX4_lookAt_106 : decode cX4_lookAt 106 = .ok (.iand, 1) := by decide +kernel
theorem dX4_lookAt_107 : decode cX4_lookAt 107 = .ok (.iastore, 1) := by decide +kernel
theorem dX4_lookAt_108 : decode cX4_lookAt 108 = .ok (.return_, 1) := by decide +kernel
set_option maxHeartbeats 4000000 in
set_option maxRecDepth 100000 in
theorem S_X4_lookAt_8_30_56 {l : Launch} {D : va_G} {ids : List Nat} {ad : Nat → Nat} {ca : Nat → ClassId} {σ : HS} {x3 : Int32} {x4 : Int32} (hid : ∀ i, i < 277 → i ∈ ids) (hG : GIc σ) (hx3 : 0 ≤ x3.toInt ∧ x3.toInt ≤ 6) : Kv l D ids ad ca yX4_lookAt cX4_lookAt 5 0 0 [.ref (ad 8), .ref (ad 30), .ref (ad 56), .int x3, .int x4] σ (fun σ1 => (GIc σ1) ∧ (ony [10] σ σ1)) := by
  refine Kv.of (by decide) (Nat.le_of_ble_eq_true rfl) 0 (fun Γ C Rt => ?_)
  show AW ids ad ca Γ 0 [some (.ref (ad 8)), some (.ref (ad 30)), some (.ref (ad 56)), some (.int x3), some (.int x4)] [] σ
  refine a_aload_n C dX4_lookAt_0 (i := 0) rfl rfl ?_
  refine a_get C fl_RX4_12 (i := 8) kd_8 (hid 8 (by decide)) (v := .ref (ad 9)) rfl dX4_lookAt_1 ?_
  refine a_get C fl_RX4_107 (i := 9) kd_9 (hid 9 (by decide)) (v := .ref (ad 10)) rfl dX4_lookAt_4 ?_
  refine s_iconst C dX4_lookAt_7 (0) (by decide) (fun z1 h2 => ?_)
  refine a_aload_n C dX4_lookAt_8 (i := 1) rfl rfl ?_
  refine a_get C fl_RX4_110 (i := 30) kd_30 (hid 30 (by decide)) (v := .ref (ad 31)) rfl dX4_lookAt_9 ?_
  refine a_iload_n C dX4_lookAt_12 (i := 3) rfl rfl ?_
  refine s_iald C (i := 31) kd_31 (hid 31 (by decide)) al_31 (by omega) (by omega) dX4_lookAt_13 (fun n3 h4 => ?_)
  refine s_val (fun z5 e6 => ?_)
  refine s_iast C (i := 10) kd_10 (hid 10 (by decide)) al_10 (by omega) (by omega) dX4_lookAt_14 (fun n7 h8 => ?_)
  have hG9 := wA_10 (v := z5) (j := n7) hG
  refine a_aload_n C dX4_lookAt_15 (i := 0) rfl rfl ?_
  refine a_get C fl_RX4_12 (i := 8) kd_8 (hid 8 (by decide)) (v := .ref (ad 9)) rfl dX4_lookAt_16 ?_
  refine a_get C fl_RX4_107 (i := 9) kd_9 (hid 9 (by decide)) (v := .ref (ad 10)) rfl dX4_lookAt_19 ?_
  refine s_iconst C dX4_lookAt_22 (1) (by decide) (fun z10 h11 => ?_)
  refine a_aload_n C dX4_lookAt_23 (i := 1) rfl rfl ?_
  refine a_get C fl_RX4_113 (i := 30) kd_30 (hid 30 (by decide)) (v := .ref (ad 32)) rfl dX4_lookAt_24 ?_
  refine a_iload_n C dX4_lookAt_27 (i := 3) rfl rfl ?_
  refine s_iald C (i := 32) kd_32 (hid 32 (by decide)) al_32 (by omega) (by omega) dX4_lookAt_28 (fun n12 h13 => ?_)
  refine s_val (fun z14 e15 => ?_)
  refine s_iast C (i := 10) kd_10 (hid 10 (by decide)) al_10 (by omega) (by omega) dX4_lookAt_29 (fun n16 h17 => ?_)
  have hG18 := wA_10 (v := z14) (j := n16) hG9
  refine a_aload_n C dX4_lookAt_30 (i := 0) rfl rfl ?_
  refine a_get C fl_RX4_12 (i := 8) kd_8 (hid 8 (by decide)) (v := .ref (ad 9)) rfl dX4_lookAt_31 ?_
  refine a_get C fl_RX4_107 (i := 9) kd_9 (hid 9 (by decide)) (v := .ref (ad 10)) rfl dX4_lookAt_34 ?_
  refine s_iconst C dX4_lookAt_37 (3) (by decide) (fun z19 h20 => ?_)
  refine a_aload_n C dX4_lookAt_38 (i := 2) rfl rfl ?_
  refine a_get C fl_RX4_78 (i := 56) kd_56 (hid 56 (by decide)) (v := .int (σ.1 56 4)) rfl dX4_lookAt_39 ?_
  refine s_iast C (i := 10) kd_10 (hid 10 (by decide)) al_10 (by omega) (by omega) dX4_lookAt_42 (fun n21 h22 => ?_)
  have hG23 := wA_10 (v := (σ.1 56 4)) (j := n21) hG18
  refine a_aload_n C dX4_lookAt_43 (i := 0) rfl rfl ?_
  refine a_get C fl_RX4_12 (i := 8) kd_8 (hid 8 (by decide)) (v := .ref (ad 9)) rfl dX4_lookAt_44 ?_
  refine a_get C fl_RX4_107 (i := 9) kd_9 (hid 9 (by decide)) (v := .ref (ad 10)) rfl dX4_lookAt_47 ?_
  refine s_iconst C dX4_lookAt_50 (4) (by decide) (fun z24 h25 => ?_)
  refine a_aload_n C dX4_lookAt_51 (i := 2) rfl rfl ?_
  refine a_get C fl_RX4_42 (i := 56) kd_56 (hid 56 (by decide)) (v := .int (σ.1 56 5)) rfl dX4_lookAt_52 ?_
  refine s_iast C (i := 10) kd_10 (hid 10 (by decide)) al_10 (by omega) (by omega) dX4_lookAt_55 (fun n26 h27 => ?_)
  have hG28 := wA_10 (v := (σ.1 56 5)) (j := n26) hG23
  refine a_aload_n C dX4_lookAt_56 (i := 0) rfl rfl ?_
  refine a_get C fl_RX4_12 (i := 8) kd_8 (hid 8 (by decide)) (v := .ref (ad 9)) rfl dX4_lookAt_57 ?_
  refine a_get C fl_RX4_107 (i := 9) kd_9 (hid 9 (by decide)) (v := .ref (ad 10)) rfl dX4_lookAt_60 ?_
  refine s_iconst C dX4_lookAt_63 (5) (by decide) (fun z29 h30 => ?_)
  refine a_iload C dX4_lookAt_64 rfl ?_
  refine s_iast C (i := 10) kd_10 (hid 10 (by decide)) al_10 (by omega) (by omega) dX4_lookAt_66 (fun n31 h32 => ?_)
  have hG33 := wA_10 (v := x4) (j := n31) hG28
  refine a_aload_n C dX4_lookAt_67 (i := 0) rfl rfl ?_
  refine a_get C fl_RX4_12 (i := 8) kd_8 (hid 8 (by decide)) (v := .ref (ad 9)) rfl dX4_lookAt_68 ?_
  refine a_get C fl_RX4_107 (i := 9) kd_9 (hid 9 (by decide)) (v := .ref (ad 10)) rfl dX4_lookAt_71 ?_
  refine s_bipush C dX4_lookAt_74 (6) (by decide) (fun z34 h35 => ?_)
  refine a_iload_n C dX4_lookAt_76 (i := 3) rfl rfl ?_
  refine s_iast C (i := 10) kd_10 (hid 10 (by decide)) al_10 (by omega) (by omega) dX4_lookAt_77 (fun n36 h37 => ?_)
  have hG38 := wA_10 (v := x3) (j := n36) hG33
  refine a_aload_n C dX4_lookAt_78 (i := 0) rfl rfl ?_
  refine a_get C fl_RX4_12 (i := 8) kd_8 (hid 8 (by decide)) (v := .ref (ad 9)) rfl dX4_lookAt_79 ?_
  refine a_get C fl_RX4_107 (i := 9) kd_9 (hid 9 (by decide)) (v := .ref (ad 10)) rfl dX4_lookAt_82 ?_
  refine s_bipush C dX4_lookAt_85 (7) (by decide) (fun z39 h40 => ?_)
  refine a_aload_n C dX4_lookAt_87 (i := 2) rfl rfl ?_
  refine a_get C fl_RX4_98 (i := 56) kd_56 (hid 56 (by decide)) (v := .int (σ.1 56 7)) rfl dX4_lookAt_88 ?_
  refine s_iast C (i := 10) kd_10 (hid 10 (by decide)) al_10 (by omega) (by omega) dX4_lookAt_91 (fun n41 h42 => ?_)
  have hG43 := wA_10 (v := (σ.1 56 7)) (j := n41) hG38
  refine a_aload_n C dX4_lookAt_92 (i := 0) rfl rfl ?_
  refine a_get C fl_RX4_12 (i := 8) kd_8 (hid 8 (by decide)) (v := .ref (ad 9)) rfl dX4_lookAt_93 ?_
  refine a_get C fl_RX4_107 (i := 9) kd_9 (hid 9 (by decide)) (v := .ref (ad 10)) rfl dX4_lookAt_96 ?_
  refine s_bipush C dX4_lookAt_99 (8) (by decide) (fun z44 h45 => ?_)
  refine a_aload_n C dX4_lookAt_101 (i := 2) rfl rfl ?_
  refine a_get C fl_RX4_78 (i := 56) kd_56 (hid 56 (by decide)) (v := .int (σ.1 56 4)) rfl dX4_lookAt_102 ?_
  refine s_iconst C dX4_lookAt_105 (1) (by decide) (fun z46 h47 => ?_)
  refine s_iand C dX4_lookAt_106 (by omega) (fun z48 h49 => ?_)
  refine s_iast C (i := 10) kd_10 (hid 10 (by decide)) al_10 (by omega) (by omega) dX4_lookAt_107 (fun n50 h51 => ?_)
  have hG52 := wA_10 (v := z48) (j := n50) hG43
  exact a_vret Rt dX4_lookAt_108 (⟨hG52, (ony.I (ony.I (ony.I (ony.I (ony.I (ony.I (ony.I (ony.I ony.rf (by decide)) (by decide)) (by decide)) (by decide)) (by decide)) (by decide)) (by decide)) (by decide))⟩)
theorem dX4_catchOne_0 : decode cX4_catchOne 0 = .ok (.aload_n 2, 1) := by decide +kernel
theorem dX4_catchOne_1 : decode cX4_catchOne 1 = .ok (.aload_n 1, 1) := by decide +kernel
theorem dX4_catchOne_2 : decode cX4_catchOne 2 = .ok (.invokevirtual 84, 3) := by decide +kernel
theorem dX4_catchOne_5 : decode cX4_catchOne 5 = .ok (.istore 5, 2) := by decide +kernel
theorem dX4_catchOne_7 : decode cX4_catchOne 7 = .ok (.iload 4, 2) := by decide +kernel
theorem dX4_catchOne_9 : decode cX4_catchOne 9 = .ok (.iconst (-1), 1) := by decide +kernel
theorem dX4_catchOne_10 : decode cX4_catchOne 10 = .ok (.if_icmp .eq 33, 3) := by decide +kernel
theorem dX4_catchOne_13 : decode cX4_catchOne 13 = .ok (.bipush 100, 2) := by decide +kernel
theorem dX4_catchOne_15 : decode cX4_catchOne 15 = .ok (.iload 4, 2) := by decide +kernel
theorem dX4_catchOne_17 : decode cX4_catchOne 17 = .ok (.iconst 4, 1) := by decide +kernel
theorem dX4_catchOne_18 : decode cX4_catchOne 18 = .ok (.aload_n 2, 1) := by decide +kernel
theorem dX4_catchOne_19 : decode cX4_catchOne 19 = .ok (.getfield 78, 3) := by decide +kernel
theorem dX4_catchOne_22 : decode cX4_catchOne 22 = .ok (.imul, 1) := by decide +kernel
theorem dX4_catchOne_23 : decode cX4_catchOne 23 = .ok (.invokestatic 88, 3) := by decide +kernel
theorem dX4_catchOne_26 : decode cX4_catchOne 26 = .ok (.aload_n 0, 1) := by decide +kernel
theorem dX4_catchOne_27 : decode cX4_catchOne 27 = .ok (.aload_n 1, 1) := by decide +kernel
theorem dX4_catchOne_28 : decode cX4_catchOne 28 = .ok (.iconst 1, 1) := by decide +kernel
theorem dX4_catchOne_29 : decode cX4_catchOne 29 = .ok (.iload 5, 2) := by decide +kernel
theorem dX4_catchOne_31 : decode cX4_catchOne 31 = .ok (.invokevirtual 38, 3) := by decide +kernel
theorem dX4_catchOne_34 : decode cX4_catchOne 34 = .ok (.if_icmp .ge 9, 3) := by decide +kernel
theorem dX4_catchOne_37 : decode cX4_catchOne 37 = .ok (.aload_n 2, 1) := by decide +kernel
theorem dX4_catchOne_38 : decode cX4_catchOne 38 = .ok (.iload_n 3, 1) := by decide +kernel
theorem dX4_catchOne_39 : decode cX4_catchOne 39 = .ok (.invokevirtual 64, 3) := by decide +kernel
theorem dX4_catchOne_42 : decode cX4_catchOne 42 = .ok (.return_, 1) := by decide +kernel
theorem dX4_catchOne_43 : decode cX4_catchOne 43 = .ok (.aload_n 2, 1) := by decide +kernel
theorem dX4_catchOne_44 : decode cX4_catchOne 44 = .ok (.dup, 1) := by decide +kernel
theorem dX4_catchOne_45 : decode cX4_catchOne 45 = .ok (.getfield 92, 3) := by decide +kernel
theorem dX4_catchOne_48 : decode cX4_catchOne 48 = .ok (.aload_n 0, 1) := by decide +kernel
theorem dX4_catchOne_49 : decode cX4_catchOne 49 = .ok (.aload_n 1, 1) := by decide +kernel
theorem dX4_catchOne_50 : decode cX4_catchOne 50 = .ok (.iconst 3, 1) := by decide +kernel
theorem dX4_catchOne_51 : decode cX4_catchOne 51 = .ok (.iconst 0, 1) := by decide +kernel
theorem dX4_catchOne_52 : decode cX4_catchOne 52 = .ok (.invokevirtual 38, 3) := by decide +kernel
theorem dX4_catchOne_55 : decode cX4_catchOne 55 = .ok (.iadd, 1) := by decide +kernel
theorem dX4_catchOne_56 : decode cX4_catchOne 56 = .ok (.putfield 92, 3) := by decide +kernel
theorem dX4_catchOne_59 : decode cX4_catchOne 59 = .ok (.aload_n 2, 1) := by decide +kernel
theorem dX4_catchOne_60 : decode cX4_catchOne 60 = .ok (.sipush 999, 3) := by decide +kernel
theorem dX4_catchOne_63 : decode cX4_catchOne 63 = .ok (.aload_n 2, 1) := by decide +kernel
theorem dX4_catchOne_64 : decode cX4_catchOne 64 = .ok (.getfield 42, 3) := by decide +kernel
theorem dX4_catchOne_67 : decode cX4_catchOne 67 = .ok (.aload_n 0, 1) := by decide +kernel
theorem dX4_catchOne_68 : decode cX4_catchOne 68 = .ok (.aload_n 1, 1) := by decide +kernel
theorem dX4_catchOne_69 : decode cX4_catchOne 69 = .ok (.iconst 0, 1) := by decide +kernel
theorem dX4_catchOne_70 : decode cX4_catchOne 70 = .ok (.iload 5, 2) := by decide +kernel
theorem dX4_catchOne_72 : decode cX4_catchOne 72 = .ok (.invokevirtual 38, 3) := by decide +kernel
theorem dX4_catchOne_75 : decode cX4_catchOne 75 = .ok (.iadd, 1) := by decide +kernel
theorem dX4_catchOne_76 : decode cX4_catchOne 76 = .ok (.invokestatic 95, 3) := by decide +kernel
theorem dX4_catchOne_79 : decode cX4_catchOne 79 = .ok (.putfield 42, 3) := by decide +kernel
theorem dX4_catchOne_82 : decode cX4_catchOne 82 = .ok (.aload_n 2, 1) := by decide +kernel
theorem dX4_catchOne_83 : decode cX4_catchOne 83 = .ok (.dup, 1) := by decide +kernel
theorem dX4_catchOne_84 : decode cX4_catchOne 84 = .ok (.getfield 98, 3) := by decide +kernel
theorem dX4_catchOne_87 : decode cX4_catchOne 87 = .ok (.iconst 1, 1) := by decide +kernel
theorem dX4_catchOne_88 : decode cX4_catchOne 88 = .ok (.iadd, 1) := by decide +kernel
theorem dX4_catchOne_89 : decode cX4_catchOne 89 = .ok (.putfield 98, 3) := by decide +kernel
theorem dX4_catchOne_92 : decode cX4_catchOne 92 = .ok (.aload_n 2, 1) := by decide +kernel
theorem dX4_catchOne_93 : decode cX4_catchOne 93 = .ok (.getfield 101, 3) := by decide +kernel
theorem dX4_catchOne_96 : decode cX4_catchOne 96 = .ok (.iload_n 3, 1) := by decide +kernel
theorem dX4_catchOne_97 : decode cX4_catchOne 97 = .ok (.dup2, 1) := by decide +kernel
theorem dX4_catchOne_98 : decode cX4_catchOne 98 = .ok (.iaload, 1) := by decide +kernel
theorem dX4_catchOne_99 : decode cX4_catchOne 99 = .ok (.iconst 1, 1) := by decide +kernel
theorem dX4_catchOne_100 : decode cX4_catchOne 100 = .ok (.iadd, 1) := by decide +kernel
theorem dX4_catchOne_101 : decode cX4_catchOne 101 = .ok (.iastore, 1) := by decide +kernel
theorem dX4_catchOne_102 : decode cX4_catchOne 102 = .ok (.aload_n 2, 1) := by decide +kernel
theorem dX4_catchOne_103 : decode cX4_catchOne 103 = .ok (.getfield 74, 3) := by decide +kernel
theorem dX4_catchOne_106 : decode cX4_catchOne 106 = .ok (.iload_n 3, 1) := by decide +kernel
theorem dX4_catchOne_107 : decode cX4_catchOne 107 = .ok (.iload 5, 2) := by decide +kernel
theorem dX4_catchOne_109 : decode cX4_catchOne 109 = .ok (.iastore, 1) := by decide +kernel
theorem dX4_catchOne_110 : decode cX4_catchOne 110 = .ok (.iload 5, 2) := by decide +kernel
theorem dX4_catchOne_112 : decode cX4_catchOne 112 = .ok (.ifCond .ne 10, 3) := by decide +kernel
theorem dX4_catchOne_115 : decode cX4_catchOne 115 = .ok (.aload_n 2, 1) := by decide +kernel
theorem dX4_catchOne_116 : decode cX4_catchOne 116 = .ok (.getfield 104, 3) := by decide +kernel
theorem dX4_catchOne_119 : decode cX4_catchOne 119 = .ok (.iload_n 3, 1) := by decide +kernel
theorem dX4_catchOne_120 : decode cX4_catchOne 120 = .ok (.iconst 1, 1) := by decide +kernel
theorem dX4_catchOne_121 : decode cX4_catchOne 121 = .ok (.iastore, 1) := by decide +kernel
theorem dX4_catchOne_122 : decode cX4_catchOne 122 = .ok (.return_, 1) := by decide +kernel
set_option maxHeartbeats 4000000 in
set_option maxRecDepth 100000 in
theorem S_X4_catchOne_8_30_56 {l : Launch} {D : va_G} {ids : List Nat} {ad : Nat → Nat} {ca : Nat → ClassId} {σ : HS} {x3 : Int32} {x4 : Int32} (hid : ∀ i, i < 277 → i ∈ ids) (hG : GIc σ) (hx3 : 0 ≤ x3.toInt ∧ x3.toInt ≤ 6) : Kv l D ids ad ca yX4_catchOne cX4_catchOne 6 3 74 [.ref (ad 8), .ref (ad 30), .ref (ad 56), .int x3, .int x4] σ (fun σ1 => (GIc σ1) ∧ (ony [9, 10, 11, 56, 57, 58, 59] σ σ1)) := by
  refine Kv.of (by decide) (Nat.le_of_ble_eq_true rfl) 1 (fun Γ C Rt => ?_)
  show AW ids ad ca Γ 0 [some (.ref (ad 8)), some (.ref (ad 30)), some (.ref (ad 56)), some (.int x3), some (.int x4), none] [] σ
  have j43 : ∀ (σq43 : HS) (y43_5 : Int32), GIc σq43 → ony [9, 10, 11, 56, 57, 58, 59] σ σq43 → AW ids ad ca Γ 43 [some (.ref (ad 8)), some (.ref (ad 30)), some (.ref (ad 56)), some (.int x3), none, some (.int y43_5)] [] σq43 := by
    intro σq43 y43_5 hGq43 hoq43
    refine a_aload_n C dX4_catchOne_43 (i := 2) rfl rfl ?_
    refine a_dup C dX4_catchOne_44 rfl ?_
    refine a_get C fl_RX4_92 (i := 56) kd_56 (hid 56 (by decide)) (v := .int (σq43.1 56 8)) rfl dX4_catchOne_45 ?_
    refine a_aload_n C dX4_catchOne_48 (i := 0) rfl rfl ?_
    refine a_aload_n C dX4_catchOne_49 (i := 1) rfl rfl ?_
    refine s_iconst C dX4_catchOne_50 (3) (by decide) (fun z1 h2 => ?_)
    refine s_iconst C dX4_catchOne_51 (0) (by decide) (fun z3 h4 => ?_)
    refine a_callVi C (i := 8) kd_8 (hid 8 (by decide)) ⟨_, _, rfl⟩ (by decide) (S_X4_asks_8_30 (x2 := z1) (x3 := z3) hid hGq43 (by omega)) mi_X4_asks ml_RX4_38 rfl rfl (Nat.le_of_ble_eq_true rfl) (Nat.le_of_ble_eq_true rfl) (Nat.le_of_ble_eq_true rfl) dX4_catchOne_52 (fun z5 σ6 q7 => ?_)
    obtain ⟨hG8, ho9⟩ := q7
    refine s_iaddU C dX4_catchOne_55 (fun z11 => ?_)
    refine a_put C fp_RX4_92 (i := 56) kd_56 (hid 56 (by decide)) rfl rfl dX4_catchOne_56 ?_
    have hG13 := wF_56_8 (v := z11) hG8
    refine a_aload_n C dX4_catchOne_59 (i := 2) rfl rfl ?_
    refine s_sipush C dX4_catchOne_60 (999) (by decide) (fun z14 h15 => ?_)
    refine a_aload_n C dX4_catchOne_63 (i := 2) rfl rfl ?_
    refine a_get C fl_RX4_42 (i := 56) kd_56 (hid 56 (by decide)) (v := .int (σ6.1 56 5)) rfl dX4_catchOne_64 ?_
    refine a_aload_n C dX4_catchOne_67 (i := 0) rfl rfl ?_
    refine a_aload_n C dX4_catchOne_68 (i := 1) rfl rfl ?_
    refine s_iconst C dX4_catchOne_69 (0) (by decide) (fun z16 h17 => ?_)
    refine a_iload C dX4_catchOne_70 rfl ?_
    refine a_callVi C (i := 8) kd_8 (hid 8 (by decide)) ⟨_, _, rfl⟩ (by decide) (S_X4_asks_8_30 (x2 := z16) (x3 := y43_5) hid hG13 (by omega)) mi_X4_asks ml_RX4_38 rfl rfl (Nat.le_of_ble_eq_true rfl) (Nat.le_of_ble_eq_true rfl) (Nat.le_of_ble_eq_true rfl) dX4_catchOne_72 (fun z18 σ19 q20 => ?_)
    obtain ⟨hG21, ho22⟩ := q20
    refine s_iaddU C dX4_catchOne_75 (fun z24 => ?_)
    refine s_mmin C dX4_catchOne_76 mm_RX4_95 mm_min.1 mm_min.2.1 mm_min.2.2 (Nat.le_of_ble_eq_true rfl) (Nat.le_of_ble_eq_true rfl) (fun z26 h27 => ?_)
    refine a_put C fp_RX4_42 (i := 56) kd_56 (hid 56 (by decide)) rfl rfl dX4_catchOne_79 ?_
    have hG28 := wF_56_5 (v := z26) hG21
    refine a_aload_n C dX4_catchOne_82 (i := 2) rfl rfl ?_
    refine a_dup C dX4_catchOne_83 rfl ?_
    refine a_get C fl_RX4_98 (i := 56) kd_56 (hid 56 (by decide)) (v := .int (σ19.1 56 7)) rfl dX4_catchOne_84 ?_
    refine s_iconst C dX4_catchOne_87 (1) (by decide) (fun z29 h30 => ?_)
    refine s_iaddU C dX4_catchOne_88 (fun z31 => ?_)
    refine a_put C fp_RX4_98 (i := 56) kd_56 (hid 56 (by decide)) rfl rfl dX4_catchOne_89 ?_
    have hG33 := wF_56_7 (v := z31) hG28
    refine a_aload_n C dX4_catchOne_92 (i := 2) rfl rfl ?_
    refine a_get C fl_RX4_101 (i := 56) kd_56 (hid 56 (by decide)) (v := .ref (ad 59)) rfl dX4_catchOne_93 ?_
    refine a_iload_n C dX4_catchOne_96 (i := 3) rfl rfl ?_
    refine a_dup2 C dX4_catchOne_97 rfl rfl ?_
    refine s_iald C (i := 59) kd_59 (hid 59 (by decide)) al_59 (by omega) (by omega) dX4_catchOne_98 (fun n34 h35 => ?_)
    refine s_val (fun z36 e37 => ?_)
    refine s_iconst C dX4_catchOne_99 (1) (by decide) (fun z38 h39 => ?_)
    refine s_iaddU C dX4_catchOne_100 (fun z40 => ?_)
    refine s_iast C (i := 59) kd_59 (hid 59 (by decide)) al_59 (by omega) (by omega) dX4_catchOne_101 (fun n42 h43 => ?_)
    have hG44 := wA_59 (v := z40) (j := n42) hG33
    refine a_aload_n C dX4_catchOne_102 (i := 2) rfl rfl ?_
    refine a_get C fl_RX4_74 (i := 56) kd_56 (hid 56 (by decide)) (v := .ref (ad 58)) rfl dX4_catchOne_103 ?_
    refine a_iload_n C dX4_catchOne_106 (i := 3) rfl rfl ?_
    refine a_iload C dX4_catchOne_107 rfl ?_
    refine s_iast C (i := 58) kd_58 (hid 58 (by decide)) al_58 (by omega) (by omega) dX4_catchOne_109 (fun n45 h46 => ?_)
    have hG47 := wA_58 (v := y43_5) (j := n45) hG44
    refine a_iload C dX4_catchOne_110 rfl ?_
    refine s_if_ne C dX4_catchOne_112 (tgt := 122) rfl (fun c48 => ?_) (fun c48 => ?_)
    ·
      exact a_vret Rt dX4_catchOne_122 (⟨hG47, (ony.I (ony.I (ony.I (ony.I (ony.tr (ony.I (ony.tr hoq43 (ony.mono ho9 (by decide))) (by decide)) (ony.mono ho22 (by decide))) (by decide)) (by decide)) (by decide)) (by decide))⟩)
    ·
      refine a_aload_n C dX4_catchOne_115 (i := 2) rfl rfl ?_
      refine a_get C fl_RX4_104 (i := 56) kd_56 (hid 56 (by decide)) (v := .ref (ad 57)) rfl dX4_catchOne_116 ?_
      refine a_iload_n C dX4_catchOne_119 (i := 3) rfl rfl ?_
      refine s_iconst C dX4_catchOne_120 (1) (by decide) (fun z49 h50 => ?_)
      refine s_iast C (i := 57) kd_57 (hid 57 (by decide)) al_57 (by omega) (by omega) dX4_catchOne_121 (fun n51 h52 => ?_)
      have hG53 := wA_57 (v := z49) (j := n51) hG47
      exact a_vret Rt dX4_catchOne_122 (⟨hG53, (ony.I (ony.I (ony.I (ony.I (ony.I (ony.tr (ony.I (ony.tr hoq43 (ony.mono ho9 (by decide))) (by decide)) (ony.mono ho22 (by decide))) (by decide)) (by decide)) (by decide)) (by decide)) (by decide))⟩)
  refine a_aload_n C dX4_catchOne_0 (i := 2) rfl rfl ?_
  refine a_aload_n C dX4_catchOne_1 (i := 1) rfl rfl ?_
  refine a_callVi C (i := 56) kd_56 (hid 56 (by decide)) ⟨_, _, rfl⟩ (by decide) (S_X0_heightBy_56_30 hid hG) mi_X0_heightBy ml_RX4_84 rfl rfl (Nat.le_of_ble_eq_true rfl) (Nat.le_of_ble_eq_true rfl) (Nat.le_of_ble_eq_true rfl) dX4_catchOne_2 (fun z54 σ55 q56 => ?_)
  rw [q56]
  refine a_istore C dX4_catchOne_5 (by decide) rfl (vs1 := [some (.ref (ad 8)), some (.ref (ad 30)), some (.ref (ad 56)), some (.int x3), some (.int x4), some (.int z54)]) rfl ?_
  refine a_iload C dX4_catchOne_7 rfl ?_
  refine s_iconst C dX4_catchOne_9 (-1) (by decide) (fun z57 h58 => ?_)
  refine s_ic_eq C dX4_catchOne_10 (tgt := 43) rfl (fun c59 => ?_) (fun c59 => ?_)
  ·
    refine AW.sub (vs' := [some (.ref (ad 8)), some (.ref (ad 30)), some (.ref (ad 56)), some (.int x3), none, some (.int z54)]) (lsub_of (by simp [lsubB])) ?_
    exact j43 _ z54 hG ony.rf
  ·
    refine s_bipush C dX4_catchOne_13 (100) (by decide) (fun z60 h61 => ?_)
    refine a_iload C dX4_catchOne_15 rfl ?_
    refine s_iconst C dX4_catchOne_17 (4) (by decide) (fun z62 h63 => ?_)
    refine a_aload_n C dX4_catchOne_18 (i := 2) rfl rfl ?_
    refine a_get C fl_RX4_78 (i := 56) kd_56 (hid 56 (by decide)) (v := .int (σ.1 56 4)) rfl dX4_catchOne_19 ?_
    refine s_imulU C dX4_catchOne_22 (fun z64 => ?_)
    refine a_callSi C (S_X4_lot (x1 := z60) (x2 := x4) (x3 := z64) hid hG) ms_X4_lot ml_RX4_88 rfl rfl (Nat.le_of_ble_eq_true rfl) (Nat.le_of_ble_eq_true rfl) (Nat.le_of_ble_eq_true rfl) dX4_catchOne_23 (fun z66 σ67 q68 => ?_)
    rw [q68]
    refine a_aload_n C dX4_catchOne_26 (i := 0) rfl rfl ?_
    refine a_aload_n C dX4_catchOne_27 (i := 1) rfl rfl ?_
    refine s_iconst C dX4_catchOne_28 (1) (by decide) (fun z69 h70 => ?_)
    refine a_iload C dX4_catchOne_29 rfl ?_
    refine a_callVi C (i := 8) kd_8 (hid 8 (by decide)) ⟨_, _, rfl⟩ (by decide) (S_X4_asks_8_30 (x2 := z69) (x3 := z54) hid hG (by omega)) mi_X4_asks ml_RX4_38 rfl rfl (Nat.le_of_ble_eq_true rfl) (Nat.le_of_ble_eq_true rfl) (Nat.le_of_ble_eq_true rfl) dX4_catchOne_31 (fun z71 σ72 q73 => ?_)
    obtain ⟨hG74, ho75⟩ := q73
    refine s_ic_ge C dX4_catchOne_34 (tgt := 43) rfl (fun c77 => ?_) (fun c77 => ?_)
    ·
      refine AW.sub (vs' := [some (.ref (ad 8)), some (.ref (ad 30)), some (.ref (ad 56)), some (.int x3), none, some (.int z54)]) (lsub_of (by simp [lsubB])) ?_
      exact j43 _ z54 hG74 (ony.tr ony.rf (ony.mono ho75 (by decide)))
    ·
      refine a_aload_n C dX4_catchOne_37 (i := 2) rfl rfl ?_
      refine a_iload_n C dX4_catchOne_38 (i := 3) rfl rfl ?_
      refine a_callVv C (i := 56) kd_56 (hid 56 (by decide)) ⟨_, _, rfl⟩ (by decide) (S_X0_drop_56 (x1 := x3) hid hG74 (by omega)) mi_X0_drop ml_RX4_64 rfl rfl (Nat.le_of_ble_eq_true rfl) (Nat.le_of_ble_eq_true rfl) (Nat.le_of_ble_eq_true rfl) dX4_catchOne_39 (fun σ79 q80 => ?_)
      obtain ⟨hG81, ho82⟩ := q80
      exact a_vret Rt dX4_catchOne_42 (⟨hG81, (ony.tr (ony.tr ony.rf (ony.mono ho75 (by decide))) (ony.mono ho82 (by decide)))⟩)
theorem dX4_oneBeat_32 : decode cX4_oneBeat 32 = .ok (.iload 4, 2) := by decide +kernel
theorem dX4_oneBeat_34 : decode cX4_oneBeat 34 = .ok (.iconst 1, 1) := by decide +kernel
theorem dX4_oneBeat_35 : decode cX4_oneBeat 35 = .ok (.iadd, 1) := by decide +kernel
theorem dX4_oneBeat_36 : decode cX4_oneBeat 36 = .ok (.istore 5, 2) := by decide +kernel
theorem dX4_oneBeat_38 : decode cX4_oneBeat 38 = .ok (.iload 5, 2) := by decide +kernel
theorem dX4_oneBeat_40 : decode cX4_oneBeat 40 = .ok (.aload_n 2, 1) := by decide +kernel
theorem dX4_oneBeat_41 : decode cX4_oneBeat 41 = .ok (.getfield 57, 3) := by decide +kernel
theorem dX4_oneBeat_44 : decode cX4_oneBeat 44 = .ok (.if_icmp .ge 24, 3) := by decide +kernel
theorem dX4_oneBeat_47 : decode cX4_oneBeat 47 = .ok (.aload_n 2, 1) := by decide +kernel
theorem dX4_oneBeat_48 : decode cX4_oneBeat 48 = .ok (.iload 5, 2) := by decide +kernel
theorem dX4_oneBeat_50 : decode cX4_oneBeat 50 = .ok (.invokevirtual 60, 3) := by decide +kernel
theorem dX4_oneBeat_53 : decode cX4_oneBeat 53 = .ok (.ifCond .eq 9, 3) := by decide +kernel
theorem dX4_oneBeat_56 : decode cX4_oneBeat 56 = .ok (.aload_n 2, 1) := by decide +kernel
theorem dX4_oneBeat_57 : decode cX4_oneBeat 57 = .ok (.iload 5, 2) := by decide +kernel
theorem dX4_oneBeat_59 : decode cX4_oneBeat 59 = .ok (.invokevirtual 64, 3) := by decide +kernel
theorem dX4_oneBeat_62 : decode cX4_oneBeat 62 = .ok (.iinc 5 1, 3) := by decide +kernel
theorem dX4_oneBeat_65 : decode cX4_oneBeat 65 = .ok (.goto (-27), 3) := by decide +kernel
theorem dX4_oneBeat_68 : decode cX4_oneBeat 68 = .ok (.aload_n 0, 1) := by decide +kernel
theorem dX4_oneBeat_69 : decode cX4_oneBeat 69 = .ok (.aload_n 1, 1) := by decide +kernel
theorem dX4_oneBeat_70 : decode cX4_oneBeat 70 = .ok (.aload_n 2, 1) := by decide +kernel
theorem dX4_oneBeat_71 : decode cX4_oneBeat 71 = .ok (.iload 4, 2) := by decide +kernel
theorem dX4_oneBeat_73 : decode cX4_oneBeat 73 = .ok (.aload_n 2, 1) := by decide +kernel
theorem dX4_oneBeat_74 : decode cX4_oneBeat 74 = .ok (.invokevirtual 28, 3) := by decide +kernel
theorem dX4_oneBeat_77 : decode cX4_oneBeat 77 = .ok (.invokevirtual 34, 3) := by decide +kernel
theorem dX4_oneBeat_80 : decode cX4_oneBeat 80 = .ok (.aload_n 0, 1) := by decide +kernel
theorem dX4_oneBeat_81 : decode cX4_oneBeat 81 = .ok (.aload_n 1, 1) := by decide +kernel
theorem dX4_oneBeat_82 : decode cX4_oneBeat 82 = .ok (.aload_n 2, 1) := by decide +kernel
theorem dX4_oneBeat_83 : decode cX4_oneBeat 83 = .ok (.iload 4, 2) := by decide +kernel
theorem dX4_oneBeat_85 : decode cX4_oneBeat 85 = .ok (.iload_n 3, 1) := by decide +kernel
theorem dX4_oneBeat_86 : decode cX4_oneBeat 86 = .ok (.invokevirtual 68, 3) := by decide +kernel
theorem dX4_oneBeat_101 : decode cX4_oneBeat 101 = .ok (.aload_n 2, 1) := by decide +kernel
theorem dX4_oneBeat_102 : decode cX4_oneBeat 102 = .ok (.iload 5, 2) := by decide +kernel
theorem dX4_oneBeat_104 : decode cX4_oneBeat 104 = .ok (.invokevirtual 71, 3) := by decide +kernel
theorem dX4_oneBeat_107 : decode cX4_oneBeat 107 = .ok (.ifCond .eq 14, 3) := by decide +kernel
theorem dX4_oneBeat_110 : decode cX4_oneBeat 110 = .ok (.aload_n 2, 1) := by decide +kernel
theorem dX4_oneBeat_111 : decode cX4_oneBeat 111 = .ok (.getfield 74, 3) := by decide +kernel
theorem dX4_oneBeat_114 : decode cX4_oneBeat 114 = .ok (.iload 5, 2) := by decide +kernel
theorem dX4_oneBeat_116 : decode cX4_oneBeat 116 = .ok (.dup2, 1) := by decide +kernel
theorem dX4_oneBeat_117 : decode cX4_oneBeat 117 = .ok (.iaload, 1) := by decide +kernel
theorem dX4_oneBeat_118 : decode cX4_oneBeat 118 = .ok (.iconst 1, 1) := by decide +kernel
theorem dX4_oneBeat_119 : decode cX4_oneBeat 119 = .ok (.isub, 1) := by decide +kernel
theorem dX4_oneBeat_120 : decode cX4_oneBeat 120 = .ok (.iastore, 1) := by decide +kernel
theorem dX4_oneBeat_121 : decode cX4_oneBeat 121 = .ok (.iinc 5 1, 3) := by decide +kernel
theorem dX4_oneBeat_124 : decode cX4_oneBeat 124 = .ok (.goto (-32), 3) := by decide +kernel
set_option maxHeartbeats 4000000 in
set_option maxRecDepth 100000 in
theorem S_X4_oneBeat_8_30_56 {l : Launch} {D : va_G} {ids : List Nat} {ad : Nat → Nat} {ca : Nat → ClassId} {σ : HS} {x3 : Int32} (hid : ∀ i, i < 277 → i ∈ ids) (hG : GIc σ) : Kv l D ids ad ca yX4_oneBeat cX4_oneBeat 6 4 99 [.ref (ad 8), .ref (ad 30), .ref (ad 56), .int x3] σ (fun σ1 => (GIc σ1) ∧ (ony [9, 10, 11, 56, 57, 58, 59] σ σ1)) := by
  refine Kv.of (by decide) (Nat.le_of_ble_eq_true rfl) 2 (fun Γ C Rt => ?_)
  show AW ids ad ca Γ 0 [some (.ref (ad 8)), some (.ref (ad 30)), some (.ref (ad 56)), some (.int x3), none, none] [] σ
  have j92 : ∀ (d92 : Nat) (σq92 : HS) (y92_5 : Int32), 7 - y92_5.toInt < d92 → GIc σq92 → ony [9, 10, 11, 56, 57, 58, 59] σ σq92 → 0 ≤ y92_5.toInt ∧ y92_5.toInt ≤ 7 → AW ids ad ca Γ 92 [none, none, some (.ref (ad 56)), none, none, some (.int y92_5)] [] σq92 := by
    intro d92
    induction d92 with
    | zero =>
      intro σq92 y92_5 hd92 hGq92 hoq92 hx92_0
      exfalso
      omega
    | succ d92 ih92 =>
      intro σq92 y92_5 hd92 hGq92 hoq92 hx92_0
      have j121 : ∀ (σq121 : HS), GIc σq121 → ony [9, 10, 11, 56, 57, 58, 59] σ σq121 → 0 ≤ y92_5.toInt ∧ y92_5.toInt ≤ 6 → AW ids ad ca Γ 121 [none, none, some (.ref (ad 56)), none, none, some (.int y92_5)] [] σq121 := by
        intro σq121 hGq121 hoq121 hx121_0
        refine s_iinc C dX4_oneBeat_121 rfl (1) (by decide) (by omega) (by decide) rfl (fun z1 h2 => ?_)
        show AW ids ad ca Γ 124 [none, none, some (.ref (ad 56)), none, none, some (.int z1)] _ _
        refine a_goto C dX4_oneBeat_124 (tgt := 92) rfl ?_
        exact ih92 _ z1 (by omega) hGq121 hoq121 (by omega)
      refine a_iload C dX4_oneBeat_92 rfl ?_
      refine a_aload_n C dX4_oneBeat_94 (i := 2) rfl rfl ?_
      have g3 := bF_56_0 hGq92
      refine a_get C fl_RX4_57 (i := 56) kd_56 (hid 56 (by decide)) (v := .int (σq92.1 56 0)) rfl dX4_oneBeat_95 ?_
      refine s_ic_ge C dX4_oneBeat_98 (tgt := 127) rfl (fun c4 => ?_) (fun c4 => ?_)
      ·
        refine a_aload_n C dX4_oneBeat_127 (i := 2) rfl rfl ?_
        refine a_dup C dX4_oneBeat_128 rfl ?_
        refine a_get C fl_RX4_78 (i := 56) kd_56 (hid 56 (by decide)) (v := .int (σq92.1 56 4)) rfl dX4_oneBeat_129 ?_
        refine s_iconst C dX4_oneBeat_132 (1) (by decide) (fun z5 h6 => ?_)
        refine s_iaddU C dX4_oneBeat_133 (fun z7 => ?_)
        refine a_put C fp_RX4_78 (i := 56) kd_56 (hid 56 (by decide)) rfl rfl dX4_oneBeat_134 ?_
        have hG9 := wF_56_4 (v := z7) hGq92
        refine a_aload_n C dX4_oneBeat_137 (i := 2) rfl rfl ?_
        refine s_iconst C dX4_oneBeat_138 (-1) (by decide) (fun z10 h11 => ?_)
        refine a_put C fp_RX4_81 (i := 56) kd_56 (hid 56 (by decide)) rfl rfl dX4_oneBeat_139 ?_
        have hG12 := wF_56_11 (v := z10) hG9
        exact a_vret Rt dX4_oneBeat_142 (⟨hG12, (ony.I (ony.I hoq92 (by decide)) (by decide))⟩)
      ·
        refine a_aload_n C dX4_oneBeat_101 (i := 2) rfl rfl ?_
        refine a_iload C dX4_oneBeat_102 rfl ?_
        refine a_callVi C (i := 56) kd_56 (hid 56 (by decide)) ⟨_, _, rfl⟩ (by decide) (S_X0_isUp_56 (x1 := y92_5) hid hGq92 (by omega)) mi_X0_isUp ml_RX4_71 rfl rfl (Nat.le_of_ble_eq_true rfl) (Nat.le_of_ble_eq_true rfl) (Nat.le_of_ble_eq_true rfl) dX4_oneBeat_104 (fun z13 σ14 q15 => ?_)
        obtain ⟨w16, w17⟩ := q15
        rw [w16]
        refine s_if_eq C dX4_oneBeat_107 (tgt := 121) rfl (fun c18 => ?_) (fun c18 => ?_)
        ·
          exact j121 _ hGq92 hoq92 (by omega)
        ·
          refine a_aload_n C dX4_oneBeat_110 (i := 2) rfl rfl ?_
          refine a_get C fl_RX4_74 (i := 56) kd_56 (hid 56 (by decide)) (v := .ref (ad 58)) rfl dX4_oneBeat_111 ?_
          refine a_iload C dX4_oneBeat_114 rfl ?_
          refine a_dup2 C dX4_oneBeat_116 rfl rfl ?_
          refine s_iald C (i := 58) kd_58 (hid 58 (by decide)) al_58 (by omega) (by omega) dX4_oneBeat_117 (fun n19 h20 => ?_)
          refine s_val (fun z21 e22 => ?_)
          refine s_iconst C dX4_oneBeat_118 (1) (by decide) (fun z23 h24 => ?_)
          refine s_isubU C dX4_oneBeat_119 (fun z25 => ?_)
          refine s_iast C (i := 58) kd_58 (hid 58 (by decide)) al_58 (by omega) (by omega) dX4_oneBeat_120 (fun n27 h28 => ?_)
          have hG29 := wA_58 (v := z25) (j := n27) hGq92
          exact j121 _ hG29 (ony.I hoq92 (by decide)) (by omega)
  have j89 : ∀ (σq89 : HS), GIc σq89 → ony [9, 10, 11, 56, 57, 58, 59] σ σq89 → AW ids ad ca Γ 89 [none, none, some (.ref (ad 56)), none, none, none] [] σq89 := by
    intro σq89 hGq89 hoq89
    refine s_iconst C dX4_oneBeat_89 (0) (by decide) (fun z30 h31 => ?_)
    refine a_istore C dX4_oneBeat_90 (by decide) rfl (vs1 := [none, none, some (.ref (ad 56)), none, none, some (.int z30)]) rfl ?_
    exact j92 100000 _ z30 (by omega) hGq89 hoq89 (by omega)
  have j38 : ∀ (d38 : Nat) (σq38 : HS) (y38_4 : Int32) (y38_5 : Int32), 7 - y38_5.toInt < d38 → GIc σq38 → ony [9, 10, 11, 56, 57, 58, 59] σ σq38 → 0 ≤ y38_4.toInt ∧ y38_4.toInt ≤ 6 → 1 ≤ y38_5.toInt ∧ y38_5.toInt ≤ 7 → AW ids ad ca Γ 38 [some (.ref (ad 8)), some (.ref (ad 30)), some (.ref (ad 56)), some (.int x3), some (.int y38_4), some (.int y38_5)] [] σq38 := by
    intro d38
    induction d38 with
    | zero =>
      intro σq38 y38_4 y38_5 hd38 hGq38 hoq38 hx38_0 hx38_1
      exfalso
      omega
    | succ d38 ih38 =>
      intro σq38 y38_4 y38_5 hd38 hGq38 hoq38 hx38_0 hx38_1
      have j62 : ∀ (σq62 : HS), GIc σq62 → ony [9, 10, 11, 56, 57, 58, 59] σ σq62 → 1 ≤ y38_5.toInt ∧ y38_5.toInt ≤ 6 → AW ids ad ca Γ 62 [some (.ref (ad 8)), some (.ref (ad 30)), some (.ref (ad 56)), some (.int x3), some (.int y38_4), some (.int y38_5)] [] σq62 := by
        intro σq62 hGq62 hoq62 hx62_0
        refine s_iinc C dX4_oneBeat_62 rfl (1) (by decide) (by omega) (by decide) rfl (fun z32 h33 => ?_)
        show AW ids ad ca Γ 65 [some (.ref (ad 8)), some (.ref (ad 30)), some (.ref (ad 56)), some (.int x3), some (.int y38_4), some (.int z32)] _ _
        refine a_goto C dX4_oneBeat_65 (tgt := 38) rfl ?_
        exact ih38 _ y38_4 z32 (by omega) hGq62 hoq62 (by omega) (by omega)
      refine a_iload C dX4_oneBeat_38 rfl ?_
      refine a_aload_n C dX4_oneBeat_40 (i := 2) rfl rfl ?_
      have g34 := bF_56_0 hGq38
      refine a_get C fl_RX4_57 (i := 56) kd_56 (hid 56 (by decide)) (v := .int (σq38.1 56 0)) rfl dX4_oneBeat_41 ?_
      refine s_ic_ge C dX4_oneBeat_44 (tgt := 68) rfl (fun c35 => ?_) (fun c35 => ?_)
      ·
        refine a_aload_n C dX4_oneBeat_68 (i := 0) rfl rfl ?_
        refine a_aload_n C dX4_oneBeat_69 (i := 1) rfl rfl ?_
        refine a_aload_n C dX4_oneBeat_70 (i := 2) rfl rfl ?_
        refine a_iload C dX4_oneBeat_71 rfl ?_
        refine a_aload_n C dX4_oneBeat_73 (i := 2) rfl rfl ?_
        refine a_callVi C (i := 56) kd_56 (hid 56 (by decide)) ⟨_, _, rfl⟩ (by decide) (S_X0_howManyUp_56 hid hGq38) mi_X0_howManyUp ml_RX4_28 rfl rfl (Nat.le_of_ble_eq_true rfl) (Nat.le_of_ble_eq_true rfl) (Nat.le_of_ble_eq_true rfl) dX4_oneBeat_74 (fun z36 σ37 q38 => ?_)
        rw [q38]
        refine a_callVv C (i := 8) kd_8 (hid 8 (by decide)) ⟨_, _, rfl⟩ (by decide) (S_X4_lookAt_8_30_56 (x3 := y38_4) (x4 := z36) hid hGq38 (by omega)) mi_X4_lookAt ml_RX4_34 rfl rfl (Nat.le_of_ble_eq_true rfl) (Nat.le_of_ble_eq_true rfl) (Nat.le_of_ble_eq_true rfl) dX4_oneBeat_77 (fun σ40 q41 => ?_)
        obtain ⟨hG42, ho43⟩ := q41
        refine a_aload_n C dX4_oneBeat_80 (i := 0) rfl rfl ?_
        refine a_aload_n C dX4_oneBeat_81 (i := 1) rfl rfl ?_
        refine a_aload_n C dX4_oneBeat_82 (i := 2) rfl rfl ?_
        refine a_iload C dX4_oneBeat_83 rfl ?_
        refine a_iload_n C dX4_oneBeat_85 (i := 3) rfl rfl ?_
        refine a_callVv C (i := 8) kd_8 (hid 8 (by decide)) ⟨_, _, rfl⟩ (by decide) (S_X4_catchOne_8_30_56 (x3 := y38_4) (x4 := x3) hid hG42 (by omega)) mi_X4_catchOne ml_RX4_68 rfl rfl (Nat.le_of_ble_eq_true rfl) (Nat.le_of_ble_eq_true rfl) (Nat.le_of_ble_eq_true rfl) dX4_oneBeat_86 (fun σ46 q47 => ?_)
        obtain ⟨hG48, ho49⟩ := q47
        refine AW.sub (vs' := [none, none, some (.ref (ad 56)), none, none, none]) (lsub_of (by simp [lsubB])) ?_
        exact j89 _ hG48 (ony.tr (ony.tr hoq38 (ony.mono ho43 (by decide))) (ony.mono ho49 (by decide)))
      ·
        refine a_aload_n C dX4_oneBeat_47 (i := 2) rfl rfl ?_
        refine a_iload C dX4_oneBeat_48 rfl ?_
        refine a_callVi C (i := 56) kd_56 (hid 56 (by decide)) ⟨_, _, rfl⟩ (by decide) (S_X0_landsNow_56 (x1 := y38_5) hid hGq38 (by omega)) mi_X0_landsNow ml_RX4_60 rfl rfl (Nat.le_of_ble_eq_true rfl) (Nat.le_of_ble_eq_true rfl) (Nat.le_of_ble_eq_true rfl) dX4_oneBeat_50 (fun z51 σ52 q53 => ?_)
        obtain ⟨w54, w55⟩ := q53
        rw [w54]
        refine s_if_eq C dX4_oneBeat_53 (tgt := 62) rfl (fun c56 => ?_) (fun c56 => ?_)
        ·
          exact j62 _ hGq38 hoq38 (by omega)
        ·
          refine a_aload_n C dX4_oneBeat_56 (i := 2) rfl rfl ?_
          refine a_iload C dX4_oneBeat_57 rfl ?_
          refine a_callVv C (i := 56) kd_56 (hid 56 (by decide)) ⟨_, _, rfl⟩ (by decide) (S_X0_drop_56 (x1 := y38_5) hid hGq38 (by omega)) mi_X0_drop ml_RX4_64 rfl rfl (Nat.le_of_ble_eq_true rfl) (Nat.le_of_ble_eq_true rfl) (Nat.le_of_ble_eq_true rfl) dX4_oneBeat_59 (fun σ58 q59 => ?_)
          obtain ⟨hG60, ho61⟩ := q59
          exact j62 _ hG60 (ony.tr hoq38 (ony.mono ho61 (by decide))) (by omega)
  refine a_aload_n C dX4_oneBeat_0 (i := 2) rfl rfl ?_
  refine a_callVi C (i := 56) kd_56 (hid 56 (by decide)) ⟨_, _, rfl⟩ (by decide) (S_X0_firstLanding_56 hid hG) mi_X0_firstLanding ml_RX4_22 rfl rfl (Nat.le_of_ble_eq_true rfl) (Nat.le_of_ble_eq_true rfl) (Nat.le_of_ble_eq_true rfl) dX4_oneBeat_1 (fun z63 σ64 q65 => ?_)
  obtain ⟨w66, w67⟩ := q65
  rw [w66]
  refine a_istore C dX4_oneBeat_4 (by decide) rfl (vs1 := [some (.ref (ad 8)), some (.ref (ad 30)), some (.ref (ad 56)), some (.int x3), some (.int z63), none]) rfl ?_
  refine a_iload C dX4_oneBeat_6 rfl ?_
  refine s_iconst C dX4_oneBeat_8 (-1) (by decide) (fun z68 h69 => ?_)
  refine s_ic_ne C dX4_oneBeat_9 (tgt := 32) rfl (fun c70 => ?_) (fun c70 => ?_)
  ·
    refine a_iload C dX4_oneBeat_32 rfl ?_
    refine s_iconst C dX4_oneBeat_34 (1) (by decide) (fun z71 h72 => ?_)
    refine s_iadd C dX4_oneBeat_35 (by omega) (fun z73 h74 => ?_)
    refine a_istore C dX4_oneBeat_36 (by decide) rfl (vs1 := [some (.ref (ad 8)), some (.ref (ad 30)), some (.ref (ad 56)), some (.int x3), some (.int z63), some (.int z73)]) rfl ?_
    exact j38 100000 _ z63 z73 (by omega) hG ony.rf (by omega) (by omega)
  ·
    refine a_aload_n C dX4_oneBeat_12 (i := 2) rfl rfl ?_
    refine s_iconst C dX4_oneBeat_13 (0) (by decide) (fun z75 h76 => ?_)
    refine a_aload_n C dX4_oneBeat_14 (i := 2) rfl rfl ?_
    refine a_get C fl_RX4_42 (i := 56) kd_56 (hid 56 (by decide)) (v := .int (σ.1 56 5)) rfl dX4_oneBeat_15 ?_
    refine a_aload_n C dX4_oneBeat_18 (i := 1) rfl rfl ?_
    refine a_get C fl_RX4_46 (i := 30) kd_30 (hid 30 (by decide)) (v := .int (σ.1 30 10)) rfl dX4_oneBeat_19 ?_
    refine s_isubU C dX4_oneBeat_22 (fun z77 => ?_)
    refine s_mmax C dX4_oneBeat_23 mm_RX4_51 mm_max.1 mm_max.2.1 mm_max.2.2 (Nat.le_of_ble_eq_true rfl) (Nat.le_of_ble_eq_true rfl) (fun z79 h80 => ?_)
    refine a_put C fp_RX4_42 (i := 56) kd_56 (hid 56 (by decide)) rfl rfl dX4_oneBeat_26 ?_
    have hG81 := wF_56_5 (v := z79) hG
    refine a_goto C dX4_oneBeat_29 (tgt := 89) rfl ?_
    refine AW.sub (vs' := [none, none, some (.ref (ad 56)), none, none, none]) (lsub_of (by simp [lsubB])) ?_
    exact j89 _ hG81 (ony.I ony.rf (by decide))
set_option maxHeartbeats 4000000 in
set_option maxRecDepth 100000 in
theorem S_X4_goOn_8_30_56 {l : Launch} {D : va_G} {ids : List Nat} {ad : Nat → Nat} {ca : Nat → ClassId} {σ : HS} {x3 : Int32} {x4 : Int32} (hid : ∀ i, i < 277 → i ∈ ids) (hG : GIc σ) (hx3 : 0 ≤ x3.toInt ∧ x3.toInt ≤ 60) : Kv l D ids ad ca yX4_goOn cX4_goOn 6 5 124 [.ref (ad 8), .ref (ad 30), .ref (ad 56), .int x3, .int x4] σ (fun σ1 => (GIc σ1) ∧ (ony [9, 10, 11, 56, 57, 58, 59] σ σ1)) := by
  refine Kv.of (by decide) (Nat.le_of_ble_eq_true rfl) 1 (fun Γ C Rt => ?_)
  show AW ids ad ca Γ 0 [some (.ref (ad 8)), some (.ref (ad 30)), some (.ref (ad 56)), some (.int x3), some (.int x4), none] [] σ
  have j3 : ∀ (d3 : Nat) (σq3 : HS) (y3_5 : Int32), 60 - y3_5.toInt < d3 → GIc σq3 → ony [9, 10, 11, 56, 57, 58, 59] σ σq3 → 0 ≤ y3_5.toInt ∧ y3_5.toInt ≤ 60 → AW ids ad ca Γ 3 [some (.ref (ad 8)), some (.ref (ad 30)), some (.ref (ad 56)), some (.int x3), some (.int x4), some (.int y3_5)] [] σq3 := by
    intro d3
    induction d3 with
    | zero =>
      intro σq3 y3_5 hd3 hGq3 hoq3 hx3_0
      exfalso
      omega
    | succ d3 ih3 =>
      intro σq3 y3_5 hd3 hGq3 hoq3 hx3_0
      refine a_iload C dX4_goOn_3 rfl ?_
      refine a_iload_n C dX4_goOn_5 (i := 3) rfl rfl ?_
      refine s_ic_ge C dX4_goOn_6 (tgt := 23) rfl (fun c1 => ?_) (fun c1 => ?_)
      ·
        exact a_vret Rt dX4_goOn_23 (⟨hGq3, hoq3⟩)
      ·
        refine a_aload_n C dX4_goOn_9 (i := 0) rfl rfl ?_
        refine a_aload_n C dX4_goOn_10 (i := 1) rfl rfl ?_
        refine a_aload_n C dX4_goOn_11 (i := 2) rfl rfl ?_
        refine a_iload C dX4_goOn_12 rfl ?_
        refine a_callVv C (i := 8) kd_8 (hid 8 (by decide)) ⟨_, _, rfl⟩ (by decide) (S_X4_oneBeat_8_30_56 (x3 := x4) hid hGq3) mi_X4_oneBeat ml_RX4_18 rfl rfl (Nat.le_of_ble_eq_true rfl) (Nat.le_of_ble_eq_true rfl) (Nat.le_of_ble_eq_true rfl) dX4_goOn_14 (fun σ3 q4 => ?_)
        obtain ⟨hG5, ho6⟩ := q4
        refine s_iinc C dX4_goOn_17 rfl (1) (by decide) (by omega) (by decide) rfl (fun z8 h9 => ?_)
        show AW ids ad ca Γ 20 [some (.ref (ad 8)), some (.ref (ad 30)), some (.ref (ad 56)), some (.int x3), some (.int x4), some (.int z8)] _ _
        refine a_goto C dX4_goOn_20 (tgt := 3) rfl ?_
        exact ih3 _ z8 (by omega) hG5 (ony.tr hoq3 (ony.mono ho6 (by decide))) (by omega)
  refine s_iconst C dX4_goOn_0 (0) (by decide) (fun z10 h11 => ?_)
  refine a_istore C dX4_goOn_1 (by decide) rfl (vs1 := [some (.ref (ad 8)), some (.ref (ad 30)), some (.ref (ad 56)), some (.int x3), some (.int x4), some (.int z10)]) rfl ?_
  exact j3 100000 _ z10 (by omega) hG ony.rf (by omega)
set_option maxHeartbeats 4000000 in
set_option maxRecDepth 100000 in
theorem S_X4_goOnSafely_8_30_56 {l : Launch} {D : va_G} {ids : List Nat} {ad : Nat → Nat} {ca : Nat → ClassId} {σ : HS} (hid : ∀ i, i < 277 → i ∈ ids) (hG : GIc σ) : Kv l D ids ad ca yX4_goOnSafely cX4_goOnSafely 3 5 124 [.ref (ad 8), .ref (ad 30), .ref (ad 56)] σ (fun σ1 => (GIc σ1) ∧ (ony [9, 10, 11, 56, 57, 58, 59] σ σ1)) := by
  refine Kv.of (by decide) (Nat.le_of_ble_eq_true rfl) 0 (fun Γ C Rt => ?_)
  show AW ids ad ca Γ 0 [some (.ref (ad 8)), some (.ref (ad 30)), some (.ref (ad 56))] [] σ
  refine a_aload_n C dX4_goOnSafely_0 (i := 0) rfl rfl ?_
  refine a_aload_n C dX4_goOnSafely_1 (i := 1) rfl rfl ?_
  refine a_aload_n C dX4_goOnSafely_2 (i := 2) rfl rfl ?_
  refine s_iconst C dX4_goOnSafely_3 (-1) (by decide) (fun z1 h2 => ?_)
  refine a_callVv C (i := 8) kd_8 (hid 8 (by decide)) ⟨_, _, rfl⟩ (by decide) (S_X4_oneBeat_8_30_56 (x3 := z1) hid hG) mi_X4_oneBeat ml_RX4_18 rfl rfl (Nat.le_of_ble_eq_true rfl) (Nat.le_of_ble_eq_true rfl) (Nat.le_of_ble_eq_true rfl) dX4_goOnSafely_4 (fun σ4 q5 => ?_)
  obtain ⟨hG6, ho7⟩ := q5
  exact a_vret Rt dX4_goOnSafely_7 (⟨hG6, (ony.tr ony.rf (ony.mono ho7 (by decide)))⟩)
theorem dX4_inForce_12 : decode cX4_inForce 12 = .ok (.aload_n 0, 1) := by decide +kernel
theorem dX4_inForce_13 : decode cX4_inForce 13 = .ok (.aload_n 1, 1) := by decide +kernel
theorem dX4_inForce_14 : decode cX4_inForce 14 = .ok (.aload_n 2, 1) := by decide +kernel
theorem dX4_inForce_15 : decode cX4_inForce 15 = .ok (.iload_n 3, 1) := by decide +kernel
theorem dX4_inForce_16 : decode cX4_inForce 16 = .ok (.aload_n 2, 1) := by decide +kernel
theorem dX4_inForce_17 : decode cX4_inForce 17 = .ok (.invokevirtual 28, 3) := by decide +kernel
theorem dX4_inForce_20 : decode cX4_inForce 20 = .ok (.aload_n 2, 1) := by decide +kernel
theorem dX4_inForce_21 : decode cX4_inForce 21 = .ok (.invokevirtual 31, 3) := by decide +kernel
theorem dX4_inForce_24 : decode cX4_inForce 24 = .ok (.iconst 1, 1) := by decide +kernel
theorem dX4_inForce_25 : decode cX4_inForce 25 = .ok (.isub, 1) := by decide +kernel
theorem dX4_inForce_26 : decode cX4_inForce 26 = .ok (.isub, 1) := by decide +kernel
theorem dX4_inForce_27 : decode cX4_inForce 27 = .ok (.invokevirtual 34, 3) := by decide +kernel
theorem dX4_inForce_30 : decode cX4_inForce 30 = .ok (.aload_n 0, 1) := by decide +kernel
theorem dX4_inForce_31 : decode cX4_inForce 31 = .ok (.aload_n 1, 1) := by decide +kernel
theorem dX4_inForce_32 : decode cX4_inForce 32 = .ok (.iconst 2, 1) := by decide +kernel
theorem dX4_inForce_33 : decode cX4_inForce 33 = .ok (.iconst 0, 1) := by decide +kernel
theorem dX4_inForce_34 : decode cX4_inForce 34 = .ok (.invokevirtual 38, 3) := by decide +kernel
theorem dX4_inForce_37 : decode cX4_inForce 37 = .ok (.ireturn, 1) := by decide +kernel
set_option maxHeartbeats 4000000 in
set_option maxRecDepth 100000 in
theorem S_X4_inForce_8_30_56 {l : Launch} {D : va_G} {ids : List Nat} {ad : Nat → Nat} {ca : Nat → ClassId} {σ : HS} (hid : ∀ i, i < 277 → i ∈ ids) (hG : GIc σ) : Ki l D ids ad ca yX4_inForce cX4_inForce 4 .int 3 74 [.ref (ad 8), .ref (ad 30), .ref (ad 56)] σ (fun r σ1 => (GIc σ1) ∧ (ony [9, 10, 11] σ σ1)) := by
  refine Ki.of (by decide) (Nat.le_of_ble_eq_true rfl) 1 (fun Γ C Rt => ?_)
  show AW ids ad ca Γ 0 [some (.ref (ad 8)), some (.ref (ad 30)), some (.ref (ad 56)), none] [] σ
  refine a_aload_n C dX4_inForce_0 (i := 2) rfl rfl ?_
  refine a_callVi C (i := 56) kd_56 (hid 56 (by decide)) ⟨_, _, rfl⟩ (by decide) (S_X0_firstLanding_56 hid hG) mi_X0_firstLanding ml_RX4_22 rfl rfl (Nat.le_of_ble_eq_true rfl) (Nat.le_of_ble_eq_true rfl) (Nat.le_of_ble_eq_true rfl) dX4_inForce_1 (fun z1 σ2 q3 => ?_)
  obtain ⟨w4, w5⟩ := q3
  rw [w4]
  refine a_istore_n C dX4_inForce_4 (i := 3) rfl (by decide) rfl (vs1 := [some (.ref (ad 8)), some (.ref (ad 30)), some (.ref (ad 56)), some (.int z1)]) rfl ?_
  refine a_iload_n C dX4_inForce_5 (i := 3) rfl rfl ?_
  refine s_iconst C dX4_inForce_6 (-1) (by decide) (fun z6 h7 => ?_)
  refine s_ic_ne C dX4_inForce_7 (tgt := 12) rfl (fun c8 => ?_) (fun c8 => ?_)
  ·
    refine a_aload_n C dX4_inForce_12 (i := 0) rfl rfl ?_
    refine a_aload_n C dX4_inForce_13 (i := 1) rfl rfl ?_
    refine a_aload_n C dX4_inForce_14 (i := 2) rfl rfl ?_
    refine a_iload_n C dX4_inForce_15 (i := 3) rfl rfl ?_
    refine a_aload_n C dX4_inForce_16 (i := 2) rfl rfl ?_
    refine a_callVi C (i := 56) kd_56 (hid 56 (by decide)) ⟨_, _, rfl⟩ (by decide) (S_X0_howManyUp_56 hid hG) mi_X0_howManyUp ml_RX4_28 rfl rfl (Nat.le_of_ble_eq_true rfl) (Nat.le_of_ble_eq_true rfl) (Nat.le_of_ble_eq_true rfl) dX4_inForce_17 (fun z9 σ10 q11 => ?_)
    rw [q11]
    refine a_aload_n C dX4_inForce_20 (i := 2) rfl rfl ?_
    refine a_callVi C (i := 56) kd_56 (hid 56 (by decide)) ⟨_, _, rfl⟩ (by decide) (S_X0_howManyLand_56 hid hG) mi_X0_howManyLand ml_RX4_31 rfl rfl (Nat.le_of_ble_eq_true rfl) (Nat.le_of_ble_eq_true rfl) (Nat.le_of_ble_eq_true rfl) dX4_inForce_21 (fun z12 σ13 q14 => ?_)
    rw [q14]
    refine s_iconst C dX4_inForce_24 (1) (by decide) (fun z15 h16 => ?_)
    refine s_isubU C dX4_inForce_25 (fun z17 => ?_)
    refine s_isubU C dX4_inForce_26 (fun z19 => ?_)
    refine a_callVv C (i := 8) kd_8 (hid 8 (by decide)) ⟨_, _, rfl⟩ (by decide) (S_X4_lookAt_8_30_56 (x3 := z1) (x4 := z19) hid hG (by omega)) mi_X4_lookAt ml_RX4_34 rfl rfl (Nat.le_of_ble_eq_true rfl) (Nat.le_of_ble_eq_true rfl) (Nat.le_of_ble_eq_true rfl) dX4_inForce_27 (fun σ22 q23 => ?_)
    obtain ⟨hG24, ho25⟩ := q23
    refine a_aload_n C dX4_inForce_30 (i := 0) rfl rfl ?_
    refine a_aload_n C dX4_inForce_31 (i := 1) rfl rfl ?_
    refine s_iconst C dX4_inForce_32 (2) (by decide) (fun z27 h28 => ?_)
    refine s_iconst C dX4_inForce_33 (0) (by decide) (fun z29 h30 => ?_)
    refine a_callVi C (i := 8) kd_8 (hid 8 (by decide)) ⟨_, _, rfl⟩ (by decide) (S_X4_asks_8_30 (x2 := z27) (x3 := z29) hid hG24 (by omega)) mi_X4_asks ml_RX4_38 rfl rfl (Nat.le_of_ble_eq_true rfl) (Nat.le_of_ble_eq_true rfl) (Nat.le_of_ble_eq_true rfl) dX4_inForce_34 (fun z31 σ32 q33 => ?_)
    obtain ⟨hG34, ho35⟩ := q33
    exact a_iret Rt dX4_inForce_37 rfl (⟨hG34, (ony.tr (ony.tr ony.rf (ony.mono ho25 (by decide))) (ony.mono ho35 (by decide)))⟩)
  ·
    refine s_iconst C dX4_inForce_10 (0) (by decide) (fun z37 h38 => ?_)
    exact a_iret Rt dX4_inForce_11 rfl (⟨hG, ony.rf⟩)
set_option maxHeartbeats 4000000 in
set_option maxRecDepth 100000 in
theorem S_X4_lookAt_8_30_60 {l : Launch} {D : va_G} {ids : List Nat} {ad : Nat → Nat} {ca : Nat → ClassId} {σ : HS} {x3 : Int32} {x4 : Int32} (hid : ∀ i, i < 277 → i ∈ ids) (hG : GIc σ) (hx3 : 0 ≤ x3.toInt ∧ x3.toInt ≤ 6) : Kv l D ids ad ca yX4_lookAt cX4_lookAt 5 0 0 [.ref (ad 8), .ref (ad 30), .ref (ad 60), .int x3, .int x4] σ (fun σ1 => (GIc σ1) ∧ (ony [10] σ σ1)) := by
  refine Kv.of (by decide) (Nat.le_of_ble_eq_true rfl) 0 (fun Γ C Rt => ?_)
  show AW ids ad ca Γ 0 [some (.ref (ad 8)), some (.ref (ad 30)), some (.ref (ad 60)), some (.int x3), some (.int x4)] [] σ
  refine a_aload_n C dX4_lookAt_0 (i := 0) rfl rfl ?_
  refine a_get C fl_RX4_12 (i := 8) kd_8 (hid 8 (by decide)) (v := .ref (ad 9)) rfl dX4_lookAt_1 ?_
  refine a_get C fl_RX4_107 (i := 9) kd_9 (hid 9 (by decide)) (v := .ref (ad 10)) rfl dX4_lookAt_4 ?_
  refine s_iconst C dX4_lookAt_7 (0) (by decide) (fun z1 h2 => ?_)
  refine a_aload_n C dX4_lookAt_8 (i := 1) rfl rfl ?_
  refine a_get C fl_RX4_110 (i := 30) kd_30 (hid 30 (by decide)) (v := .ref (ad 31)) rfl dX4_lookAt_9 ?_
  refine a_iload_n C dX4_lookAt_12 (i := 3) rfl rfl ?_
  refine s_iald C (i := 31) kd_31 (hid 31 (by decide)) al_31 (by omega) (by omega) dX4_lookAt_13 (fun n3 h4 => ?_)
  refine s_val (fun z5 e6 => ?_)
  refine s_iast C (i := 10) kd_10 (hid 10 (by decide)) al_10 (by omega) (by omega) dX4_lookAt_14 (fun n7 h8 => ?_)
  have hG9 := wA_10 (v := z5) (j := n7) hG
  refine a_aload_n C dX4_lookAt_15 (i := 0) rfl rfl ?_
  refine a_get C fl_RX4_12 (i := 8) kd_8 (hid 8 (by decide)) (v := .ref (ad 9)) rfl dX4_lookAt_16 ?_
  refine a_get C fl_RX4_107 (i := 9) kd_9 (hid 9 (by decide)) (v := .ref (ad 10)) rfl dX4_lookAt_19 ?_
  refine s_iconst C dX4_lookAt_22 (1) (by decide) (fun z10 h11 => ?_)
  refine a_aload_n C dX4_lookAt_23 (i := 1) rfl rfl ?_
  refine a_get C fl_RX4_113 (i := 30) kd_30 (hid 30 (by decide)) (v := .ref (ad 32)) rfl dX4_lookAt_24 ?_
  refine a_iload_n C dX4_lookAt_27 (i := 3) rfl rfl ?_
  refine s_iald C (i := 32) kd_32 (hid 32 (by decide)) al_32 (by omega) (by omega) dX4_lookAt_28 (fun n12 h13 => ?_)
  refine s_val (fun z14 e15 => ?_)
  refine s_iast C (i := 10) kd_10 (hid 10 (by decide)) al_10 (by omega) (by omega) dX4_lookAt_29 (fun n16 h17 => ?_)
  have hG18 := wA_10 (v := z14) (j := n16) hG9
  refine a_aload_n C dX4_lookAt_30 (i := 0) rfl rfl ?_
  refine a_get C fl_RX4_12 (i := 8) kd_8 (hid 8 (by decide)) (v := .ref (ad 9)) rfl dX4_lookAt_31 ?_
  refine a_get C fl_RX4_107 (i := 9) kd_9 (hid 9 (by decide)) (v := .ref (ad 10)) rfl dX4_lookAt_34 ?_
  refine s_iconst C dX4_lookAt_37 (3) (by decide) (fun z19 h20 => ?_)
  refine a_aload_n C dX4_lookAt_38 (i := 2) rfl rfl ?_
  refine a_get C fl_RX4_78 (i := 60) kd_60 (hid 60 (by decide)) (v := .int (σ.1 60 4)) rfl dX4_lookAt_39 ?_
  refine s_iast C (i := 10) kd_10 (hid 10 (by decide)) al_10 (by omega) (by omega) dX4_lookAt_42 (fun n21 h22 => ?_)
  have hG23 := wA_10 (v := (σ.1 60 4)) (j := n21) hG18
  refine a_aload_n C dX4_lookAt_43 (i := 0) rfl rfl ?_
  refine a_get C fl_RX4_12 (i := 8) kd_8 (hid 8 (by decide)) (v := .ref (ad 9)) rfl dX4_lookAt_44 ?_
  refine a_get C fl_RX4_107 (i := 9) kd_9 (hid 9 (by decide)) (v := .ref (ad 10)) rfl dX4_lookAt_47 ?_
  refine s_iconst C dX4_lookAt_50 (4) (by decide) (fun z24 h25 => ?_)
  refine a_aload_n C dX4_lookAt_51 (i := 2) rfl rfl ?_
  refine a_get C fl_RX4_42 (i := 60) kd_60 (hid 60 (by decide)) (v := .int (σ.1 60 5)) rfl dX4_lookAt_52 ?_
  refine s_iast C (i := 10) kd_10 (hid 10 (by decide)) al_10 (by omega) (by omega) dX4_lookAt_55 (fun n26 h27 => ?_)
  have hG28 := wA_10 (v := (σ.1 60 5)) (j := n26) hG23
  refine a_aload_n C dX4_lookAt_56 (i := 0) rfl rfl ?_
  refine a_get C fl_RX4_12 (i := 8) kd_8 (hid 8 (by decide)) (v := .ref (ad 9)) rfl dX4_lookAt_57 ?_
  refine a_get C fl_RX4_107 (i := 9) kd_9 (hid 9 (by decide)) (v := .ref (ad 10)) rfl dX4_lookAt_60 ?_
  refine s_iconst C dX4_lookAt_63 (5) (by decide) (fun z29 h30 => ?_)
  refine a_iload C dX4_lookAt_64 rfl ?_
  refine s_iast C (i := 10) kd_10 (hid 10 (by decide)) al_10 (by omega) (by omega) dX4_lookAt_66 (fun n31 h32 => ?_)
  have hG33 := wA_10 (v := x4) (j := n31) hG28
  refine a_aload_n C dX4_lookAt_67 (i := 0) rfl rfl ?_
  refine a_get C fl_RX4_12 (i := 8) kd_8 (hid 8 (by decide)) (v := .ref (ad 9)) rfl dX4_lookAt_68 ?_
  refine a_get C fl_RX4_107 (i := 9) kd_9 (hid 9 (by decide)) (v := .ref (ad 10)) rfl dX4_lookAt_71 ?_
  refine s_bipush C dX4_lookAt_74 (6) (by decide) (fun z34 h35 => ?_)
  refine a_iload_n C dX4_lookAt_76 (i := 3) rfl rfl ?_
  refine s_iast C (i := 10) kd_10 (hid 10 (by decide)) al_10 (by omega) (by omega) dX4_lookAt_77 (fun n36 h37 => ?_)
  have hG38 := wA_10 (v := x3) (j := n36) hG33
  refine a_aload_n C dX4_lookAt_78 (i := 0) rfl rfl ?_
  refine a_get C fl_RX4_12 (i := 8) kd_8 (hid 8 (by decide)) (v := .ref (ad 9)) rfl dX4_lookAt_79 ?_
  refine a_get C fl_RX4_107 (i := 9) kd_9 (hid 9 (by decide)) (v := .ref (ad 10)) rfl dX4_lookAt_82 ?_
  refine s_bipush C dX4_lookAt_85 (7) (by decide) (fun z39 h40 => ?_)
  refine a_aload_n C dX4_lookAt_87 (i := 2) rfl rfl ?_
  refine a_get C fl_RX4_98 (i := 60) kd_60 (hid 60 (by decide)) (v := .int (σ.1 60 7)) rfl dX4_lookAt_88 ?_
  refine s_iast C (i := 10) kd_10 (hid 10 (by decide)) al_10 (by omega) (by omega) dX4_lookAt_91 (fun n41 h42 => ?_)
  have hG43 := wA_10 (v := (σ.1 60 7)) (j := n41) hG38
  refine a_aload_n C dX4_lookAt_92 (i := 0) rfl rfl ?_
  refine a_get C fl_RX4_12 (i := 8) kd_8 (hid 8 (by decide)) (v := .ref (ad 9)) rfl dX4_lookAt_93 ?_
  refine a_get C fl_RX4_107 (i := 9) kd_9 (hid 9 (by decide)) (v := .ref (ad 10)) rfl dX4_lookAt_96 ?_
  refine s_bipush C dX4_lookAt_99 (8) (by decide) (fun z44 h45 => ?_)
  refine a_aload_n C dX4_lookAt_101 (i := 2) rfl rfl ?_
  refine a_get C fl_RX4_78 (i := 60) kd_60 (hid 60 (by decide)) (v := .int (σ.1 60 4)) rfl dX4_lookAt_102 ?_
  refine s_iconst C dX4_lookAt_105 (1) (by decide) (fun z46 h47 => ?_)
  refine s_iand C dX4_lookAt_106 (by omega) (fun z48 h49 => ?_)
  refine s_iast C (i := 10) kd_10 (hid 10 (by decide)) al_10 (by omega) (by omega) dX4_lookAt_107 (fun n50 h51 => ?_)
  have hG52 := wA_10 (v := z48) (j := n50) hG43
  exact a_vret Rt dX4_lookAt_108 (⟨hG52, (ony.I (ony.I (ony.I (ony.I (ony.I (ony.I (ony.I (ony.I ony.rf (by decide)) (by decide)) (by decide)) (by decide)) (by decide)) (by decide)) (by decide)) (by decide))⟩)
set_option maxHeartbeats 4000000 in
set_option maxRecDepth 100000 in
theorem S_X4_catchOne_8_30_60 {l : Launch} {D : va_G} {ids : List Nat} {ad : Nat → Nat} {ca : Nat → ClassId} {σ : HS} {x3 : Int32} {x4 : Int32} (hid : ∀ i, i < 277 → i ∈ ids) (hG : GIc σ) (hx3 : 0 ≤ x3.toInt ∧ x3.toInt ≤ 6) : Kv l D ids ad ca yX4_catchOne cX4_catchOne 6 3 74 [.ref (ad 8), .ref (ad 30), .ref (ad 60), .int x3, .int x4] σ (fun σ1 => (GIc σ1) ∧ (ony [9, 10, 11, 60, 61, 62, 63] σ σ1)) := by
  refine Kv.of (by decide) (Nat.le_of_ble_eq_true rfl) 1 (fun Γ C Rt => ?_)
  show AW ids ad ca Γ 0 [some (.ref (ad 8)), some (.ref (ad 30)), some (.ref (ad 60)), some (.int x3), some (.int x4), none] [] σ
  have j43 : ∀ (σq43 : HS) (y43_5 : Int32), GIc σq43 → ony [9, 10, 11, 60, 61, 62, 63] σ σq43 → AW ids ad ca Γ 43 [some (.ref (ad 8)), some (.ref (ad 30)), some (.ref (ad 60)), some (.int x3), none, some (.int y43_5)] [] σq43 := by
    intro σq43 y43_5 hGq43 hoq43
    refine a_aload_n C dX4_catchOne_43 (i := 2) rfl rfl ?_
    refine a_dup C dX4_catchOne_44 rfl ?_
    refine a_get C fl_RX4_92 (i := 60) kd_60 (hid 60 (by decide)) (v := .int (σq43.1 60 8)) rfl dX4_catchOne_45 ?_
    refine a_aload_n C dX4_catchOne_48 (i := 0) rfl rfl ?_
    refine a_aload_n C dX4_catchOne_49 (i := 1) rfl rfl ?_
    refine s_iconst C dX4_catchOne_50 (3) (by decide) (fun z1 h2 => ?_)
    refine s_iconst C dX4_catchOne_51 (0) (by decide) (fun z3 h4 => ?_)
    refine a_callVi C (i := 8) kd_8 (hid 8 (by decide)) ⟨_, _, rfl⟩ (by decide) (S_X4_asks_8_30 (x2 := z1) (x3 := z3) hid hGq43 (by omega)) mi_X4_asks ml_RX4_38 rfl rfl (Nat.le_of_ble_eq_true rfl) (Nat.le_of_ble_eq_true rfl) (Nat.le_of_ble_eq_true rfl) dX4_catchOne_52 (fun z5 σ6 q7 => ?_)
    obtain ⟨hG8, ho9⟩ := q7
    refine s_iaddU C dX4_catchOne_55 (fun z11 => ?_)
    refine a_put C fp_RX4_92 (i := 60) kd_60 (hid 60 (by decide)) rfl rfl dX4_catchOne_56 ?_
    have hG13 := wF_60_8 (v := z11) hG8
    refine a_aload_n C dX4_catchOne_59 (i := 2) rfl rfl ?_
    refine s_sipush C dX4_catchOne_60 (999) (by decide) (fun z14 h15 => ?_)
    refine a_aload_n C dX4_catchOne_63 (i := 2) rfl rfl ?_
    refine a_get C fl_RX4_42 (i := 60) kd_60 (hid 60 (by decide)) (v := .int (σ6.1 60 5)) rfl dX4_catchOne_64 ?_
    refine a_aload_n C dX4_catchOne_67 (i := 0) rfl rfl ?_
    refine a_aload_n C dX4_catchOne_68 (i := 1) rfl rfl ?_
    refine s_iconst C dX4_catchOne_69 (0) (by decide) (fun z16 h17 => ?_)
    refine a_iload C dX4_catchOne_70 rfl ?_
    refine a_callVi C (i := 8) kd_8 (hid 8 (by decide)) ⟨_, _, rfl⟩ (by decide) (S_X4_asks_8_30 (x2 := z16) (x3 := y43_5) hid hG13 (by omega)) mi_X4_asks ml_RX4_38 rfl rfl (Nat.le_of_ble_eq_true rfl) (Nat.le_of_ble_eq_true rfl) (Nat.le_of_ble_eq_true rfl) dX4_catchOne_72 (fun z18 σ19 q20 => ?_)
    obtain ⟨hG21, ho22⟩ := q20
    refine s_iaddU C dX4_catchOne_75 (fun z24 => ?_)
    refine s_mmin C dX4_catchOne_76 mm_RX4_95 mm_min.1 mm_min.2.1 mm_min.2.2 (Nat.le_of_ble_eq_true rfl) (Nat.le_of_ble_eq_true rfl) (fun z26 h27 => ?_)
    refine a_put C fp_RX4_42 (i := 60) kd_60 (hid 60 (by decide)) rfl rfl dX4_catchOne_79 ?_
    have hG28 := wF_60_5 (v := z26) hG21
    refine a_aload_n C dX4_catchOne_82 (i := 2) rfl rfl ?_
    refine a_dup C dX4_catchOne_83 rfl ?_
    refine a_get C fl_RX4_98 (i := 60) kd_60 (hid 60 (by decide)) (v := .int (σ19.1 60 7)) rfl dX4_catchOne_84 ?_
    refine s_iconst C dX4_catchOne_87 (1) (by decide) (fun z29 h30 => ?_)
    refine s_iaddU C dX4_catchOne_88 (fun z31 => ?_)
    refine a_put C fp_RX4_98 (i := 60) kd_60 (hid 60 (by decide)) rfl rfl dX4_catchOne_89 ?_
    have hG33 := wF_60_7 (v := z31) hG28
    refine a_aload_n C dX4_catchOne_92 (i := 2) rfl rfl ?_
    refine a_get C fl_RX4_101 (i := 60) kd_60 (hid 60 (by decide)) (v := .ref (ad 63)) rfl dX4_catchOne_93 ?_
    refine a_iload_n C dX4_catchOne_96 (i := 3) rfl rfl ?_
    refine a_dup2 C dX4_catchOne_97 rfl rfl ?_
    refine s_iald C (i := 63) kd_63 (hid 63 (by decide)) al_63 (by omega) (by omega) dX4_catchOne_98 (fun n34 h35 => ?_)
    refine s_val (fun z36 e37 => ?_)
    refine s_iconst C dX4_catchOne_99 (1) (by decide) (fun z38 h39 => ?_)
    refine s_iaddU C dX4_catchOne_100 (fun z40 => ?_)
    refine s_iast C (i := 63) kd_63 (hid 63 (by decide)) al_63 (by omega) (by omega) dX4_catchOne_101 (fun n42 h43 => ?_)
    have hG44 := wA_63 (v := z40) (j := n42) hG33
    refine a_aload_n C dX4_catchOne_102 (i := 2) rfl rfl ?_
    refine a_get C fl_RX4_74 (i := 60) kd_60 (hid 60 (by decide)) (v := .ref (ad 62)) rfl dX4_catchOne_103 ?_
    refine a_iload_n C dX4_catchOne_106 (i := 3) rfl rfl ?_
    refine a_iload C dX4_catchOne_107 rfl ?_
    refine s_iast C (i := 62) kd_62 (hid 62 (by decide)) al_62 (by omega) (by omega) dX4_catchOne_109 (fun n45 h46 => ?_)
    have hG47 := wA_62 (v := y43_5) (j := n45) hG44
    refine a_iload C dX4_catchOne_110 rfl ?_
    refine s_if_ne C dX4_catchOne_112 (tgt := 122) rfl (fun c48 => ?_) (fun c48 => ?_)
    ·
      exact a_vret Rt dX4_catchOne_122 (⟨hG47, (ony.I (ony.I (ony.I (ony.I (ony.tr (ony.I (ony.tr hoq43 (ony.mono ho9 (by decide))) (by decide)) (ony.mono ho22 (by decide))) (by decide)) (by decide)) (by decide)) (by decide))⟩)
    ·
      refine a_aload_n C dX4_catchOne_115 (i := 2) rfl rfl ?_
      refine a_get C fl_RX4_104 (i := 60) kd_60 (hid 60 (by decide)) (v := .ref (ad 61)) rfl dX4_catchOne_116 ?_
      refine a_iload_n C dX4_catchOne_119 (i := 3) rfl rfl ?_
      refine s_iconst C dX4_catchOne_120 (1) (by decide) (fun z49 h50 => ?_)
      refine s_iast C (i := 61) kd_61 (hid 61 (by decide)) al_61 (by omega) (by omega) dX4_catchOne_121 (fun n51 h52 => ?_)
      have hG53 := wA_61 (v := z49) (j := n51) hG47
      exact a_vret Rt dX4_catchOne_122 (⟨hG53, (ony.I (ony.I (ony.I (ony.I (ony.I (ony.tr (ony.I (ony.tr hoq43 (ony.mono ho9 (by decide))) (by decide)) (ony.mono ho22 (by decide))) (by decide)) (by decide)) (by decide)) (by decide)) (by decide))⟩)
  refine a_aload_n C dX4_catchOne_0 (i := 2) rfl rfl ?_
  refine a_aload_n C dX4_catchOne_1 (i := 1) rfl rfl ?_
  refine a_callVi C (i := 60) kd_60 (hid 60 (by decide)) ⟨_, _, rfl⟩ (by decide) (S_X0_heightBy_60_30 hid hG) mi_X0_heightBy ml_RX4_84 rfl rfl (Nat.le_of_ble_eq_true rfl) (Nat.le_of_ble_eq_true rfl) (Nat.le_of_ble_eq_true rfl) dX4_catchOne_2 (fun z54 σ55 q56 => ?_)
  rw [q56]
  refine a_istore C dX4_catchOne_5 (by decide) rfl (vs1 := [some (.ref (ad 8)), some (.ref (ad 30)), some (.ref (ad 60)), some (.int x3), some (.int x4), some (.int z54)]) rfl ?_
  refine a_iload C dX4_catchOne_7 rfl ?_
  refine s_iconst C dX4_catchOne_9 (-1) (by decide) (fun z57 h58 => ?_)
  refine s_ic_eq C dX4_catchOne_10 (tgt := 43) rfl (fun c59 => ?_) (fun c59 => ?_)
  ·
    refine AW.sub (vs' := [some (.ref (ad 8)), some (.ref (ad 30)), some (.ref (ad 60)), some (.int x3), none, some (.int z54)]) (lsub_of (by simp [lsubB])) ?_
    exact j43 _ z54 hG ony.rf
  ·
    refine s_bipush C dX4_catchOne_13 (100) (by decide) (fun z60 h61 => ?_)
    refine a_iload C dX4_catchOne_15 rfl ?_
    refine s_iconst C dX4_catchOne_17 (4) (by decide) (fun z62 h63 => ?_)
    refine a_aload_n C dX4_catchOne_18 (i := 2) rfl rfl ?_
    refine a_get C fl_RX4_78 (i := 60) kd_60 (hid 60 (by decide)) (v := .int (σ.1 60 4)) rfl dX4_catchOne_19 ?_
    refine s_imulU C dX4_catchOne_22 (fun z64 => ?_)
    refine a_callSi C (S_X4_lot (x1 := z60) (x2 := x4) (x3 := z64) hid hG) ms_X4_lot ml_RX4_88 rfl rfl (Nat.le_of_ble_eq_true rfl) (Nat.le_of_ble_eq_true rfl) (Nat.le_of_ble_eq_true rfl) dX4_catchOne_23 (fun z66 σ67 q68 => ?_)
    rw [q68]
    refine a_aload_n C dX4_catchOne_26 (i := 0) rfl rfl ?_
    refine a_aload_n C dX4_catchOne_27 (i := 1) rfl rfl ?_
    refine s_iconst C dX4_catchOne_28 (1) (by decide) (fun z69 h70 => ?_)
    refine a_iload C dX4_catchOne_29 rfl ?_
    refine a_callVi C (i := 8) kd_8 (hid 8 (by decide)) ⟨_, _, rfl⟩ (by decide) (S_X4_asks_8_30 (x2 := z69) (x3 := z54) hid hG (by omega)) mi_X4_asks ml_RX4_38 rfl rfl (Nat.le_of_ble_eq_true rfl) (Nat.le_of_ble_eq_true rfl) (Nat.le_of_ble_eq_true rfl) dX4_catchOne_31 (fun z71 σ72 q73 => ?_)
    obtain ⟨hG74, ho75⟩ := q73
    refine s_ic_ge C dX4_catchOne_34 (tgt := 43) rfl (fun c77 => ?_) (fun c77 => ?_)
    ·
      refine AW.sub (vs' := [some (.ref (ad 8)), some (.ref (ad 30)), some (.ref (ad 60)), some (.int x3), none, some (.int z54)]) (lsub_of (by simp [lsubB])) ?_
      exact j43 _ z54 hG74 (ony.tr ony.rf (ony.mono ho75 (by decide)))
    ·
      refine a_aload_n C dX4_catchOne_37 (i := 2) rfl rfl ?_
      refine a_iload_n C dX4_catchOne_38 (i := 3) rfl rfl ?_
      refine a_callVv C (i := 60) kd_60 (hid 60 (by decide)) ⟨_, _, rfl⟩ (by decide) (S_X0_drop_60 (x1 := x3) hid hG74 (by omega)) mi_X0_drop ml_RX4_64 rfl rfl (Nat.le_of_ble_eq_true rfl) (Nat.le_of_ble_eq_true rfl) (Nat.le_of_ble_eq_true rfl) dX4_catchOne_39 (fun σ79 q80 => ?_)
      obtain ⟨hG81, ho82⟩ := q80
      exact a_vret Rt dX4_catchOne_42 (⟨hG81, (ony.tr (ony.tr ony.rf (ony.mono ho75 (by decide))) (ony.mono ho82 (by decide)))⟩)
set_option maxHeartbeats 4000000 in
set_option maxRecDepth 100000 in
theorem S_X4_oneBeat_8_30_60 {l : Launch} {D : va_G} {ids : List Nat} {ad : Nat → Nat} {ca : Nat → ClassId} {σ : HS} {x3 : Int32} (hid : ∀ i, i < 277 → i ∈ ids) (hG : GIc σ) : Kv l D ids ad ca yX4_oneBeat cX4_oneBeat 6 4 99 [.ref (ad 8), .ref (ad 30), .ref (ad 60), .int x3] σ (fun σ1 => (GIc σ1) ∧ (ony [9, 10, 11, 60, 61, 62, 63] σ σ1)) := by
  refine Kv.of (by decide) (Nat.le_of_ble_eq_true rfl) 2 (fun Γ C Rt => ?_)
  show AW ids ad ca Γ 0 [some (.ref (ad 8)), some (.ref (ad 30)), some (.ref (ad 60)), some (.int x3), none, none] [] σ
  have j92 : ∀ (d92 : Nat) (σq92 : HS) (y92_5 : Int32), 7 - y92_5.toInt < d92 → GIc σq92 → ony [9, 10, 11, 60, 61, 62, 63] σ σq92 → 0 ≤ y92_5.toInt ∧ y92_5.toInt ≤ 7 → AW ids ad ca Γ 92 [none, none, some (.ref (ad 60)), none, none, some (.int y92_5)] [] σq92 := by
    intro d92
    induction d92 with
    | zero =>
      intro σq92 y92_5 hd92 hGq92 hoq92 hx92_0
      exfalso
      omega
    | succ d92 ih92 =>
      intro σq92 y92_5 hd92 hGq92 hoq92 hx92_0
      have j121 : ∀ (σq121 : HS), GIc σq121 → ony [9, 10, 11, 60, 61, 62, 63] σ σq121 → 0 ≤ y92_5.toInt ∧ y92_5.toInt ≤ 6 → AW ids ad ca Γ 121 [none, none, some (.ref (ad 60)), none, none, some (.int y92_5)] [] σq121 := by
        intro σq121 hGq121 hoq121 hx121_0
        refine s_iinc C dX4_oneBeat_121 rfl (1) (by decide) (by omega) (by decide) rfl (fun z1 h2 => ?_)
        show AW ids ad ca Γ 124 [none, none, some (.ref (ad 60)), none, none, some (.int z1)] _ _
        refine a_goto C dX4_oneBeat_124 (tgt := 92) rfl ?_
        exact ih92 _ z1 (by omega) hGq121 hoq121 (by omega)
      refine a_iload C dX4_oneBeat_92 rfl ?_
      refine a_aload_n C dX4_oneBeat_94 (i := 2) rfl rfl ?_
      have g3 := bF_60_0 hGq92
      refine a_get C fl_RX4_57 (i := 60) kd_60 (hid 60 (by decide)) (v := .int (σq92.1 60 0)) rfl dX4_oneBeat_95 ?_
      refine s_ic_ge C dX4_oneBeat_98 (tgt := 127) rfl (fun c4 => ?_) (fun c4 => ?_)
      ·
        refine a_aload_n C dX4_oneBeat_127 (i := 2) rfl rfl ?_
        refine a_dup C dX4_oneBeat_128 rfl ?_
        refine a_get C fl_RX4_78 (i := 60) kd_60 (hid 60 (by decide)) (v := .int (σq92.1 60 4)) rfl dX4_oneBeat_129 ?_
        refine s_iconst C dX4_oneBeat_132 (1) (by decide) (fun z5 h6 => ?_)
        refine s_iaddU C dX4_oneBeat_133 (fun z7 => ?_)
        refine a_put C fp_RX4_78 (i := 60) kd_60 (hid 60 (by decide)) rfl rfl dX4_oneBeat_134 ?_
        have hG9 := wF_60_4 (v := z7) hGq92
        refine a_aload_n C dX4_oneBeat_137 (i := 2) rfl rfl ?_
        refine s_iconst C dX4_oneBeat_138 (-1) (by decide) (fun z10 h11 => ?_)
        refine a_put C fp_RX4_81 (i := 60) kd_60 (hid 60 (by decide)) rfl rfl dX4_oneBeat_139 ?_
        have hG12 := wF_60_11 (v := z10) hG9
        exact a_vret Rt dX4_oneBeat_142 (⟨hG12, (ony.I (ony.I hoq92 (by decide)) (by decide))⟩)
      ·
        refine a_aload_n C dX4_oneBeat_101 (i := 2) rfl rfl ?_
        refine a_iload C dX4_oneBeat_102 rfl ?_
        refine a_callVi C (i := 60) kd_60 (hid 60 (by decide)) ⟨_, _, rfl⟩ (by decide) (S_X0_isUp_60 (x1 := y92_5) hid hGq92 (by omega)) mi_X0_isUp ml_RX4_71 rfl rfl (Nat.le_of_ble_eq_true rfl) (Nat.le_of_ble_eq_true rfl) (Nat.le_of_ble_eq_true rfl) dX4_oneBeat_104 (fun z13 σ14 q15 => ?_)
        obtain ⟨w16, w17⟩ := q15
        rw [w16]
        refine s_if_eq C dX4_oneBeat_107 (tgt := 121) rfl (fun c18 => ?_) (fun c18 => ?_)
        ·
          exact j121 _ hGq92 hoq92 (by omega)
        ·
          refine a_aload_n C dX4_oneBeat_110 (i := 2) rfl rfl ?_
          refine a_get C fl_RX4_74 (i := 60) kd_60 (hid 60 (by decide)) (v := .ref (ad 62)) rfl dX4_oneBeat_111 ?_
          refine a_iload C dX4_oneBeat_114 rfl ?_
          refine a_dup2 C dX4_oneBeat_116 rfl rfl ?_
          refine s_iald C (i := 62) kd_62 (hid 62 (by decide)) al_62 (by omega) (by omega) dX4_oneBeat_117 (fun n19 h20 => ?_)
          refine s_val (fun z21 e22 => ?_)
          refine s_iconst C dX4_oneBeat_118 (1) (by decide) (fun z23 h24 => ?_)
          refine s_isubU C dX4_oneBeat_119 (fun z25 => ?_)
          refine s_iast C (i := 62) kd_62 (hid 62 (by decide)) al_62 (by omega) (by omega) dX4_oneBeat_120 (fun n27 h28 => ?_)
          have hG29 := wA_62 (v := z25) (j := n27) hGq92
          exact j121 _ hG29 (ony.I hoq92 (by decide)) (by omega)
  have j89 : ∀ (σq89 : HS), GIc σq89 → ony [9, 10, 11, 60, 61, 62, 63] σ σq89 → AW ids ad ca Γ 89 [none, none, some (.ref (ad 60)), none, none, none] [] σq89 := by
    intro σq89 hGq89 hoq89
    refine s_iconst C dX4_oneBeat_89 (0) (by decide) (fun z30 h31 => ?_)
    refine a_istore C dX4_oneBeat_90 (by decide) rfl (vs1 := [none, none, some (.ref (ad 60)), none, none, some (.int z30)]) rfl ?_
    exact j92 100000 _ z30 (by omega) hGq89 hoq89 (by omega)
  have j38 : ∀ (d38 : Nat) (σq38 : HS) (y38_4 : Int32) (y38_5 : Int32), 7 - y38_5.toInt < d38 → GIc σq38 → ony [9, 10, 11, 60, 61, 62, 63] σ σq38 → 0 ≤ y38_4.toInt ∧ y38_4.toInt ≤ 6 → 1 ≤ y38_5.toInt ∧ y38_5.toInt ≤ 7 → AW ids ad ca Γ 38 [some (.ref (ad 8)), some (.ref (ad 30)), some (.ref (ad 60)), some (.int x3), some (.int y38_4), some (.int y38_5)] [] σq38 := by
    intro d38
    induction d38 with
    | zero =>
      intro σq38 y38_4 y38_5 hd38 hGq38 hoq38 hx38_0 hx38_1
      exfalso
      omega
    | succ d38 ih38 =>
      intro σq38 y38_4 y38_5 hd38 hGq38 hoq38 hx38_0 hx38_1
      have j62 : ∀ (σq62 : HS), GIc σq62 → ony [9, 10, 11, 60, 61, 62, 63] σ σq62 → 1 ≤ y38_5.toInt ∧ y38_5.toInt ≤ 6 → AW ids ad ca Γ 62 [some (.ref (ad 8)), some (.ref (ad 30)), some (.ref (ad 60)), some (.int x3), some (.int y38_4), some (.int y38_5)] [] σq62 := by
        intro σq62 hGq62 hoq62 hx62_0
        refine s_iinc C dX4_oneBeat_62 rfl (1) (by decide) (by omega) (by decide) rfl (fun z32 h33 => ?_)
        show AW ids ad ca Γ 65 [some (.ref (ad 8)), some (.ref (ad 30)), some (.ref (ad 60)), some (.int x3), some (.int y38_4), some (.int z32)] _ _
        refine a_goto C dX4_oneBeat_65 (tgt := 38) rfl ?_
        exact ih38 _ y38_4 z32 (by omega) hGq62 hoq62 (by omega) (by omega)
      refine a_iload C dX4_oneBeat_38 rfl ?_
      refine a_aload_n C dX4_oneBeat_40 (i := 2) rfl rfl ?_
      have g34 := bF_60_0 hGq38
      refine a_get C fl_RX4_57 (i := 60) kd_60 (hid 60 (by decide)) (v := .int (σq38.1 60 0)) rfl dX4_oneBeat_41 ?_
      refine s_ic_ge C dX4_oneBeat_44 (tgt := 68) rfl (fun c35 => ?_) (fun c35 => ?_)
      ·
        refine a_aload_n C dX4_oneBeat_68 (i := 0) rfl rfl ?_
        refine a_aload_n C dX4_oneBeat_69 (i := 1) rfl rfl ?_
        refine a_aload_n C dX4_oneBeat_70 (i := 2) rfl rfl ?_
        refine a_iload C dX4_oneBeat_71 rfl ?_
        refine a_aload_n C dX4_oneBeat_73 (i := 2) rfl rfl ?_
        refine a_callVi C (i := 60) kd_60 (hid 60 (by decide)) ⟨_, _, rfl⟩ (by decide) (S_X0_howManyUp_60 hid hGq38) mi_X0_howManyUp ml_RX4_28 rfl rfl (Nat.le_of_ble_eq_true rfl) (Nat.le_of_ble_eq_true rfl) (Nat.le_of_ble_eq_true rfl) dX4_oneBeat_74 (fun z36 σ37 q38 => ?_)
        rw [q38]
        refine a_callVv C (i := 8) kd_8 (hid 8 (by decide)) ⟨_, _, rfl⟩ (by decide) (S_X4_lookAt_8_30_60 (x3 := y38_4) (x4 := z36) hid hGq38 (by omega)) mi_X4_lookAt ml_RX4_34 rfl rfl (Nat.le_of_ble_eq_true rfl) (Nat.le_of_ble_eq_true rfl) (Nat.le_of_ble_eq_true rfl) dX4_oneBeat_77 (fun σ40 q41 => ?_)
        obtain ⟨hG42, ho43⟩ := q41
        refine a_aload_n C dX4_oneBeat_80 (i := 0) rfl rfl ?_
        refine a_aload_n C dX4_oneBeat_81 (i := 1) rfl rfl ?_
        refine a_aload_n C dX4_oneBeat_82 (i := 2) rfl rfl ?_
        refine a_iload C dX4_oneBeat_83 rfl ?_
        refine a_iload_n C dX4_oneBeat_85 (i := 3) rfl rfl ?_
        refine a_callVv C (i := 8) kd_8 (hid 8 (by decide)) ⟨_, _, rfl⟩ (by decide) (S_X4_catchOne_8_30_60 (x3 := y38_4) (x4 := x3) hid hG42 (by omega)) mi_X4_catchOne ml_RX4_68 rfl rfl (Nat.le_of_ble_eq_true rfl) (Nat.le_of_ble_eq_true rfl) (Nat.le_of_ble_eq_true rfl) dX4_oneBeat_86 (fun σ46 q47 => ?_)
        obtain ⟨hG48, ho49⟩ := q47
        refine AW.sub (vs' := [none, none, some (.ref (ad 60)), none, none, none]) (lsub_of (by simp [lsubB])) ?_
        exact j89 _ hG48 (ony.tr (ony.tr hoq38 (ony.mono ho43 (by decide))) (ony.mono ho49 (by decide)))
      ·
        refine a_aload_n C dX4_oneBeat_47 (i := 2) rfl rfl ?_
        refine a_iload C dX4_oneBeat_48 rfl ?_
        refine a_callVi C (i := 60) kd_60 (hid 60 (by decide)) ⟨_, _, rfl⟩ (by decide) (S_X0_landsNow_60 (x1 := y38_5) hid hGq38 (by omega)) mi_X0_landsNow ml_RX4_60 rfl rfl (Nat.le_of_ble_eq_true rfl) (Nat.le_of_ble_eq_true rfl) (Nat.le_of_ble_eq_true rfl) dX4_oneBeat_50 (fun z51 σ52 q53 => ?_)
        obtain ⟨w54, w55⟩ := q53
        rw [w54]
        refine s_if_eq C dX4_oneBeat_53 (tgt := 62) rfl (fun c56 => ?_) (fun c56 => ?_)
        ·
          exact j62 _ hGq38 hoq38 (by omega)
        ·
          refine a_aload_n C dX4_oneBeat_56 (i := 2) rfl rfl ?_
          refine a_iload C dX4_oneBeat_57 rfl ?_
          refine a_callVv C (i := 60) kd_60 (hid 60 (by decide)) ⟨_, _, rfl⟩ (by decide) (S_X0_drop_60 (x1 := y38_5) hid hGq38 (by omega)) mi_X0_drop ml_RX4_64 rfl rfl (Nat.le_of_ble_eq_true rfl) (Nat.le_of_ble_eq_true rfl) (Nat.le_of_ble_eq_true rfl) dX4_oneBeat_59 (fun σ58 q59 => ?_)
          obtain ⟨hG60, ho61⟩ := q59
          exact j62 _ hG60 (ony.tr hoq38 (ony.mono ho61 (by decide))) (by omega)
  refine a_aload_n C dX4_oneBeat_0 (i := 2) rfl rfl ?_
  refine a_callVi C (i := 60) kd_60 (hid 60 (by decide)) ⟨_, _, rfl⟩ (by decide) (S_X0_firstLanding_60 hid hG) mi_X0_firstLanding ml_RX4_22 rfl rfl (Nat.le_of_ble_eq_true rfl) (Nat.le_of_ble_eq_true rfl) (Nat.le_of_ble_eq_true rfl) dX4_oneBeat_1 (fun z63 σ64 q65 => ?_)
  obtain ⟨w66, w67⟩ := q65
  rw [w66]
  refine a_istore C dX4_oneBeat_4 (by decide) rfl (vs1 := [some (.ref (ad 8)), some (.ref (ad 30)), some (.ref (ad 60)), some (.int x3), some (.int z63), none]) rfl ?_
  refine a_iload C dX4_oneBeat_6 rfl ?_
  refine s_iconst C dX4_oneBeat_8 (-1) (by decide) (fun z68 h69 => ?_)
  refine s_ic_ne C dX4_oneBeat_9 (tgt := 32) rfl (fun c70 => ?_) (fun c70 => ?_)
  ·
    refine a_iload C dX4_oneBeat_32 rfl ?_
    refine s_iconst C dX4_oneBeat_34 (1) (by decide) (fun z71 h72 => ?_)
    refine s_iadd C dX4_oneBeat_35 (by omega) (fun z73 h74 => ?_)
    refine a_istore C dX4_oneBeat_36 (by decide) rfl (vs1 := [some (.ref (ad 8)), some (.ref (ad 30)), some (.ref (ad 60)), some (.int x3), some (.int z63), some (.int z73)]) rfl ?_
    exact j38 100000 _ z63 z73 (by omega) hG ony.rf (by omega) (by omega)
  ·
    refine a_aload_n C dX4_oneBeat_12 (i := 2) rfl rfl ?_
    refine s_iconst C dX4_oneBeat_13 (0) (by decide) (fun z75 h76 => ?_)
    refine a_aload_n C dX4_oneBeat_14 (i := 2) rfl rfl ?_
    refine a_get C fl_RX4_42 (i := 60) kd_60 (hid 60 (by decide)) (v := .int (σ.1 60 5)) rfl dX4_oneBeat_15 ?_
    refine a_aload_n C dX4_oneBeat_18 (i := 1) rfl rfl ?_
    refine a_get C fl_RX4_46 (i := 30) kd_30 (hid 30 (by decide)) (v := .int (σ.1 30 10)) rfl dX4_oneBeat_19 ?_
    refine s_isubU C dX4_oneBeat_22 (fun z77 => ?_)
    refine s_mmax C dX4_oneBeat_23 mm_RX4_51 mm_max.1 mm_max.2.1 mm_max.2.2 (Nat.le_of_ble_eq_true rfl) (Nat.le_of_ble_eq_true rfl) (fun z79 h80 => ?_)
    refine a_put C fp_RX4_42 (i := 60) kd_60 (hid 60 (by decide)) rfl rfl dX4_oneBeat_26 ?_
    have hG81 := wF_60_5 (v := z79) hG
    refine a_goto C dX4_oneBeat_29 (tgt := 89) rfl ?_
    refine AW.sub (vs' := [none, none, some (.ref (ad 60)), none, none, none]) (lsub_of (by simp [lsubB])) ?_
    exact j89 _ hG81 (ony.I ony.rf (by decide))
