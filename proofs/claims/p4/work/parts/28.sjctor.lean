theorem dX11_init_0 : decode cX11_init 0 = .ok (.aload_n 0, 1) := by decide +kernel
theorem dX11_init_1 : decode cX11_init 1 = .ok (.invokespecial 1, 3) := by decide +kernel
theorem dX11_init_4 : decode cX11_init 4 = .ok (.aload_n 0, 1) := by decide +kernel
theorem dX11_init_5 : decode cX11_init 5 = .ok (.new 7, 3) := by decide +kernel
theorem dX11_init_8 : decode cX11_init 8 = .ok (.dup, 1) := by decide +kernel
theorem dX11_init_9 : decode cX11_init 9 = .ok (.invokespecial 9, 3) := by decide +kernel
theorem dX11_init_12 : decode cX11_init 12 = .ok (.putfield 10, 3) := by decide +kernel
theorem dX11_init_15 : decode cX11_init 15 = .ok (.aload_n 0, 1) := by decide +kernel
theorem dX11_init_16 : decode cX11_init 16 = .ok (.new 16, 3) := by decide +kernel
theorem dX11_init_19 : decode cX11_init 19 = .ok (.dup, 1) := by decide +kernel
theorem dX11_init_20 : decode cX11_init 20 = .ok (.invokespecial 18, 3) := by decide +kernel
theorem dX11_init_23 : decode cX11_init 23 = .ok (.putfield 19, 3) := by decide +kernel
theorem dX11_init_26 : decode cX11_init 26 = .ok (.aload_n 0, 1) := by decide +kernel
theorem dX11_init_27 : decode cX11_init 27 = .ok (.new 23, 3) := by decide +kernel
theorem dX11_init_30 : decode cX11_init 30 = .ok (.dup, 1) := by decide +kernel
theorem dX11_init_31 : decode cX11_init 31 = .ok (.invokespecial 25, 3) := by decide +kernel
theorem dX11_init_34 : decode cX11_init 34 = .ok (.putfield 26, 3) := by decide +kernel
theorem dX11_init_37 : decode cX11_init 37 = .ok (.aload_n 0, 1) := by decide +kernel
theorem dX11_init_38 : decode cX11_init 38 = .ok (.new 30, 3) := by decide +kernel
theorem dX11_init_41 : decode cX11_init 41 = .ok (.dup, 1) := by decide +kernel
theorem dX11_init_42 : decode cX11_init 42 = .ok (.invokespecial 32, 3) := by decide +kernel
theorem dX11_init_45 : decode cX11_init 45 = .ok (.putfield 33, 3) := by decide +kernel
theorem dX11_init_48 : decode cX11_init 48 = .ok (.aload_n 0, 1) := by decide +kernel
theorem dX11_init_49 : decode cX11_init 49 = .ok (.new 37, 3) := by decide +kernel
theorem dX11_init_52 : decode cX11_init 52 = .ok (.dup, 1) := by decide +kernel
theorem dX11_init_53 : decode cX11_init 53 = .ok (.invokespecial 39, 3) := by decide +kernel
theorem dX11_init_56 : decode cX11_init 56 = .ok (.putfield 40, 3) := by decide +kernel
theorem dX11_init_59 : decode cX11_init 59 = .ok (.aload_n 0, 1) := by decide +kernel
theorem dX11_init_60 : decode cX11_init 60 = .ok (.new 44, 3) := by decide +kernel
theorem dX11_init_63 : decode cX11_init 63 = .ok (.dup, 1) := by decide +kernel
theorem dX11_init_64 : decode cX11_init 64 = .ok (.invokespecial 46, 3) := by decide +kernel
theorem dX11_init_67 : decode cX11_init 67 = .ok (.putfield 47, 3) := by decide +kernel
theorem dX11_init_70 : decode cX11_init 70 = .ok (.aload_n 0, 1) := by decide +kernel
theorem dX11_init_71 : decode cX11_init 71 = .ok (.new 51, 3) := by decide +kernel
theorem dX11_init_74 : decode cX11_init 74 = .ok (.dup, 1) := by decide +kernel
theorem dX11_init_75 : decode cX11_init 75 = .ok (.invokespecial 53, 3) := by decide +kernel
theorem dX11_init_78 : decode cX11_init 78 = .ok (.putfield 54, 3) := by decide +kernel
theorem dX11_init_81 : decode cX11_init 81 = .ok (.aload_n 0, 1) := by decide +kernel
theorem dX11_init_82 : decode cX11_init 82 = .ok (.new 51, 3) := by decide +kernel
theorem dX11_init_85 : decode cX11_init 85 = .ok (.dup, 1) := by decide +kernel
theorem dX11_init_86 : decode cX11_init 86 = .ok (.invokespecial 53, 3) := by decide +kernel
theorem dX11_init_89 : decode cX11_init 89 = .ok (.putfield 58, 3) := by decide +kernel
theorem dX11_init_92 : decode cX11_init 92 = .ok (.aload_n 0, 1) := by decide +kernel
theorem dX11_init_93 : decode cX11_init 93 = .ok (.iconst 3, 1) := by decide +kernel
theorem dX11_init_94 : decode cX11_init 94 = .ok (.anewarray 51, 3) := by decide +kernel
theorem dX11_init_97 : decode cX11_init 97 = .ok (.putfield 61, 3) := by decide +kernel
theorem dX11_init_100 : decode cX11_init 100 = .ok (.aload_n 0, 1) := by decide +kernel
theorem dX11_init_101 : decode cX11_init 101 = .ok (.iconst 3, 1) := by decide +kernel
theorem dX11_init_102 : decode cX11_init 102 = .ok (.newarray .boolean, 2) := by decide +kernel
theorem dX11_init_104 : decode cX11_init 104 = .ok (.putfield 65, 3) := by decide +kernel
theorem dX11_init_107 : decode cX11_init 107 = .ok (.aload_n 0, 1) := by decide +kernel
theorem dX11_init_108 : decode cX11_init 108 = .ok (.bipush 61, 2) := by decide +kernel
theorem dX11_init_110 : decode cX11_init 110 = .ok (.newarray .int, 2) := by decide +kernel
theorem dX11_init_112 : decode cX11_init 112 = .ok (.putfield 69, 3) := by decide +kernel
theorem dX11_init_115 : decode cX11_init 115 = .ok (.aload_n 0, 1) := by decide +kernel
theorem dX11_init_116 : decode cX11_init 116 = .ok (.bipush 7, 2) := by decide +kernel
theorem dX11_init_118 : decode cX11_init 118 = .ok (.newarray .int, 2) := by decide +kernel
theorem dX11_init_120 : decode cX11_init 120 = .ok (.putfield 73, 3) := by decide +kernel
theorem dX11_init_123 : decode cX11_init 123 = .ok (.aload_n 0, 1) := by decide +kernel
theorem dX11_init_124 : decode cX11_init 124 = .ok (.bipush 16, 2) := by decide +kernel
theorem dX11_init_126 : decode cX11_init 126 = .ok (.newarray .int, 2) := by decide +kernel
theorem dX11_init_128 : decode cX11_init 128 = .ok (.putfield 76, 3) := by decide +kernel
theorem dX11_init_131 : decode cX11_init 131 = .ok (.aload_n 0, 1) := by decide +kernel
theorem dX11_init_132 : decode cX11_init 132 = .ok (.new 79, 3) := by decide +kernel
theorem dX11_init_135 : decode cX11_init 135 = .ok (.dup, 1) := by decide +kernel
theorem dX11_init_136 : decode cX11_init 136 = .ok (.invokespecial 81, 3) := by decide +kernel
theorem dX11_init_139 : decode cX11_init 139 = .ok (.putfield 82, 3) := by decide +kernel
theorem dX11_init_142 : decode cX11_init 142 = .ok (.aload_n 0, 1) := by decide +kernel
theorem dX11_init_143 : decode cX11_init 143 = .ok (.new 79, 3) := by decide +kernel
theorem dX11_init_146 : decode cX11_init 146 = .ok (.dup, 1) := by decide +kernel
theorem dX11_init_147 : decode cX11_init 147 = .ok (.invokespecial 81, 3) := by decide +kernel
theorem dX11_init_150 : decode cX11_init 150 = .ok (.putfield 86, 3) := by decide +kernel
theorem dX11_init_153 : decode cX11_init 153 = .ok (.iconst 0, 1) := by decide +kernel
theorem dX11_init_154 : decode cX11_init 154 = .ok (.istore_n 1, 1) := by decide +kernel
theorem dX11_init_155 : decode cX11_init 155 = .ok (.iload_n 1, 1) := by decide +kernel
theorem dX11_init_156 : decode cX11_init 156 = .ok (.iconst 3, 1) := by decide +kernel
theorem dX11_init_157 : decode cX11_init 157 = .ok (.if_icmp .ge 22, 3) := by decide +kernel
theorem dX11_init_160 : decode cX11_init 160 = .ok (.aload_n 0, 1) := by decide +kernel
theorem dX11_init_161 : decode cX11_init 161 = .ok (.getfield 61, 3) := by decide +kernel
theorem dX11_init_164 : decode cX11_init 164 = .ok (.iload_n 1, 1) := by decide +kernel
theorem dX11_init_165 : decode cX11_init 165 = .ok (.new 51, 3) := by decide +kernel
theorem dX11_init_168 : decode cX11_init 168 = .ok (.dup, 1) := by decide +kernel
theorem dX11_init_169 : decode cX11_init 169 = .ok (.invokespecial 53, 3) := by decide +kernel
theorem dX11_init_172 : decode cX11_init 172 = .ok (.aastore, 1) := by decide +kernel
theorem dX11_init_173 : decode cX11_init 173 = .ok (.iinc 1 1, 3) := by decide +kernel
theorem dX11_init_176 : decode cX11_init 176 = .ok (.goto (-21), 3) := by decide +kernel
theorem dX11_init_179 : decode cX11_init 179 = .ok (.return_, 1) := by decide +kernel
set_option maxHeartbeats 40000000 in
set_option maxRecDepth 100000 in
theorem n_10 {l : Launch} {D : va_G} {a : Nat} : KN (S := UU) l D yX11_init cX11_init 2 3 62 235 9033 [.ref a] [(a, .inr (10, [.null, .null, .null, .null, .null, .null, .null, .null, .null, .null, .null, .null, .null, .null, .null]))] [] (fun u => mw idJ u.1 u.2 s0) (fun u => tys idJ u.2) (fun u => u.1 0 = a) := by
  refine KN.of (by decide) (Nat.le_of_ble_eq_true rfl) 1 (fun Γ C hin hG Rt => ?_)
  have hin := hin rfl
  show GW Γ 0 [some (.ref a), none] [] [(a, .inr (10, [.null, .null, .null, .null, .null, .null, .null, .null, .null, .null, .null, .null, .null, .null, .null]))] [] 0 0
  refine g_aload_n C dX11_init_0 (i := 0) rfl rfl ?_
  refine g_objInit C oi_10 oi_w.1 oi_w.2 (by decide) (Nat.le_of_ble_eq_true rfl) dX11_init_1 ?_
  refine g_aload_n C dX11_init_4 (i := 0) rfl rfl ?_
  refine g_new C nc_10_7 (by omega) (by omega) dX11_init_5 (fun q1 => ?_)
  refine g_dup C dX11_init_8 rfl ?_
  refine g_initN C hG (X := [(a, .inr (10, [.null, .null, .null, .null, .null, .null, .null, .null, .null, .null, .null, .null, .null, .null, .null]))]) (n_5) mn_5 (host := "StateJuggler") (by decide +kernel) rfl (Nat.le_of_ble_eq_true rfl) (Nat.le_of_ble_eq_true rfl) (by omega) (by omega) (Nat.le_of_ble_eq_true rfl) dX11_init_9 (fun u1 hu1 => ?_)
  subst hu1
  obtain ⟨w1, hw1⟩ : ∃ w : UU, w = u1 := ⟨_, rfl⟩
  obtain ⟨T1, hT1⟩ : ∃ T : List (ClassId × FieldType), T = tcl [3, 4, 5, 6, 7] u1 := ⟨_, rfl⟩
  have ht1 : tyIn J1 w1 T1 := by rw [hw1, hT1]; exact (tyIn.tcl (by decide +kernel))
  have hs1 : u1.1 1 = w1.1 1 := by rw [hw1]
  rw [hs1]
  refine g_eq (ws1 := (a, .inr (10, [.null, .null, .null, .null, .null, .null, .null, .null, .null, .null, .null, .null, .null, .null, .null])) :: mw J1 w1.1 w1.2 s0) (ts1 := T1) (kc1 := 7) (ks1 := 3231) (by rw [hw1] <;> rfl) (by rw [hT1] <;> rfl) rfl rfl ?_
  refine g_put C hin (q0 := 0) fw_10_10 rfl rfl rfl (Nat.le_of_ble_eq_true rfl) dX11_init_12 (ws1 := (a, .inr (10, [.ref (w1.1 1), .null, .null, .null, .null, .null, .null, .null, .null, .null, .null, .null, .null, .null, .null])) :: mw J1 w1.1 w1.2 s0) rfl ?_
  refine g_aload_n C dX11_init_15 (i := 0) rfl rfl ?_
  refine g_new C nc_10_16 (by omega) (by omega) dX11_init_16 (fun q2 => ?_)
  refine g_dup C dX11_init_19 rfl ?_
  refine g_initN C hG (X := (a, .inr (10, [.ref (w1.1 1), .null, .null, .null, .null, .null, .null, .null, .null, .null, .null, .null, .null, .null, .null])) :: mw J1 w1.1 w1.2 s0) (n_3) mn_3 (host := "StateJuggler") (by decide +kernel) rfl (Nat.le_of_ble_eq_true rfl) (Nat.le_of_ble_eq_true rfl) (by omega) (by omega) (Nat.le_of_ble_eq_true rfl) dX11_init_20 (fun u2 hu2 => ?_)
  subst hu2
  obtain ⟨w2, hw2⟩ : ∃ w : UU, w = gl J1 w1 u2 := ⟨_, rfl⟩
  obtain ⟨T2, hT2⟩ : ∃ T : List (ClassId × FieldType), T = T1 ++ tcl [10, 11] u2 := ⟨_, rfl⟩
  have ht2 : tyIn J2 w2 T2 := by rw [hw2, hT2]; exact tyIn.glue ht1 (tyIn.tcl (by decide +kernel)) dj_2
  have hs2 : u2.1 8 = w2.1 8 := by rw [hw2]; exact (gl_r (u := w1) (v := u2) nj_8_1).symm
  rw [hs2]
  refine g_eq (ws1 := (a, .inr (10, [.ref (w2.1 1), .null, .null, .null, .null, .null, .null, .null, .null, .null, .null, .null, .null, .null, .null])) :: mw J2 w2.1 w2.2 s0) (ts1 := T2) (kc1 := 11) (ks1 := 3277) (by rw [show J2 = J1 ++ [8, 9, 10, 11] from rfl, hw2, ← glue cl_1 clp_2 dj_2, gl_l mj_1_1] <;> rfl) (by rw [hT2] <;> rfl) rfl rfl ?_
  refine g_put C hin (q0 := 0) fw_10_19 rfl rfl rfl (Nat.le_of_ble_eq_true rfl) dX11_init_23 (ws1 := (a, .inr (10, [.ref (w2.1 1), .ref (w2.1 8), .null, .null, .null, .null, .null, .null, .null, .null, .null, .null, .null, .null, .null])) :: mw J2 w2.1 w2.2 s0) rfl ?_
  refine g_aload_n C dX11_init_26 (i := 0) rfl rfl ?_
  refine g_new C nc_10_23 (by omega) (by omega) dX11_init_27 (fun q3 => ?_)
  refine g_dup C dX11_init_30 rfl ?_
  refine g_initI C hG (X := (a, .inr (10, [.ref (w2.1 1), .ref (w2.1 8), .null, .null, .null, .null, .null, .null, .null, .null, .null, .null, .null, .null, .null])) :: mw J2 w2.1 w2.2 s0) (n_4) mn_4 (host := "") ml_RX11_25 rfl (Nat.le_of_ble_eq_true rfl) (Nat.le_of_ble_eq_true rfl) (by omega) (by omega) (Nat.le_of_ble_eq_true rfl) dX11_init_31 (fun u3 hu3 => ?_)
  subst hu3
  obtain ⟨w3, hw3⟩ : ∃ w : UU, w = gl J2 w2 u3 := ⟨_, rfl⟩
  obtain ⟨T3, hT3⟩ : ∃ T : List (ClassId × FieldType), T = T2 ++ tcl (13 :: (ringN 160).filter (fun i => decide (12 ≤ kd i))) u3 := ⟨_, rfl⟩
  have ht3 : tyIn J3 w3 T3 := by rw [hw3, hT3]; exact tyIn.glue ht2 (tyIn.tcl (by decide +kernel)) dj_3
  have hs3 : u3.1 12 = w3.1 12 := by rw [hw3]; exact (gl_r (u := w2) (v := u3) nj_12_2).symm
  rw [hs3]
  refine g_eq (ws1 := (a, .inr (10, [.ref (w3.1 1), .ref (w3.1 8), .null, .null, .null, .null, .null, .null, .null, .null, .null, .null, .null, .null, .null])) :: mw J3 w3.1 w3.2 s0) (ts1 := T3) (kc1 := 173) (ks1 := 4640) (by rw [show J3 = J2 ++ (12 :: 13 :: ringN 160) from rfl, hw3, ← glue cl_2 clp_3 dj_3, gl_l mj_1_2, gl_l mj_8_2] <;> rfl) (by rw [hT3] <;> rfl) rfl rfl ?_
  refine g_put C hin (q0 := 0) fw_10_26 rfl rfl rfl (Nat.le_of_ble_eq_true rfl) dX11_init_34 (ws1 := (a, .inr (10, [.ref (w3.1 1), .ref (w3.1 8), .ref (w3.1 12), .null, .null, .null, .null, .null, .null, .null, .null, .null, .null, .null, .null])) :: mw J3 w3.1 w3.2 s0) rfl ?_
  refine g_aload_n C dX11_init_37 (i := 0) rfl rfl ?_
  refine g_new C nc_10_30 (by omega) (by omega) dX11_init_38 (fun q4 => ?_)
  refine g_dup C dX11_init_41 rfl ?_
  refine g_initN C hG (X := (a, .inr (10, [.ref (w3.1 1), .ref (w3.1 8), .ref (w3.1 12), .null, .null, .null, .null, .null, .null, .null, .null, .null, .null, .null, .null])) :: mw J3 w3.1 w3.2 s0) (n_2) mn_2 (host := "StateJuggler") (by decide +kernel) rfl (Nat.le_of_ble_eq_true rfl) (Nat.le_of_ble_eq_true rfl) (by omega) (by omega) (Nat.le_of_ble_eq_true rfl) dX11_init_42 (fun u4 hu4 => ?_)
  subst hu4
  obtain ⟨w4, hw4⟩ : ∃ w : UU, w = gl J3 w3 u4 := ⟨_, rfl⟩
  obtain ⟨T4, hT4⟩ : ∃ T : List (ClassId × FieldType), T = T3 ++ tcl [15, 16] u4 := ⟨_, rfl⟩
  have ht4 : tyIn J4 w4 T4 := by rw [hw4, hT4]; exact tyIn.glue ht3 (tyIn.tcl (by decide +kernel)) dj_4
  have hs4 : u4.1 14 = w4.1 14 := by rw [hw4]; exact (gl_r (u := w3) (v := u4) nj_14_3).symm
  rw [hs4]
  refine g_eq (ws1 := (a, .inr (10, [.ref (w4.1 1), .ref (w4.1 8), .ref (w4.1 12), .null, .null, .null, .null, .null, .null, .null, .null, .null, .null, .null, .null])) :: mw J4 w4.1 w4.2 s0) (ts1 := T4) (kc1 := 176) (ks1 := 4683) (by rw [show J4 = J3 ++ [14, 15, 16] from rfl, hw4, ← glue cl_3 clp_4 dj_4, gl_l mj_1_3, gl_l mj_8_3, gl_l mj_12_3] <;> rfl) (by rw [hT4] <;> rfl) rfl rfl ?_
  refine g_put C hin (q0 := 0) fw_10_33 rfl rfl rfl (Nat.le_of_ble_eq_true rfl) dX11_init_45 (ws1 := (a, .inr (10, [.ref (w4.1 1), .ref (w4.1 8), .ref (w4.1 12), .ref (w4.1 14), .null, .null, .null, .null, .null, .null, .null, .null, .null, .null, .null])) :: mw J4 w4.1 w4.2 s0) rfl ?_
  refine g_aload_n C dX11_init_48 (i := 0) rfl rfl ?_
  refine g_new C nc_10_37 (by omega) (by omega) dX11_init_49 (fun q5 => ?_)
  refine g_dup C dX11_init_52 rfl ?_
  refine g_initN C hG (X := (a, .inr (10, [.ref (w4.1 1), .ref (w4.1 8), .ref (w4.1 12), .ref (w4.1 14), .null, .null, .null, .null, .null, .null, .null, .null, .null, .null, .null])) :: mw J4 w4.1 w4.2 s0) (n_6) mn_6 (host := "StateJuggler") (by decide +kernel) rfl (Nat.le_of_ble_eq_true rfl) (Nat.le_of_ble_eq_true rfl) (by omega) (by omega) (Nat.le_of_ble_eq_true rfl) dX11_init_53 (fun u5 hu5 => ?_)
  subst hu5
  obtain ⟨w5, hw5⟩ : ∃ w : UU, w = gl J4 w4 u5 := ⟨_, rfl⟩
  obtain ⟨T5, hT5⟩ : ∃ T : List (ClassId × FieldType), T = T4 ++ tcl [18, 19, 20, 21] u5 := ⟨_, rfl⟩
  have ht5 : tyIn J5 w5 T5 := by rw [hw5, hT5]; exact tyIn.glue ht4 (tyIn.tcl (by decide +kernel)) dj_5
  have hs5 : u5.1 17 = w5.1 17 := by rw [hw5]; exact (gl_r (u := w4) (v := u5) nj_17_4).symm
  rw [hs5]
  refine g_eq (ws1 := (a, .inr (10, [.ref (w5.1 1), .ref (w5.1 8), .ref (w5.1 12), .ref (w5.1 14), .null, .null, .null, .null, .null, .null, .null, .null, .null, .null, .null])) :: mw J5 w5.1 w5.2 s0) (ts1 := T5) (kc1 := 181) (ks1 := 7773) (by rw [show J5 = J4 ++ [17, 18, 19, 20, 21] from rfl, hw5, ← glue cl_4 clp_5 dj_5, gl_l mj_1_4, gl_l mj_8_4, gl_l mj_12_4, gl_l mj_14_4] <;> rfl) (by rw [hT5] <;> rfl) rfl rfl ?_
  refine g_put C hin (q0 := 0) fw_10_40 rfl rfl rfl (Nat.le_of_ble_eq_true rfl) dX11_init_56 (ws1 := (a, .inr (10, [.ref (w5.1 1), .ref (w5.1 8), .ref (w5.1 12), .ref (w5.1 14), .ref (w5.1 17), .null, .null, .null, .null, .null, .null, .null, .null, .null, .null])) :: mw J5 w5.1 w5.2 s0) rfl ?_
  refine g_aload_n C dX11_init_59 (i := 0) rfl rfl ?_
  refine g_new C nc_10_44 (by omega) (by omega) dX11_init_60 (fun q6 => ?_)
  refine g_dup C dX11_init_63 rfl ?_
  refine g_initN C hG (X := (a, .inr (10, [.ref (w5.1 1), .ref (w5.1 8), .ref (w5.1 12), .ref (w5.1 14), .ref (w5.1 17), .null, .null, .null, .null, .null, .null, .null, .null, .null, .null])) :: mw J5 w5.1 w5.2 s0) (n_7) mn_7 (host := "StateJuggler") (by decide +kernel) rfl (Nat.le_of_ble_eq_true rfl) (Nat.le_of_ble_eq_true rfl) (by omega) (by omega) (Nat.le_of_ble_eq_true rfl) dX11_init_64 (fun u6 hu6 => ?_)
  subst hu6
  obtain ⟨w6, hw6⟩ : ∃ w : UU, w = gl J5 w5 u6 := ⟨_, rfl⟩
  obtain ⟨T6, hT6⟩ : ∃ T : List (ClassId × FieldType), T = T5 ++ tcl [23, 24] u6 := ⟨_, rfl⟩
  have ht6 : tyIn J6 w6 T6 := by rw [hw6, hT6]; exact tyIn.glue ht5 (tyIn.tcl (by decide +kernel)) dj_6
  have hs6 : u6.1 22 = w6.1 22 := by rw [hw6]; exact (gl_r (u := w5) (v := u6) nj_22_5).symm
  rw [hs6]
  refine g_eq (ws1 := (a, .inr (10, [.ref (w6.1 1), .ref (w6.1 8), .ref (w6.1 12), .ref (w6.1 14), .ref (w6.1 17), .null, .null, .null, .null, .null, .null, .null, .null, .null, .null])) :: mw J6 w6.1 w6.2 s0) (ts1 := T6) (kc1 := 184) (ks1 := 7788) (by rw [show J6 = J5 ++ [22, 23, 24] from rfl, hw6, ← glue cl_5 clp_6 dj_6, gl_l mj_1_5, gl_l mj_8_5, gl_l mj_12_5, gl_l mj_14_5, gl_l mj_17_5] <;> rfl) (by rw [hT6] <;> rfl) rfl rfl ?_
  refine g_put C hin (q0 := 0) fw_10_47 rfl rfl rfl (Nat.le_of_ble_eq_true rfl) dX11_init_67 (ws1 := (a, .inr (10, [.ref (w6.1 1), .ref (w6.1 8), .ref (w6.1 12), .ref (w6.1 14), .ref (w6.1 17), .ref (w6.1 22), .null, .null, .null, .null, .null, .null, .null, .null, .null])) :: mw J6 w6.1 w6.2 s0) rfl ?_
  refine g_aload_n C dX11_init_70 (i := 0) rfl rfl ?_
  refine g_new C nc_10_51 (by omega) (by omega) dX11_init_71 (fun q7 => ?_)
  refine g_dup C dX11_init_74 rfl ?_
  refine g_initN C hG (X := (a, .inr (10, [.ref (w6.1 1), .ref (w6.1 8), .ref (w6.1 12), .ref (w6.1 14), .ref (w6.1 17), .ref (w6.1 22), .null, .null, .null, .null, .null, .null, .null, .null, .null])) :: mw J6 w6.1 w6.2 s0) (n_0) mn_0 (host := "StateJuggler") (by decide +kernel) rfl (Nat.le_of_ble_eq_true rfl) (Nat.le_of_ble_eq_true rfl) (by omega) (by omega) (Nat.le_of_ble_eq_true rfl) dX11_init_75 (fun u7 hu7 => ?_)
  subst hu7
  obtain ⟨w7, hw7⟩ : ∃ w : UU, w = gl J6 w6 (shA 56 u7) := ⟨_, rfl⟩
  obtain ⟨T7, hT7⟩ : ∃ T : List (ClassId × FieldType), T = T6 ++ tcl [61, 62, 63] u7 := ⟨_, rfl⟩
  have ht7 : tyIn J7 w7 T7 := by rw [hw7, hT7]; exact tyIn.glue ht6 (air_shT (tyIn.tcl (by decide +kernel)) kd_56 kd_57 kd_58 kd_59) dj_7
  have hs7 : u7.1 60 = w7.1 56 := by rw [hw7]; exact (gl_r (u := w6) (v := (shA 56 u7)) nj_56_6).symm
  rw [hs7]
  refine g_eq (ws1 := (a, .inr (10, [.ref (w7.1 1), .ref (w7.1 8), .ref (w7.1 12), .ref (w7.1 14), .ref (w7.1 17), .ref (w7.1 22), .null, .null, .null, .null, .null, .null, .null, .null, .null])) :: mw J7 w7.1 w7.2 s0) (ts1 := T7) (kc1 := 188) (ks1 := 7821) (by rw [show J7 = J6 ++ [56, 57, 58, 59] from rfl, hw7, ← glue cl_6 clp_7 dj_7, gl_l mj_1_6, gl_l mj_8_6, gl_l mj_12_6, gl_l mj_14_6, gl_l mj_17_6, gl_l mj_22_6, ← air_sh u7 kd_56 ⟨kd_57, al_57⟩ ⟨kd_58, al_58⟩ ⟨kd_59, al_59⟩ (by decide) (by decide)] <;> rfl) (by rw [hT7] <;> rfl) rfl rfl ?_
  refine g_put C hin (q0 := 0) fw_10_54 rfl rfl rfl (Nat.le_of_ble_eq_true rfl) dX11_init_78 (ws1 := (a, .inr (10, [.ref (w7.1 1), .ref (w7.1 8), .ref (w7.1 12), .ref (w7.1 14), .ref (w7.1 17), .ref (w7.1 22), .ref (w7.1 56), .null, .null, .null, .null, .null, .null, .null, .null])) :: mw J7 w7.1 w7.2 s0) rfl ?_
  refine g_aload_n C dX11_init_81 (i := 0) rfl rfl ?_
  refine g_new C nc_10_51 (by omega) (by omega) dX11_init_82 (fun q8 => ?_)
  refine g_dup C dX11_init_85 rfl ?_
  refine g_initN C hG (X := (a, .inr (10, [.ref (w7.1 1), .ref (w7.1 8), .ref (w7.1 12), .ref (w7.1 14), .ref (w7.1 17), .ref (w7.1 22), .ref (w7.1 56), .null, .null, .null, .null, .null, .null, .null, .null])) :: mw J7 w7.1 w7.2 s0) (n_0) mn_0 (host := "StateJuggler") (by decide +kernel) rfl (Nat.le_of_ble_eq_true rfl) (Nat.le_of_ble_eq_true rfl) (by omega) (by omega) (Nat.le_of_ble_eq_true rfl) dX11_init_86 (fun u8 hu8 => ?_)
  subst hu8
  obtain ⟨w8, hw8⟩ : ∃ w : UU, w = gl J7 w7 u8 := ⟨_, rfl⟩
  obtain ⟨T8, hT8⟩ : ∃ T : List (ClassId × FieldType), T = T7 ++ tcl [61, 62, 63] u8 := ⟨_, rfl⟩
  have ht8 : tyIn J8 w8 T8 := by rw [hw8, hT8]; exact tyIn.glue ht7 (tyIn.tcl (by decide +kernel)) dj_8
  have hs8 : u8.1 60 = w8.1 60 := by rw [hw8]; exact (gl_r (u := w7) (v := u8) nj_60_7).symm
  rw [hs8]
  refine g_eq (ws1 := (a, .inr (10, [.ref (w8.1 1), .ref (w8.1 8), .ref (w8.1 12), .ref (w8.1 14), .ref (w8.1 17), .ref (w8.1 22), .ref (w8.1 56), .null, .null, .null, .null, .null, .null, .null, .null])) :: mw J8 w8.1 w8.2 s0) (ts1 := T8) (kc1 := 192) (ks1 := 7854) (by rw [show J8 = J7 ++ [60, 61, 62, 63] from rfl, hw8, ← glue cl_7 clp_8 dj_8, gl_l mj_1_7, gl_l mj_8_7, gl_l mj_12_7, gl_l mj_14_7, gl_l mj_17_7, gl_l mj_22_7, gl_l mj_56_7] <;> rfl) (by rw [hT8] <;> rfl) rfl rfl ?_
  refine g_put C hin (q0 := 0) fw_10_58 rfl rfl rfl (Nat.le_of_ble_eq_true rfl) dX11_init_89 (ws1 := (a, .inr (10, [.ref (w8.1 1), .ref (w8.1 8), .ref (w8.1 12), .ref (w8.1 14), .ref (w8.1 17), .ref (w8.1 22), .ref (w8.1 56), .ref (w8.1 60), .null, .null, .null, .null, .null, .null, .null])) :: mw J8 w8.1 w8.2 s0) rfl ?_
  refine g_aload_n C dX11_init_92 (i := 0) rfl rfl ?_
  refine g_iconst C dX11_init_93 (v := 3) rfl ?_
  refine g_newq C (Cn := RX0) 3 (gw2 41 (by decide +kernel) rfl) hG.ao (by decide) rfl (by decide) (by omega) (by omega) dX11_init_94 (fun qs cs => ?_)
  refine g_by (ws1 := (a, .inr (10, [.ref (w8.1 1), .ref (w8.1 8), .ref (w8.1 12), .ref (w8.1 14), .ref (w8.1 17), .ref (w8.1 22), .ref (w8.1 56), .ref (w8.1 60), .null, .null, .null, .null, .null, .null, .null])) :: (qs, .inl (cs, 3, .inr (.inr (.inr (.inr (fun _ => none)))))) :: mw J8 w8.1 w8.2 s0) (ts1 := (cs, .object RX0) :: T8) (fun D H h => va_P.swap (a := [(a, .inr (10, [.ref (w8.1 1), .ref (w8.1 8), .ref (w8.1 12), .ref (w8.1 14), .ref (w8.1 17), .ref (w8.1 22), .ref (w8.1 56), .ref (w8.1 60), .null, .null, .null, .null, .null, .null, .null]))]) (b := mw J8 w8.1 w8.2 s0) (c := [(qs, .inl (cs, 3, .inr (.inr (.inr (.inr (fun _ => none))))))]) h) (fun A h => va_D.swap (a := [(a, .inr (10, [.ref (w8.1 1), .ref (w8.1 8), .ref (w8.1 12), .ref (w8.1 14), .ref (w8.1 17), .ref (w8.1 22), .ref (w8.1 56), .ref (w8.1 60), .null, .null, .null, .null, .null, .null, .null]))]) (b := mw J8 w8.1 w8.2 s0) (c := [(qs, .inl (cs, 3, .inr (.inr (.inr (.inr (fun _ => none))))))]) h) (fun D s h => K_mem h (fun q hq => by
    rcases List.mem_cons.mp hq with rfl | hq
    · exact List.mem_append.mpr (Or.inr List.mem_cons_self)
    · exact List.mem_append.mpr (Or.inl hq))) ?_
  refine g_put C hin (q0 := 0) fw_10_61 rfl rfl rfl (Nat.le_of_ble_eq_true rfl) dX11_init_97 (ws1 := (a, .inr (10, [.ref (w8.1 1), .ref (w8.1 8), .ref (w8.1 12), .ref (w8.1 14), .ref (w8.1 17), .ref (w8.1 22), .ref (w8.1 56), .ref (w8.1 60), .ref qs, .null, .null, .null, .null, .null, .null])) :: (qs, .inl (cs, 3, .inr (.inr (.inr (.inr (fun _ => none)))))) :: mw J8 w8.1 w8.2 s0) rfl ?_
  refine g_aload_n C dX11_init_100 (i := 0) rfl rfl ?_
  refine g_iconst C dX11_init_101 (v := 3) rfl ?_
  refine g_newa C (atype := .boolean) (ty := .boolean) 3 (3, .inl (fun _ => 0)) aw_boolean rfl (fun _ => rfl) (by decide) rfl (by decide) (by omega) (by omega) dX11_init_102 (fun q9 c9 => ?_)
  obtain ⟨w9, hw9⟩ : ∃ w : UU, w = gl J8 w8 ((fun _ => q9, fun _ => c9) : UU) := ⟨_, rfl⟩
  obtain ⟨T9, hT9⟩ : ∃ T : List (ClassId × FieldType), T = T8 ++ [(c9, .boolean)] := ⟨_, rfl⟩
  have ht9 : tyIn J9 w9 T9 := by rw [hw9, hT9]; exact tyIn.glue ht8 (tyIn.one (by rw [kd_26]; rfl)) dj_9
  have hs9 : q9 = w9.1 26 := by rw [hw9]; exact (gl_r (u := w8) (v := ((fun _ => q9, fun _ => c9) : UU)) nj_26_8).symm
  rw [hs9]
  refine g_eq (ws1 := (a, .inr (10, [.ref (w9.1 1), .ref (w9.1 8), .ref (w9.1 12), .ref (w9.1 14), .ref (w9.1 17), .ref (w9.1 22), .ref (w9.1 56), .ref (w9.1 60), .ref qs, .null, .null, .null, .null, .null, .null])) :: (qs, .inl (cs, 3, .inr (.inr (.inr (.inr (fun _ => none)))))) :: mw J9 w9.1 w9.2 s0) (ts1 := (cs, .object RX0) :: T9) (kc1 := 194) (ks1 := 7860) (by rw [show J9 = J8 ++ [26] from rfl, hw9, ← glue cl_8 clp_9 dj_9, gl_l mj_1_8, gl_l mj_8_8, gl_l mj_12_8, gl_l mj_14_8, gl_l mj_17_8, gl_l mj_22_8, gl_l mj_56_8, gl_l mj_60_8, ← one_arr (q := q9) (c := c9) (by rw [kd_26]; decide) (by rw [kd_26]; decide) al_26 (by funext k; rfl)] <;> rfl) (by rw [hT9] <;> rfl) rfl rfl ?_
  refine g_put C hin (q0 := 0) fw_10_65 rfl rfl rfl (Nat.le_of_ble_eq_true rfl) dX11_init_104 (ws1 := (a, .inr (10, [.ref (w9.1 1), .ref (w9.1 8), .ref (w9.1 12), .ref (w9.1 14), .ref (w9.1 17), .ref (w9.1 22), .ref (w9.1 56), .ref (w9.1 60), .ref qs, .ref (w9.1 26), .null, .null, .null, .null, .null])) :: (qs, .inl (cs, 3, .inr (.inr (.inr (.inr (fun _ => none)))))) :: mw J9 w9.1 w9.2 s0) rfl ?_
  refine g_aload_n C dX11_init_107 (i := 0) rfl rfl ?_
  refine g_bipush C dX11_init_108 (v := 61) rfl ?_
  refine g_newa C (atype := .int) (ty := .int) 61 (61, .inl (fun _ => 0)) aw_int rfl (fun _ => rfl) (by decide) rfl (by decide) (by omega) (by omega) dX11_init_110 (fun q10 c10 => ?_)
  obtain ⟨w10, hw10⟩ : ∃ w : UU, w = gl J9 w9 ((fun _ => q10, fun _ => c10) : UU) := ⟨_, rfl⟩
  obtain ⟨T10, hT10⟩ : ∃ T : List (ClassId × FieldType), T = T9 ++ [(c10, .int)] := ⟨_, rfl⟩
  have ht10 : tyIn J10 w10 T10 := by rw [hw10, hT10]; exact tyIn.glue ht9 (tyIn.one (by rw [kd_27]; rfl)) dj_10
  have hs10 : q10 = w10.1 27 := by rw [hw10]; exact (gl_r (u := w9) (v := ((fun _ => q10, fun _ => c10) : UU)) nj_27_9).symm
  rw [hs10]
  refine g_eq (ws1 := (a, .inr (10, [.ref (w10.1 1), .ref (w10.1 8), .ref (w10.1 12), .ref (w10.1 14), .ref (w10.1 17), .ref (w10.1 22), .ref (w10.1 56), .ref (w10.1 60), .ref qs, .ref (w10.1 26), .null, .null, .null, .null, .null])) :: (qs, .inl (cs, 3, .inr (.inr (.inr (.inr (fun _ => none)))))) :: mw J10 w10.1 w10.2 s0) (ts1 := (cs, .object RX0) :: T10) (kc1 := 195) (ks1 := 7921) (by rw [show J10 = J9 ++ [27] from rfl, hw10, ← glue cl_9 clp_10 dj_10, gl_l mj_1_9, gl_l mj_8_9, gl_l mj_12_9, gl_l mj_14_9, gl_l mj_17_9, gl_l mj_22_9, gl_l mj_56_9, gl_l mj_60_9, gl_l mj_26_9, ← one_arr (q := q10) (c := c10) (by rw [kd_27]; decide) (by rw [kd_27]; decide) al_27 (by funext k; rfl)] <;> rfl) (by rw [hT10] <;> rfl) rfl rfl ?_
  refine g_put C hin (q0 := 0) fw_10_69 rfl rfl rfl (Nat.le_of_ble_eq_true rfl) dX11_init_112 (ws1 := (a, .inr (10, [.ref (w10.1 1), .ref (w10.1 8), .ref (w10.1 12), .ref (w10.1 14), .ref (w10.1 17), .ref (w10.1 22), .ref (w10.1 56), .ref (w10.1 60), .ref qs, .ref (w10.1 26), .ref (w10.1 27), .null, .null, .null, .null])) :: (qs, .inl (cs, 3, .inr (.inr (.inr (.inr (fun _ => none)))))) :: mw J10 w10.1 w10.2 s0) rfl ?_
  refine g_aload_n C dX11_init_115 (i := 0) rfl rfl ?_
  refine g_bipush C dX11_init_116 (v := 7) rfl ?_
  refine g_newa C (atype := .int) (ty := .int) 7 (7, .inl (fun _ => 0)) aw_int rfl (fun _ => rfl) (by decide) rfl (by decide) (by omega) (by omega) dX11_init_118 (fun q11 c11 => ?_)
  obtain ⟨w11, hw11⟩ : ∃ w : UU, w = gl J10 w10 ((fun _ => q11, fun _ => c11) : UU) := ⟨_, rfl⟩
  obtain ⟨T11, hT11⟩ : ∃ T : List (ClassId × FieldType), T = T10 ++ [(c11, .int)] := ⟨_, rfl⟩
  have ht11 : tyIn J11 w11 T11 := by rw [hw11, hT11]; exact tyIn.glue ht10 (tyIn.one (by rw [kd_28]; rfl)) dj_11
  have hs11 : q11 = w11.1 28 := by rw [hw11]; exact (gl_r (u := w10) (v := ((fun _ => q11, fun _ => c11) : UU)) nj_28_10).symm
  rw [hs11]
  refine g_eq (ws1 := (a, .inr (10, [.ref (w11.1 1), .ref (w11.1 8), .ref (w11.1 12), .ref (w11.1 14), .ref (w11.1 17), .ref (w11.1 22), .ref (w11.1 56), .ref (w11.1 60), .ref qs, .ref (w11.1 26), .ref (w11.1 27), .null, .null, .null, .null])) :: (qs, .inl (cs, 3, .inr (.inr (.inr (.inr (fun _ => none)))))) :: mw J11 w11.1 w11.2 s0) (ts1 := (cs, .object RX0) :: T11) (kc1 := 196) (ks1 := 7928) (by rw [show J11 = J10 ++ [28] from rfl, hw11, ← glue cl_10 clp_11 dj_11, gl_l mj_1_10, gl_l mj_8_10, gl_l mj_12_10, gl_l mj_14_10, gl_l mj_17_10, gl_l mj_22_10, gl_l mj_56_10, gl_l mj_60_10, gl_l mj_26_10, gl_l mj_27_10, ← one_arr (q := q11) (c := c11) (by rw [kd_28]; decide) (by rw [kd_28]; decide) al_28 (by funext k; rfl)] <;> rfl) (by rw [hT11] <;> rfl) rfl rfl ?_
  refine g_put C hin (q0 := 0) fw_10_73 rfl rfl rfl (Nat.le_of_ble_eq_true rfl) dX11_init_120 (ws1 := (a, .inr (10, [.ref (w11.1 1), .ref (w11.1 8), .ref (w11.1 12), .ref (w11.1 14), .ref (w11.1 17), .ref (w11.1 22), .ref (w11.1 56), .ref (w11.1 60), .ref qs, .ref (w11.1 26), .ref (w11.1 27), .ref (w11.1 28), .null, .null, .null])) :: (qs, .inl (cs, 3, .inr (.inr (.inr (.inr (fun _ => none)))))) :: mw J11 w11.1 w11.2 s0) rfl ?_
  refine g_aload_n C dX11_init_123 (i := 0) rfl rfl ?_
  refine g_bipush C dX11_init_124 (v := 16) rfl ?_
  refine g_newa C (atype := .int) (ty := .int) 16 (16, .inl (fun _ => 0)) aw_int rfl (fun _ => rfl) (by decide) rfl (by decide) (by omega) (by omega) dX11_init_126 (fun q12 c12 => ?_)
  obtain ⟨w12, hw12⟩ : ∃ w : UU, w = gl J11 w11 ((fun _ => q12, fun _ => c12) : UU) := ⟨_, rfl⟩
  obtain ⟨T12, hT12⟩ : ∃ T : List (ClassId × FieldType), T = T11 ++ [(c12, .int)] := ⟨_, rfl⟩
  have ht12 : tyIn J12 w12 T12 := by rw [hw12, hT12]; exact tyIn.glue ht11 (tyIn.one (by rw [kd_29]; rfl)) dj_12
  have hs12 : q12 = w12.1 29 := by rw [hw12]; exact (gl_r (u := w11) (v := ((fun _ => q12, fun _ => c12) : UU)) nj_29_11).symm
  rw [hs12]
  refine g_eq (ws1 := (a, .inr (10, [.ref (w12.1 1), .ref (w12.1 8), .ref (w12.1 12), .ref (w12.1 14), .ref (w12.1 17), .ref (w12.1 22), .ref (w12.1 56), .ref (w12.1 60), .ref qs, .ref (w12.1 26), .ref (w12.1 27), .ref (w12.1 28), .null, .null, .null])) :: (qs, .inl (cs, 3, .inr (.inr (.inr (.inr (fun _ => none)))))) :: mw J12 w12.1 w12.2 s0) (ts1 := (cs, .object RX0) :: T12) (kc1 := 197) (ks1 := 7944) (by rw [show J12 = J11 ++ [29] from rfl, hw12, ← glue cl_11 clp_12 dj_12, gl_l mj_1_11, gl_l mj_8_11, gl_l mj_12_11, gl_l mj_14_11, gl_l mj_17_11, gl_l mj_22_11, gl_l mj_56_11, gl_l mj_60_11, gl_l mj_26_11, gl_l mj_27_11, gl_l mj_28_11, ← one_arr (q := q12) (c := c12) (by rw [kd_29]; decide) (by rw [kd_29]; decide) al_29 (by funext k; rfl)] <;> rfl) (by rw [hT12] <;> rfl) rfl rfl ?_
  refine g_put C hin (q0 := 0) fw_10_76 rfl rfl rfl (Nat.le_of_ble_eq_true rfl) dX11_init_128 (ws1 := (a, .inr (10, [.ref (w12.1 1), .ref (w12.1 8), .ref (w12.1 12), .ref (w12.1 14), .ref (w12.1 17), .ref (w12.1 22), .ref (w12.1 56), .ref (w12.1 60), .ref qs, .ref (w12.1 26), .ref (w12.1 27), .ref (w12.1 28), .ref (w12.1 29), .null, .null])) :: (qs, .inl (cs, 3, .inr (.inr (.inr (.inr (fun _ => none)))))) :: mw J12 w12.1 w12.2 s0) rfl ?_
  refine g_aload_n C dX11_init_131 (i := 0) rfl rfl ?_
  refine g_new C nc_10_79 (by omega) (by omega) dX11_init_132 (fun q13 => ?_)
  refine g_dup C dX11_init_135 rfl ?_
  refine g_initI C hG (X := (a, .inr (10, [.ref (w12.1 1), .ref (w12.1 8), .ref (w12.1 12), .ref (w12.1 14), .ref (w12.1 17), .ref (w12.1 22), .ref (w12.1 56), .ref (w12.1 60), .ref qs, .ref (w12.1 26), .ref (w12.1 27), .ref (w12.1 28), .ref (w12.1 29), .null, .null])) :: (qs, .inl (cs, 3, .inr (.inr (.inr (.inr (fun _ => none)))))) :: mw J12 w12.1 w12.2 s0) (n_9) mn_9 (host := "") ml_RX11_81 rfl (Nat.le_of_ble_eq_true rfl) (Nat.le_of_ble_eq_true rfl) (by omega) (by omega) (Nat.le_of_ble_eq_true rfl) dX11_init_136 (fun u13 hu13 => ?_)
  subst hu13
  obtain ⟨w13, hw13⟩ : ∃ w : UU, w = gl J12 w12 u13 := ⟨_, rfl⟩
  obtain ⟨T13, hT13⟩ : ∃ T : List (ClassId × FieldType), T = T12 ++ tys [30, 31, 32, 33, 34, 35, 36, 37, 38, 39, 40, 41, 42] u13.2 := ⟨_, rfl⟩
  have ht13 : tyIn J13 w13 T13 := by rw [hw13, hT13]; exact tyIn.glue ht12 tyIn.tys dj_13
  have hs13 : u13.1 30 = w13.1 30 := by rw [hw13]; exact (gl_r (u := w12) (v := u13) nj_30_12).symm
  rw [hs13]
  refine g_eq (ws1 := (a, .inr (10, [.ref (w13.1 1), .ref (w13.1 8), .ref (w13.1 12), .ref (w13.1 14), .ref (w13.1 17), .ref (w13.1 22), .ref (w13.1 56), .ref (w13.1 60), .ref qs, .ref (w13.1 26), .ref (w13.1 27), .ref (w13.1 28), .ref (w13.1 29), .null, .null])) :: (qs, .inl (cs, 3, .inr (.inr (.inr (.inr (fun _ => none)))))) :: mw J13 w13.1 w13.2 s0) (ts1 := (cs, .object RX0) :: T13) (kc1 := 210) (ks1 := 8439) (by rw [show J13 = J12 ++ [30, 31, 32, 33, 34, 35, 36, 37, 38, 39, 40, 41, 42] from rfl, hw13, ← glue cl_12 clp_13 dj_13, gl_l mj_1_12, gl_l mj_8_12, gl_l mj_12_12, gl_l mj_14_12, gl_l mj_17_12, gl_l mj_22_12, gl_l mj_56_12, gl_l mj_60_12, gl_l mj_26_12, gl_l mj_27_12, gl_l mj_28_12, gl_l mj_29_12] <;> rfl) (by rw [hT13] <;> rfl) rfl rfl ?_
  refine g_put C hin (q0 := 0) fw_10_82 rfl rfl rfl (Nat.le_of_ble_eq_true rfl) dX11_init_139 (ws1 := (a, .inr (10, [.ref (w13.1 1), .ref (w13.1 8), .ref (w13.1 12), .ref (w13.1 14), .ref (w13.1 17), .ref (w13.1 22), .ref (w13.1 56), .ref (w13.1 60), .ref qs, .ref (w13.1 26), .ref (w13.1 27), .ref (w13.1 28), .ref (w13.1 29), .ref (w13.1 30), .null])) :: (qs, .inl (cs, 3, .inr (.inr (.inr (.inr (fun _ => none)))))) :: mw J13 w13.1 w13.2 s0) rfl ?_
  refine g_aload_n C dX11_init_142 (i := 0) rfl rfl ?_
  refine g_new C nc_10_79 (by omega) (by omega) dX11_init_143 (fun q14 => ?_)
  refine g_dup C dX11_init_146 rfl ?_
  refine g_initI C hG (X := (a, .inr (10, [.ref (w13.1 1), .ref (w13.1 8), .ref (w13.1 12), .ref (w13.1 14), .ref (w13.1 17), .ref (w13.1 22), .ref (w13.1 56), .ref (w13.1 60), .ref qs, .ref (w13.1 26), .ref (w13.1 27), .ref (w13.1 28), .ref (w13.1 29), .ref (w13.1 30), .null])) :: (qs, .inl (cs, 3, .inr (.inr (.inr (.inr (fun _ => none)))))) :: mw J13 w13.1 w13.2 s0) (n_9) mn_9 (host := "") ml_RX11_81 rfl (Nat.le_of_ble_eq_true rfl) (Nat.le_of_ble_eq_true rfl) (by omega) (by omega) (Nat.le_of_ble_eq_true rfl) dX11_init_147 (fun u14 hu14 => ?_)
  subst hu14
  obtain ⟨w14, hw14⟩ : ∃ w : UU, w = gl J13 w13 (shT u14) := ⟨_, rfl⟩
  obtain ⟨T14, hT14⟩ : ∃ T : List (ClassId × FieldType), T = T13 ++ tys [30, 31, 32, 33, 34, 35, 36, 37, 38, 39, 40, 41, 42] u14.2 := ⟨_, rfl⟩
  have ht14 : tyIn J14 w14 T14 := by rw [hw14, hT14]; exact tyIn.glue ht13 (text_shT tyIn.tys) dj_14
  have hs14 : u14.1 30 = w14.1 43 := by rw [hw14]; exact (gl_r (u := w13) (v := (shT u14)) nj_43_13).symm
  rw [hs14]
  refine g_eq (ws1 := (a, .inr (10, [.ref (w14.1 1), .ref (w14.1 8), .ref (w14.1 12), .ref (w14.1 14), .ref (w14.1 17), .ref (w14.1 22), .ref (w14.1 56), .ref (w14.1 60), .ref qs, .ref (w14.1 26), .ref (w14.1 27), .ref (w14.1 28), .ref (w14.1 29), .ref (w14.1 30), .null])) :: (qs, .inl (cs, 3, .inr (.inr (.inr (.inr (fun _ => none)))))) :: mw J14 w14.1 w14.2 s0) (ts1 := (cs, .object RX0) :: T14) (kc1 := 223) (ks1 := 8934) (by rw [show J14 = J13 ++ [43, 44, 45, 46, 47, 48, 49, 50, 51, 52, 53, 54, 55] from rfl, hw14, ← glue cl_13 clp_14 dj_14, gl_l mj_1_13, gl_l mj_8_13, gl_l mj_12_13, gl_l mj_14_13, gl_l mj_17_13, gl_l mj_22_13, gl_l mj_56_13, gl_l mj_60_13, gl_l mj_26_13, gl_l mj_27_13, gl_l mj_28_13, gl_l mj_29_13, gl_l mj_30_13, ← text_sh u14] <;> rfl) (by rw [hT14] <;> rfl) rfl rfl ?_
  refine g_put C hin (q0 := 0) fw_10_86 rfl rfl rfl (Nat.le_of_ble_eq_true rfl) dX11_init_150 (ws1 := (a, .inr (10, [.ref (w14.1 1), .ref (w14.1 8), .ref (w14.1 12), .ref (w14.1 14), .ref (w14.1 17), .ref (w14.1 22), .ref (w14.1 56), .ref (w14.1 60), .ref qs, .ref (w14.1 26), .ref (w14.1 27), .ref (w14.1 28), .ref (w14.1 29), .ref (w14.1 30), .ref (w14.1 43)])) :: (qs, .inl (cs, 3, .inr (.inr (.inr (.inr (fun _ => none)))))) :: mw J14 w14.1 w14.2 s0) rfl ?_
  refine g_iconst C dX11_init_153 (v := 0) rfl ?_
  refine g_istore_n C dX11_init_154 (i := 1) rfl (by decide) rfl (vs1 := [some (.ref a), some (.int 0)]) rfl ?_
  refine g_iload_n C dX11_init_155 (i := 1) rfl rfl ?_
  refine g_iconst C dX11_init_156 (v := 3) rfl ?_
  refine g_ic_ge C dX11_init_157 (tgt := 179) rfl (fun h => absurd h (by decide)) (fun _ => ?_)
  refine g_aload_n C dX11_init_160 (i := 0) rfl rfl ?_
  refine g_get C fl_RX11_61 (q0 := 0) rfl (v := .ref qs) rfl dX11_init_161 ?_
  refine g_iload_n C dX11_init_164 (i := 1) rfl rfl ?_
  refine g_new C nc_10_51 (by omega) (by omega) dX11_init_165 (fun q15 => ?_)
  refine g_dup C dX11_init_168 rfl ?_
  refine g_initN C hG (X := (a, .inr (10, [.ref (w14.1 1), .ref (w14.1 8), .ref (w14.1 12), .ref (w14.1 14), .ref (w14.1 17), .ref (w14.1 22), .ref (w14.1 56), .ref (w14.1 60), .ref qs, .ref (w14.1 26), .ref (w14.1 27), .ref (w14.1 28), .ref (w14.1 29), .ref (w14.1 30), .ref (w14.1 43)])) :: (qs, .inl (cs, 3, .inr (.inr (.inr (.inr (fun _ => none)))))) :: mw J14 w14.1 w14.2 s0) (n_0) mn_0 (host := "StateJuggler") (by decide +kernel) rfl (Nat.le_of_ble_eq_true rfl) (Nat.le_of_ble_eq_true rfl) (by omega) (by omega) (Nat.le_of_ble_eq_true rfl) dX11_init_169 (fun u15 hu15 => ?_)
  subst hu15
  obtain ⟨w15, hw15⟩ : ∃ w : UU, w = gl J14 w14 (shA 64 u15) := ⟨_, rfl⟩
  obtain ⟨T15, hT15⟩ : ∃ T : List (ClassId × FieldType), T = T14 ++ tcl [61, 62, 63] u15 := ⟨_, rfl⟩
  have ht15 : tyIn J15 w15 T15 := by rw [hw15, hT15]; exact tyIn.glue ht14 (air_shT (tyIn.tcl (by decide +kernel)) kd_64 kd_65 kd_66 kd_67) dj_15
  have hs15 : u15.1 60 = w15.1 64 := by rw [hw15]; exact (gl_r (u := w14) (v := (shA 64 u15)) nj_64_14).symm
  rw [hs15]
  refine g_eq (ws1 := (a, .inr (10, [.ref (w15.1 1), .ref (w15.1 8), .ref (w15.1 12), .ref (w15.1 14), .ref (w15.1 17), .ref (w15.1 22), .ref (w15.1 56), .ref (w15.1 60), .ref qs, .ref (w15.1 26), .ref (w15.1 27), .ref (w15.1 28), .ref (w15.1 29), .ref (w15.1 30), .ref (w15.1 43)])) :: (qs, .inl (cs, 3, .inr (.inr (.inr (.inr (fun _ => none)))))) :: mw J15 w15.1 w15.2 s0) (ts1 := (cs, .object RX0) :: T15) (kc1 := 227) (ks1 := 8967) (by rw [show J15 = J14 ++ [64, 65, 66, 67] from rfl, hw15, ← glue cl_14 clp_15 dj_15, gl_l mj_1_14, gl_l mj_8_14, gl_l mj_12_14, gl_l mj_14_14, gl_l mj_17_14, gl_l mj_22_14, gl_l mj_56_14, gl_l mj_60_14, gl_l mj_26_14, gl_l mj_27_14, gl_l mj_28_14, gl_l mj_29_14, gl_l mj_30_14, gl_l mj_43_14, ← air_sh u15 kd_64 ⟨kd_65, al_65⟩ ⟨kd_66, al_66⟩ ⟨kd_67, al_67⟩ (by decide) (by decide)] <;> rfl) (by rw [hT15] <;> rfl) rfl rfl ?_
  have hv15 := mw_ats (ad := w15.1) (ca := w15.2) (show J15[222]? = some 64 by decide +kernel) s0
  rw [kd_64, ceK_ob (by decide)] at hv15
  refine g_astq C (q0 := 1) (t0 := 0) (qk := 224) (ci := 0) (r := (RX0, TX0, 12)) 0 rfl rfl hv15 rfl (by decide) rfl (by decide) dX11_init_172 (ws1 := (a, .inr (10, [.ref (w15.1 1), .ref (w15.1 8), .ref (w15.1 12), .ref (w15.1 14), .ref (w15.1 17), .ref (w15.1 22), .ref (w15.1 56), .ref (w15.1 60), .ref qs, .ref (w15.1 26), .ref (w15.1 27), .ref (w15.1 28), .ref (w15.1 29), .ref (w15.1 30), .ref (w15.1 43)])) :: (qs, .inl (cs, 3, .inr (.inr (.inr (.inr (va_up (fun _ => none) 0 (some (w15.1 64)))))))) :: mw J15 w15.1 w15.2 s0) rfl ?_
  refine g_iinc C dX11_init_173 rfl (v := 1) rfl (by decide) rfl (vs1 := [some (.ref a), some (.int 1)]) rfl ?_
  refine g_goto C dX11_init_176 (tgt := 155) rfl ?_
  refine g_iload_n C dX11_init_155 (i := 1) rfl rfl ?_
  refine g_iconst C dX11_init_156 (v := 3) rfl ?_
  refine g_ic_ge C dX11_init_157 (tgt := 179) rfl (fun h => absurd h (by decide)) (fun _ => ?_)
  refine g_aload_n C dX11_init_160 (i := 0) rfl rfl ?_
  refine g_get C fl_RX11_61 (q0 := 0) rfl (v := .ref qs) rfl dX11_init_161 ?_
  refine g_iload_n C dX11_init_164 (i := 1) rfl rfl ?_
  refine g_new C nc_10_51 (by omega) (by omega) dX11_init_165 (fun q16 => ?_)
  refine g_dup C dX11_init_168 rfl ?_
  refine g_initN C hG (X := (a, .inr (10, [.ref (w15.1 1), .ref (w15.1 8), .ref (w15.1 12), .ref (w15.1 14), .ref (w15.1 17), .ref (w15.1 22), .ref (w15.1 56), .ref (w15.1 60), .ref qs, .ref (w15.1 26), .ref (w15.1 27), .ref (w15.1 28), .ref (w15.1 29), .ref (w15.1 30), .ref (w15.1 43)])) :: (qs, .inl (cs, 3, .inr (.inr (.inr (.inr (va_up (fun _ => none) 0 (some (w15.1 64)))))))) :: mw J15 w15.1 w15.2 s0) (n_0) mn_0 (host := "StateJuggler") (by decide +kernel) rfl (Nat.le_of_ble_eq_true rfl) (Nat.le_of_ble_eq_true rfl) (by omega) (by omega) (Nat.le_of_ble_eq_true rfl) dX11_init_169 (fun u16 hu16 => ?_)
  subst hu16
  obtain ⟨w16, hw16⟩ : ∃ w : UU, w = gl J15 w15 (shA 68 u16) := ⟨_, rfl⟩
  obtain ⟨T16, hT16⟩ : ∃ T : List (ClassId × FieldType), T = T15 ++ tcl [61, 62, 63] u16 := ⟨_, rfl⟩
  have ht16 : tyIn J16 w16 T16 := by rw [hw16, hT16]; exact tyIn.glue ht15 (air_shT (tyIn.tcl (by decide +kernel)) kd_68 kd_69 kd_70 kd_71) dj_16
  have hs16 : u16.1 60 = w16.1 68 := by rw [hw16]; exact (gl_r (u := w15) (v := (shA 68 u16)) nj_68_15).symm
  rw [hs16]
  refine g_eq (ws1 := (a, .inr (10, [.ref (w16.1 1), .ref (w16.1 8), .ref (w16.1 12), .ref (w16.1 14), .ref (w16.1 17), .ref (w16.1 22), .ref (w16.1 56), .ref (w16.1 60), .ref qs, .ref (w16.1 26), .ref (w16.1 27), .ref (w16.1 28), .ref (w16.1 29), .ref (w16.1 30), .ref (w16.1 43)])) :: (qs, .inl (cs, 3, .inr (.inr (.inr (.inr (va_up (fun _ => none) 0 (some (w16.1 64)))))))) :: mw J16 w16.1 w16.2 s0) (ts1 := (cs, .object RX0) :: T16) (kc1 := 231) (ks1 := 9000) (by rw [show J16 = J15 ++ [68, 69, 70, 71] from rfl, hw16, ← glue cl_15 clp_16 dj_16, gl_l mj_1_15, gl_l mj_8_15, gl_l mj_12_15, gl_l mj_14_15, gl_l mj_17_15, gl_l mj_22_15, gl_l mj_56_15, gl_l mj_60_15, gl_l mj_26_15, gl_l mj_27_15, gl_l mj_28_15, gl_l mj_29_15, gl_l mj_30_15, gl_l mj_43_15, gl_l mj_64_15, ← air_sh u16 kd_68 ⟨kd_69, al_69⟩ ⟨kd_70, al_70⟩ ⟨kd_71, al_71⟩ (by decide) (by decide)] <;> rfl) (by rw [hT16] <;> rfl) rfl rfl ?_
  have hv16 := mw_ats (ad := w16.1) (ca := w16.2) (show J16[226]? = some 68 by decide +kernel) s0
  rw [kd_68, ceK_ob (by decide)] at hv16
  refine g_astq C (q0 := 1) (t0 := 0) (qk := 228) (ci := 0) (r := (RX0, TX0, 12)) 1 rfl rfl hv16 rfl (by decide) rfl (by decide) dX11_init_172 (ws1 := (a, .inr (10, [.ref (w16.1 1), .ref (w16.1 8), .ref (w16.1 12), .ref (w16.1 14), .ref (w16.1 17), .ref (w16.1 22), .ref (w16.1 56), .ref (w16.1 60), .ref qs, .ref (w16.1 26), .ref (w16.1 27), .ref (w16.1 28), .ref (w16.1 29), .ref (w16.1 30), .ref (w16.1 43)])) :: (qs, .inl (cs, 3, .inr (.inr (.inr (.inr (va_up (va_up (fun _ => none) 0 (some (w16.1 64))) 1 (some (w16.1 68)))))))) :: mw J16 w16.1 w16.2 s0) rfl ?_
  refine g_iinc C dX11_init_173 rfl (v := 2) rfl (by decide) rfl (vs1 := [some (.ref a), some (.int 2)]) rfl ?_
  refine g_goto C dX11_init_176 (tgt := 155) rfl ?_
  refine g_iload_n C dX11_init_155 (i := 1) rfl rfl ?_
  refine g_iconst C dX11_init_156 (v := 3) rfl ?_
  refine g_ic_ge C dX11_init_157 (tgt := 179) rfl (fun h => absurd h (by decide)) (fun _ => ?_)
  refine g_aload_n C dX11_init_160 (i := 0) rfl rfl ?_
  refine g_get C fl_RX11_61 (q0 := 0) rfl (v := .ref qs) rfl dX11_init_161 ?_
  refine g_iload_n C dX11_init_164 (i := 1) rfl rfl ?_
  refine g_new C nc_10_51 (by omega) (by omega) dX11_init_165 (fun q17 => ?_)
  refine g_dup C dX11_init_168 rfl ?_
  refine g_initN C hG (X := (a, .inr (10, [.ref (w16.1 1), .ref (w16.1 8), .ref (w16.1 12), .ref (w16.1 14), .ref (w16.1 17), .ref (w16.1 22), .ref (w16.1 56), .ref (w16.1 60), .ref qs, .ref (w16.1 26), .ref (w16.1 27), .ref (w16.1 28), .ref (w16.1 29), .ref (w16.1 30), .ref (w16.1 43)])) :: (qs, .inl (cs, 3, .inr (.inr (.inr (.inr (va_up (va_up (fun _ => none) 0 (some (w16.1 64))) 1 (some (w16.1 68)))))))) :: mw J16 w16.1 w16.2 s0) (n_0) mn_0 (host := "StateJuggler") (by decide +kernel) rfl (Nat.le_of_ble_eq_true rfl) (Nat.le_of_ble_eq_true rfl) (by omega) (by omega) (Nat.le_of_ble_eq_true rfl) dX11_init_169 (fun u17 hu17 => ?_)
  subst hu17
  obtain ⟨w17, hw17⟩ : ∃ w : UU, w = gl J16 w16 (shA 72 u17) := ⟨_, rfl⟩
  obtain ⟨T17, hT17⟩ : ∃ T : List (ClassId × FieldType), T = T16 ++ tcl [61, 62, 63] u17 := ⟨_, rfl⟩
  have ht17 : tyIn J17 w17 T17 := by rw [hw17, hT17]; exact tyIn.glue ht16 (air_shT (tyIn.tcl (by decide +kernel)) kd_72 kd_73 kd_74 kd_75) dj_17
  have hs17 : u17.1 60 = w17.1 72 := by rw [hw17]; exact (gl_r (u := w16) (v := (shA 72 u17)) nj_72_16).symm
  rw [hs17]
  refine g_eq (ws1 := (a, .inr (10, [.ref (w17.1 1), .ref (w17.1 8), .ref (w17.1 12), .ref (w17.1 14), .ref (w17.1 17), .ref (w17.1 22), .ref (w17.1 56), .ref (w17.1 60), .ref qs, .ref (w17.1 26), .ref (w17.1 27), .ref (w17.1 28), .ref (w17.1 29), .ref (w17.1 30), .ref (w17.1 43)])) :: (qs, .inl (cs, 3, .inr (.inr (.inr (.inr (va_up (va_up (fun _ => none) 0 (some (w17.1 64))) 1 (some (w17.1 68)))))))) :: mw J17 w17.1 w17.2 s0) (ts1 := (cs, .object RX0) :: T17) (kc1 := 235) (ks1 := 9033) (by rw [show J17 = J16 ++ [72, 73, 74, 75] from rfl, hw17, ← glue cl_16 clp_17 dj_17, gl_l mj_1_16, gl_l mj_8_16, gl_l mj_12_16, gl_l mj_14_16, gl_l mj_17_16, gl_l mj_22_16, gl_l mj_56_16, gl_l mj_60_16, gl_l mj_26_16, gl_l mj_27_16, gl_l mj_28_16, gl_l mj_29_16, gl_l mj_30_16, gl_l mj_43_16, gl_l mj_64_16, gl_l mj_68_16, ← air_sh u17 kd_72 ⟨kd_73, al_73⟩ ⟨kd_74, al_74⟩ ⟨kd_75, al_75⟩ (by decide) (by decide)] <;> rfl) (by rw [hT17] <;> rfl) rfl rfl ?_
  have hv17 := mw_ats (ad := w17.1) (ca := w17.2) (show J17[230]? = some 72 by decide +kernel) s0
  rw [kd_72, ceK_ob (by decide)] at hv17
  refine g_astq C (q0 := 1) (t0 := 0) (qk := 232) (ci := 0) (r := (RX0, TX0, 12)) 2 rfl rfl hv17 rfl (by decide) rfl (by decide) dX11_init_172 (ws1 := (a, .inr (10, [.ref (w17.1 1), .ref (w17.1 8), .ref (w17.1 12), .ref (w17.1 14), .ref (w17.1 17), .ref (w17.1 22), .ref (w17.1 56), .ref (w17.1 60), .ref qs, .ref (w17.1 26), .ref (w17.1 27), .ref (w17.1 28), .ref (w17.1 29), .ref (w17.1 30), .ref (w17.1 43)])) :: (qs, .inl (cs, 3, .inr (.inr (.inr (.inr (va_up (va_up (va_up (fun _ => none) 0 (some (w17.1 64))) 1 (some (w17.1 68))) 2 (some (w17.1 72)))))))) :: mw J17 w17.1 w17.2 s0) rfl ?_
  refine g_iinc C dX11_init_173 rfl (v := 3) rfl (by decide) rfl (vs1 := [some (.ref a), some (.int 3)]) rfl ?_
  refine g_goto C dX11_init_176 (tgt := 155) rfl ?_
  refine g_iload_n C dX11_init_155 (i := 1) rfl rfl ?_
  refine g_iconst C dX11_init_156 (v := 3) rfl ?_
  refine g_ic_ge C dX11_init_157 (tgt := 179) rfl (fun _ => ?_) (fun h => absurd (by decide) h)
  refine g_by (ws1 := mw idJ (fun i => if i = 0 then a else if i = 25 then qs else w17.1 i) (fun i => if i = 25 then cs else w17.2 i) s0) (ts1 := tys idJ (fun i => if i = 25 then cs else w17.2 i)) (fun D H h => by rw [← sj_end]; exact h) (fun A h => by rw [← sj_end]; exact h) (fun D s h => K_mem h (fun q hq => ?_)) ?_
  · obtain ⟨i, hi, rfl⟩ := List.mem_map.mp hq
    obtain ⟨hi, hk⟩ := List.mem_filter.mp hi
    have hk : 12 ≤ kd i := by simpa using hk
    rcases List.mem_cons.mp hi with rfl | hi
    · exact absurd hk (by decide)
    rcases List.mem_cons.mp hi with rfl | hi
    · exact List.mem_cons_self
    · have n1 : ¬ i = 25 := fun e => J17_no.2 (e ▸ hi)
      have e9 : (if i = 25 then cs else w17.2 i) = w17.2 i := if_neg n1
      show ((if i = 25 then cs else w17.2 i), _) ∈ _
      rw [e9]
      exact List.mem_cons_of_mem _ (ht17 i hi hk)
  · exact g_vret Rt ((fun i => if i = 0 then a else if i = 25 then qs else w17.1 i), (fun i => if i = 25 then cs else w17.2 i)) dX11_init_179 (by decide) (by decide) rfl rfl rfl

