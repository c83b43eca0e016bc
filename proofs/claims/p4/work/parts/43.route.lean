/-! Route: what is met can be come back from -/
def RCH (σ : HS) (s : Nat) : Prop := (σ.1 19 s).toInt ≠ -1
/-- more may have been met, the size is as it was -/
def RM (σ σ1 : HS) : Prop := (∀ s, RCH σ s → RCH σ1 s) ∧ (σ.1 17 1).toInt ≤ (σ1.1 17 1).toInt ∧ (σ1.1 17 5).toInt = (σ.1 17 5).toInt
theorem RM.rf {σ : HS} : RM σ σ := ⟨fun _ h => h, Int.le_refl _, rfl⟩
theorem RM.tr {σ σ1 σ2 : HS} (h : RM σ σ1) (h2 : RM σ1 σ2) : RM σ σ2 := ⟨fun s hs => h2.1 s (h.1 s hs), Int.le_trans h.2.1 h2.2.1, h2.2.2.trans h.2.2⟩
theorem dX7_find_0 : decode cX7_find 0 = .ok (.iload_n 1, 1) := by decide +kernel
theorem dX7_find_1 : decode cX7_find 1 = .ok (.ifCond .lt 21, 3) := by decide +kernel
theorem dX7_find_4 : decode cX7_find 4 = .ok (.iload_n 1, 1) := by decide +kernel
theorem dX7_find_5 : decode cX7_find 5 = .ok (.sipush 1024, 3) := by decide +kernel
theorem dX7_find_8 : decode cX7_find 8 = .ok (.if_icmp .ge 14, 3) := by decide +kernel
theorem dX7_find_11 : decode cX7_find 11 = .ok (.iload_n 2, 1) := by decide +kernel
theorem dX7_find_12 : decode cX7_find 12 = .ok (.ifCond .lt 10, 3) := by decide +kernel
theorem dX7_find_15 : decode cX7_find 15 = .ok (.iload_n 2, 1) := by decide +kernel
theorem dX7_find_16 : decode cX7_find 16 = .ok (.sipush 1024, 3) := by decide +kernel
theorem dX7_find_19 : decode cX7_find 19 = .ok (.if_icmp .lt 5, 3) := by decide +kernel
theorem dX7_find_22 : decode cX7_find 22 = .ok (.iconst 0, 1) := by decide +kernel
theorem dX7_find_23 : decode cX7_find 23 = .ok (.ireturn, 1) := by decide +kernel
theorem dX7_find_24 : decode cX7_find 24 = .ok (.aload_n 0, 1) := by decide +kernel
theorem dX7_find_25 : decode cX7_find 25 = .ok (.getfield 15, 3) := by decide +kernel
theorem dX7_find_28 : decode cX7_find 28 = .ok (.iconst (-1), 1) := by decide +kernel
theorem dX7_find_29 : decode cX7_find 29 = .ok (.invokestatic 24, 3) := by decide +kernel
theorem dX7_find_32 : decode cX7_find 32 = .ok (.aload_n 0, 1) := by decide +kernel
theorem dX7_find_33 : decode cX7_find 33 = .ok (.iconst 0, 1) := by decide +kernel
theorem dX7_find_34 : decode cX7_find 34 = .ok (.putfield 30, 3) := by decide +kernel
theorem dX7_find_37 : decode cX7_find 37 = .ok (.aload_n 0, 1) := by decide +kernel
theorem dX7_find_38 : decode cX7_find 38 = .ok (.iload_n 1, 1) := by decide +kernel
theorem dX7_find_39 : decode cX7_find 39 = .ok (.iload_n 1, 1) := by decide +kernel
theorem dX7_find_40 : decode cX7_find 40 = .ok (.iconst 0, 1) := by decide +kernel
theorem dX7_find_41 : decode cX7_find 41 = .ok (.invokevirtual 34, 3) := by decide +kernel
theorem dX7_find_44 : decode cX7_find 44 = .ok (.iconst 0, 1) := by decide +kernel
theorem dX7_find_45 : decode cX7_find 45 = .ok (.istore_n 3, 1) := by decide +kernel
theorem dX7_find_46 : decode cX7_find 46 = .ok (.aload_n 0, 1) := by decide +kernel
theorem dX7_find_47 : decode cX7_find 47 = .ok (.iconst 0, 1) := by decide +kernel
theorem dX7_find_48 : decode cX7_find 48 = .ok (.putfield 38, 3) := by decide +kernel
theorem dX7_find_51 : decode cX7_find 51 = .ok (.aload_n 0, 1) := by decide +kernel
theorem dX7_find_52 : decode cX7_find 52 = .ok (.getfield 38, 3) := by decide +kernel
theorem dX7_find_55 : decode cX7_find 55 = .ok (.bipush 12, 2) := by decide +kernel
theorem dX7_find_57 : decode cX7_find 57 = .ok (.if_icmp .ge 54, 3) := by decide +kernel
theorem dX7_find_60 : decode cX7_find 60 = .ok (.aload_n 0, 1) := by decide +kernel
theorem dX7_find_61 : decode cX7_find 61 = .ok (.getfield 15, 3) := by decide +kernel
theorem dX7_find_64 : decode cX7_find 64 = .ok (.iload_n 2, 1) := by decide +kernel
theorem dX7_find_65 : decode cX7_find 65 = .ok (.iaload, 1) := by decide +kernel
theorem dX7_find_66 : decode cX7_find 66 = .ok (.iconst (-1), 1) := by decide +kernel
theorem dX7_find_67 : decode cX7_find 67 = .ok (.if_icmp .ne 44, 3) := by decide +kernel
theorem dX7_find_70 : decode cX7_find 70 = .ok (.aload_n 0, 1) := by decide +kernel
theorem dX7_find_71 : decode cX7_find 71 = .ok (.getfield 30, 3) := by decide +kernel
theorem dX7_find_74 : decode cX7_find 74 = .ok (.istore 4, 2) := by decide +kernel
theorem dX7_find_76 : decode cX7_find 76 = .ok (.iload_n 3, 1) := by decide +kernel
theorem dX7_find_77 : decode cX7_find 77 = .ok (.iload 4, 2) := by decide +kernel
theorem dX7_find_79 : decode cX7_find 79 = .ok (.if_icmp .ge 19, 3) := by decide +kernel
theorem dX7_find_82 : decode cX7_find 82 = .ok (.aload_n 0, 1) := by decide +kernel
theorem dX7_find_83 : decode cX7_find 83 = .ok (.aload_n 0, 1) := by decide +kernel
theorem dX7_find_84 : decode cX7_find 84 = .ok (.getfield 11, 3) := by decide +kernel
theorem dX7_find_87 : decode cX7_find 87 = .ok (.iload_n 3, 1) := by decide +kernel
theorem dX7_find_88 : decode cX7_find 88 = .ok (.iaload, 1) := by decide +kernel
theorem dX7_find_89 : decode cX7_find 89 = .ok (.invokevirtual 41, 3) := by decide +kernel
theorem dX7_find_92 : decode cX7_find 92 = .ok (.iinc 3 1, 3) := by decide +kernel
theorem dX7_find_95 : decode cX7_find 95 = .ok (.goto (-19), 3) := by decide +kernel
theorem dX7_find_98 : decode cX7_find 98 = .ok (.aload_n 0, 1) := by decide +kernel
theorem dX7_find_99 : decode cX7_find 99 = .ok (.dup, 1) := by decide +kernel
theorem dX7_find_100 : decode cX7_find 100 = .ok (.getfield 38, 3) := by decide +kernel
theorem dX7_find_103 : decode cX7_find 103 = .ok (.iconst 1, 1) := by decide +kernel
theorem dX7_find_104 : decode cX7_find 104 = .ok (.iadd, 1) := by decide +kernel
theorem dX7_find_105 : decode cX7_find 105 = .ok (.putfield 38, 3) := by decide +kernel
theorem dX7_find_108 : decode cX7_find 108 = .ok (.goto (-57), 3) := by decide +kernel
theorem dX7_find_111 : decode cX7_find 111 = .ok (.aload_n 0, 1) := by decide +kernel
theorem dX7_find_112 : decode cX7_find 112 = .ok (.getfield 15, 3) := by decide +kernel
theorem dX7_find_115 : decode cX7_find 115 = .ok (.iload_n 2, 1) := by decide +kernel
theorem dX7_find_116 : decode cX7_find 116 = .ok (.iaload, 1) := by decide +kernel
theorem dX7_find_117 : decode cX7_find 117 = .ok (.iconst (-1), 1) := by decide +kernel
theorem dX7_find_118 : decode cX7_find 118 = .ok (.if_icmp .ne 5, 3) := by decide +kernel
theorem dX7_find_121 : decode cX7_find 121 = .ok (.iconst 0, 1) := by decide +kernel
theorem dX7_find_122 : decode cX7_find 122 = .ok (.ireturn, 1) := by decide +kernel
theorem dX7_find_123 : decode cX7_find 123 = .ok (.iload_n 2, 1) := by decide +kernel
theorem dX7_find_124 : decode cX7_find 124 = .ok (.istore 4, 2) := by decide +kernel
theorem dX7_find_126 : decode cX7_find 126 = .ok (.aload_n 0, 1) := by decide +kernel
theorem dX7_find_127 : decode cX7_find 127 = .ok (.getfield 38, 3) := by decide +kernel
theorem dX7_find_130 : decode cX7_find 130 = .ok (.iconst 1, 1) := by decide +kernel
theorem dX7_find_131 : decode cX7_find 131 = .ok (.isub, 1) := by decide +kernel
theorem dX7_find_132 : decode cX7_find 132 = .ok (.istore 5, 2) := by decide +kernel
theorem dX7_find_134 : decode cX7_find 134 = .ok (.iload 5, 2) := by decide +kernel
theorem dX7_find_136 : decode cX7_find 136 = .ok (.ifCond .lt 32, 3) := by decide +kernel
theorem dX7_find_139 : decode cX7_find 139 = .ok (.aload_n 0, 1) := by decide +kernel
theorem dX7_find_140 : decode cX7_find 140 = .ok (.getfield 21, 3) := by decide +kernel
theorem dX7_find_143 : decode cX7_find 143 = .ok (.iload 5, 2) := by decide +kernel
theorem dX7_find_145 : decode cX7_find 145 = .ok (.aload_n 0, 1) := by decide +kernel
theorem dX7_find_146 : decode cX7_find 146 = .ok (.getfield 18, 3) := by decide +kernel
theorem dX7_find_149 : decode cX7_find 149 = .ok (.iload 4, 2) := by decide +kernel
theorem dX7_find_151 : decode cX7_find 151 = .ok (.iaload, 1) := by decide +kernel
theorem dX7_find_152 : decode cX7_find 152 = .ok (.iastore, 1) := by decide +kernel
theorem dX7_find_153 : decode cX7_find 153 = .ok (.aload_n 0, 1) := by decide +kernel
theorem dX7_find_154 : decode cX7_find 154 = .ok (.getfield 15, 3) := by decide +kernel
theorem dX7_find_157 : decode cX7_find 157 = .ok (.iload 4, 2) := by decide +kernel
theorem dX7_find_159 : decode cX7_find 159 = .ok (.iaload, 1) := by decide +kernel
theorem dX7_find_160 : decode cX7_find 160 = .ok (.istore 4, 2) := by decide +kernel
theorem dX7_find_162 : decode cX7_find 162 = .ok (.iinc 5 (-1), 3) := by decide +kernel
theorem dX7_find_165 : decode cX7_find 165 = .ok (.goto (-31), 3) := by decide +kernel
theorem dX7_find_168 : decode cX7_find 168 = .ok (.iconst 1, 1) := by decide +kernel
theorem dX7_find_169 : decode cX7_find 169 = .ok (.ireturn, 1) := by decide +kernel
theorem dX7_goOnFrom_0 : decode cX7_goOnFrom 0 = .ok (.iload_n 1, 1) := by decide +kernel
theorem dX7_goOnFrom_1 : decode cX7_goOnFrom 1 = .ok (.iconst 1, 1) := by decide +kernel
theorem dX7_goOnFrom_2 : decode cX7_goOnFrom 2 = .ok (.ishr, 1) := by decide +kernel
theorem dX7_goOnFrom_3 : decode cX7_goOnFrom 3 = .ok (.istore_n 2, 1) := by decide +kernel
theorem dX7_goOnFrom_4 : decode cX7_goOnFrom 4 = .ok (.iload_n 1, 1) := by decide +kernel
theorem dX7_goOnFrom_5 : decode cX7_goOnFrom 5 = .ok (.iconst 1, 1) := by decide +kernel
theorem dX7_goOnFrom_6 : decode cX7_goOnFrom 6 = .ok (.iand, 1) := by decide +kernel
theorem dX7_goOnFrom_7 : decode cX7_goOnFrom 7 = .ok (.ifCond .ne 11, 3) := by decide +kernel
theorem dX7_goOnFrom_10 : decode cX7_goOnFrom 10 = .ok (.aload_n 0, 1) := by decide +kernel
theorem dX7_goOnFrom_11 : decode cX7_goOnFrom 11 = .ok (.iload_n 2, 1) := by decide +kernel
theorem dX7_goOnFrom_12 : decode cX7_goOnFrom 12 = .ok (.iload_n 1, 1) := by decide +kernel
theorem dX7_goOnFrom_13 : decode cX7_goOnFrom 13 = .ok (.iconst 0, 1) := by decide +kernel
theorem dX7_goOnFrom_14 : decode cX7_goOnFrom 14 = .ok (.invokevirtual 34, 3) := by decide +kernel
theorem dX7_goOnFrom_17 : decode cX7_goOnFrom 17 = .ok (.return_, 1) := by decide +kernel
theorem dX7_goOnFrom_18 : decode cX7_goOnFrom 18 = .ok (.iconst 1, 1) := by decide +kernel
theorem dX7_goOnFrom_19 : decode cX7_goOnFrom 19 = .ok (.istore_n 3, 1) := by decide +kernel
theorem dX7_goOnFrom_20 : decode cX7_goOnFrom 20 = .ok (.iload_n 3, 1) := by decide +kernel
theorem dX7_goOnFrom_21 : decode cX7_goOnFrom 21 = .ok (.bipush 9, 2) := by decide +kernel
theorem dX7_goOnFrom_23 : decode cX7_goOnFrom 23 = .ok (.if_icmp .gt 33, 3) := by decide +kernel
theorem dX7_goOnFrom_26 : decode cX7_goOnFrom 26 = .ok (.iconst 1, 1) := by decide +kernel
theorem dX7_goOnFrom_27 : decode cX7_goOnFrom 27 = .ok (.iload_n 3, 1) := by decide +kernel
theorem dX7_goOnFrom_28 : decode cX7_goOnFrom 28 = .ok (.iconst 1, 1) := by decide +kernel
theorem dX7_goOnFrom_29 : decode cX7_goOnFrom 29 = .ok (.isub, 1) := by decide +kernel
theorem dX7_goOnFrom_30 : decode cX7_goOnFrom 30 = .ok (.ishl, 1) := by decide +kernel
theorem dX7_goOnFrom_31 : decode cX7_goOnFrom 31 = .ok (.istore 4, 2) := by decide +kernel
theorem dX7_goOnFrom_33 : decode cX7_goOnFrom 33 = .ok (.iload_n 2, 1) := by decide +kernel
theorem dX7_goOnFrom_34 : decode cX7_goOnFrom 34 = .ok (.iload 4, 2) := by decide +kernel
theorem dX7_goOnFrom_36 : decode cX7_goOnFrom 36 = .ok (.iand, 1) := by decide +kernel
theorem dX7_goOnFrom_37 : decode cX7_goOnFrom 37 = .ok (.ifCond .ne 13, 3) := by decide +kernel
theorem dX7_goOnFrom_40 : decode cX7_goOnFrom 40 = .ok (.aload_n 0, 1) := by decide +kernel
theorem dX7_goOnFrom_41 : decode cX7_goOnFrom 41 = .ok (.iload_n 2, 1) := by decide +kernel
theorem dX7_goOnFrom_42 : decode cX7_goOnFrom 42 = .ok (.iload 4, 2) := by decide +kernel
theorem dX7_goOnFrom_44 : decode cX7_goOnFrom 44 = .ok (.ior, 1) := by decide +kernel
theorem dX7_goOnFrom_45 : decode cX7_goOnFrom 45 = .ok (.iload_n 1, 1) := by decide +kernel
theorem dX7_goOnFrom_46 : decode cX7_goOnFrom 46 = .ok (.iload_n 3, 1) := by decide +kernel
theorem dX7_goOnFrom_47 : decode cX7_goOnFrom 47 = .ok (.invokevirtual 34, 3) := by decide +kernel
theorem dX7_goOnFrom_50 : decode cX7_goOnFrom 50 = .ok (.iinc 3 1, 3) := by decide +kernel
theorem dX7_goOnFrom_53 : decode cX7_goOnFrom 53 = .ok (.goto (-33), 3) := by decide +kernel
theorem dX7_goOnFrom_56 : decode cX7_goOnFrom 56 = .ok (.return_, 1) := by decide +kernel
theorem dX7_meet_0 : decode cX7_meet 0 = .ok (.aload_n 0, 1) := by decide +kernel
theorem dX7_meet_1 : decode cX7_meet 1 = .ok (.getfield 15, 3) := by decide +kernel
theorem dX7_meet_4 : decode cX7_meet 4 = .ok (.iload_n 1, 1) := by decide +kernel
theorem dX7_meet_5 : decode cX7_meet 5 = .ok (.iaload, 1) := by decide +kernel
theorem dX7_meet_6 : decode cX7_meet 6 = .ok (.iconst (-1), 1) := by decide +kernel
theorem dX7_meet_7 : decode cX7_meet 7 = .ok (.if_icmp .ne 47, 3) := by decide +kernel
theorem dX7_meet_10 : decode cX7_meet 10 = .ok (.aload_n 0, 1) := by decide +kernel
theorem dX7_meet_11 : decode cX7_meet 11 = .ok (.getfield 30, 3) := by decide +kernel
theorem dX7_meet_14 : decode cX7_meet 14 = .ok (.sipush 1024, 3) := by decide +kernel
theorem dX7_meet_17 : decode cX7_meet 17 = .ok (.if_icmp .ge 37, 3) := by decide +kernel
theorem dX7_meet_20 : decode cX7_meet 20 = .ok (.aload_n 0, 1) := by decide +kernel
theorem dX7_meet_21 : decode cX7_meet 21 = .ok (.getfield 15, 3) := by decide +kernel
theorem dX7_meet_24 : decode cX7_meet 24 = .ok (.iload_n 1, 1) := by decide +kernel
theorem dX7_meet_25 : decode cX7_meet 25 = .ok (.iload_n 2, 1) := by decide +kernel
theorem dX7_meet_26 : decode cX7_meet 26 = .ok (.iastore, 1) := by decide +kernel
theorem dX7_meet_27 : decode cX7_meet 27 = .ok (.aload_n 0, 1) := by decide +kernel
theorem dX7_meet_28 : decode cX7_meet 28 = .ok (.getfield 18, 3) := by decide +kernel
theorem dX7_meet_31 : decode cX7_meet 31 = .ok (.iload_n 1, 1) := by decide +kernel
theorem dX7_meet_32 : decode cX7_meet 32 = .ok (.iload_n 3, 1) := by decide +kernel
theorem dX7_meet_33 : decode cX7_meet 33 = .ok (.iastore, 1) := by decide +kernel
theorem dX7_meet_34 : decode cX7_meet 34 = .ok (.aload_n 0, 1) := by decide +kernel
theorem dX7_meet_35 : decode cX7_meet 35 = .ok (.getfield 11, 3) := by decide +kernel
theorem dX7_meet_38 : decode cX7_meet 38 = .ok (.aload_n 0, 1) := by decide +kernel
theorem dX7_meet_39 : decode cX7_meet 39 = .ok (.getfield 30, 3) := by decide +kernel
theorem dX7_meet_42 : decode cX7_meet 42 = .ok (.iload_n 1, 1) := by decide +kernel
theorem dX7_meet_43 : decode cX7_meet 43 = .ok (.iastore, 1) := by decide +kernel
theorem dX7_meet_44 : decode cX7_meet 44 = .ok (.aload_n 0, 1) := by decide +kernel
theorem dX7_meet_45 : decode cX7_meet 45 = .ok (.dup, 1) := by decide +kernel
theorem dX7_meet_46 : decode cX7_meet 46 = .ok (.getfield 30, 3) := by decide +kernel
theorem dX7_meet_49 : decode cX7_meet 49 = .ok (.iconst 1, 1) := by decide +kernel
theorem dX7_meet_50 : decode cX7_meet 50 = .ok (.iadd, 1) := by decide +kernel
theorem dX7_meet_51 : decode cX7_meet 51 = .ok (.putfield 30, 3) := by decide +kernel
theorem dX7_meet_54 : decode cX7_meet 54 = .ok (.return_, 1) := by decide +kernel
