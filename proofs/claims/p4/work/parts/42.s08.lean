theorem dX6_condition_0 : decode cX6_condition 0 = .ok (.aload_n 0, 1) := by decide +kernel
theorem dX6_condition_1 : decode cX6_condition 1 = .ok (.bipush 8, 2) := by decide +kernel
theorem dX6_condition_3 : decode cX6_condition 3 = .ok (.invokevirtual 77, 3) := by decide +kernel
theorem dX6_condition_6 : decode cX6_condition 6 = .ok (.ifCond .eq 39, 3) := by decide +kernel
theorem dX6_condition_9 : decode cX6_condition 9 = .ok (.aload_n 0, 1) := by decide +kernel
theorem dX6_condition_10 : decode cX6_condition 10 = .ok (.aload_n 1, 1) := by decide +kernel
theorem dX6_condition_11 : decode cX6_condition 11 = .ok (.iconst 0, 1) := by decide +kernel
theorem dX6_condition_12 : decode cX6_condition 12 = .ok (.invokevirtual 135, 3) := by decide +kernel
theorem dX6_condition_15 : decode cX6_condition 15 = .ok (.ifCond .eq 30, 3) := by decide +kernel
theorem dX6_condition_18 : decode cX6_condition 18 = .ok (.aload_n 0, 1) := by decide +kernel
theorem dX6_condition_19 : decode cX6_condition 19 = .ok (.bipush 60, 2) := by decide +kernel
theorem dX6_condition_21 : decode cX6_condition 21 = .ok (.invokevirtual 77, 3) := by decide +kernel
theorem dX6_condition_24 : decode cX6_condition 24 = .ok (.ifCond .eq 21, 3) := by decide +kernel
theorem dX6_condition_27 : decode cX6_condition 27 = .ok (.aload_n 0, 1) := by decide +kernel
theorem dX6_condition_28 : decode cX6_condition 28 = .ok (.aload_n 1, 1) := by decide +kernel
theorem dX6_condition_29 : decode cX6_condition 29 = .ok (.iconst 0, 1) := by decide +kernel
theorem dX6_condition_30 : decode cX6_condition 30 = .ok (.invokevirtual 135, 3) := by decide +kernel
theorem dX6_condition_33 : decode cX6_condition 33 = .ok (.ifCond .eq 12, 3) := by decide +kernel
theorem dX6_condition_36 : decode cX6_condition 36 = .ok (.aload_n 0, 1) := by decide +kernel
theorem dX6_condition_37 : decode cX6_condition 37 = .ok (.bipush 9, 2) := by decide +kernel
theorem dX6_condition_39 : decode cX6_condition 39 = .ok (.invokevirtual 77, 3) := by decide +kernel
theorem dX6_condition_42 : decode cX6_condition 42 = .ok (.ifCond .ne 5, 3) := by decide +kernel
theorem dX6_condition_45 : decode cX6_condition 45 = .ok (.iconst 0, 1) := by decide +kernel
theorem dX6_condition_46 : decode cX6_condition 46 = .ok (.ireturn, 1) := by decide +kernel
theorem dX6_condition_47 : decode cX6_condition 47 = .ok (.aload_n 1, 1) := by decide +kernel
theorem dX6_condition_48 : decode cX6_condition 48 = .ok (.bipush (-5), 2) := by decide +kernel
theorem dX6_condition_50 : decode cX6_condition 50 = .ok (.invokevirtual 138, 3) := by decide +kernel
theorem dX6_condition_53 : decode cX6_condition 53 = .ok (.aload_n 1, 1) := by decide +kernel
theorem dX6_condition_54 : decode cX6_condition 54 = .ok (.getfield 129, 3) := by decide +kernel
theorem dX6_condition_57 : decode cX6_condition 57 = .ok (.istore_n 2, 1) := by decide +kernel
theorem dX6_condition_58 : decode cX6_condition 58 = .ok (.aload_n 1, 1) := by decide +kernel
theorem dX6_condition_59 : decode cX6_condition 59 = .ok (.iconst 0, 1) := by decide +kernel
theorem dX6_condition_60 : decode cX6_condition 60 = .ok (.invokevirtual 138, 3) := by decide +kernel
theorem dX6_condition_63 : decode cX6_condition 63 = .ok (.aload_n 0, 1) := by decide +kernel
theorem dX6_condition_64 : decode cX6_condition 64 = .ok (.aload_n 1, 1) := by decide +kernel
theorem dX6_condition_65 : decode cX6_condition 65 = .ok (.iconst 0, 1) := by decide +kernel
theorem dX6_condition_66 : decode cX6_condition 66 = .ok (.invokevirtual 135, 3) := by decide +kernel
theorem dX6_condition_69 : decode cX6_condition 69 = .ok (.ifCond .eq 12, 3) := by decide +kernel
theorem dX6_condition_72 : decode cX6_condition 72 = .ok (.aload_n 0, 1) := by decide +kernel
theorem dX6_condition_73 : decode cX6_condition 73 = .ok (.bipush 10, 2) := by decide +kernel
theorem dX6_condition_75 : decode cX6_condition 75 = .ok (.invokevirtual 77, 3) := by decide +kernel
theorem dX6_condition_78 : decode cX6_condition 78 = .ok (.ifCond .ne 5, 3) := by decide +kernel
theorem dX6_condition_81 : decode cX6_condition 81 = .ok (.iconst 0, 1) := by decide +kernel
theorem dX6_condition_82 : decode cX6_condition 82 = .ok (.ireturn, 1) := by decide +kernel
theorem dX6_condition_83 : decode cX6_condition 83 = .ok (.aload_n 1, 1) := by decide +kernel
theorem dX6_condition_84 : decode cX6_condition 84 = .ok (.bipush (-6), 2) := by decide +kernel
theorem dX6_condition_86 : decode cX6_condition 86 = .ok (.invokevirtual 138, 3) := by decide +kernel
theorem dX6_condition_89 : decode cX6_condition 89 = .ok (.iload_n 2, 1) := by decide +kernel
theorem dX6_condition_90 : decode cX6_condition 90 = .ok (.aload_n 1, 1) := by decide +kernel
theorem dX6_condition_91 : decode cX6_condition 91 = .ok (.getfield 141, 3) := by decide +kernel
theorem dX6_condition_94 : decode cX6_condition 94 = .ok (.arraylength, 1) := by decide +kernel
theorem dX6_condition_95 : decode cX6_condition 95 = .ok (.if_icmp .ge 13, 3) := by decide +kernel
theorem dX6_condition_98 : decode cX6_condition 98 = .ok (.aload_n 1, 1) := by decide +kernel
theorem dX6_condition_99 : decode cX6_condition 99 = .ok (.getfield 141, 3) := by decide +kernel
theorem dX6_condition_102 : decode cX6_condition 102 = .ok (.iload_n 2, 1) := by decide +kernel
theorem dX6_condition_103 : decode cX6_condition 103 = .ok (.aload_n 1, 1) := by decide +kernel
theorem dX6_condition_104 : decode cX6_condition 104 = .ok (.getfield 129, 3) := by decide +kernel
theorem dX6_condition_107 : decode cX6_condition 107 = .ok (.iastore, 1) := by decide +kernel
theorem dX6_condition_108 : decode cX6_condition 108 = .ok (.iconst 1, 1) := by decide +kernel
theorem dX6_condition_109 : decode cX6_condition 109 = .ok (.ireturn, 1) := by decide +kernel
theorem dX6_tellingLaw_0 : decode cX6_tellingLaw 0 = .ok (.aload_n 1, 1) := by decide +kernel
theorem dX6_tellingLaw_1 : decode cX6_tellingLaw 1 = .ok (.getfield 126, 3) := by decide +kernel
theorem dX6_tellingLaw_4 : decode cX6_tellingLaw 4 = .ok (.iload_n 2, 1) := by decide +kernel
theorem dX6_tellingLaw_5 : decode cX6_tellingLaw 5 = .ok (.iconst 2, 1) := by decide +kernel
theorem dX6_tellingLaw_6 : decode cX6_tellingLaw 6 = .ok (.isub, 1) := by decide +kernel
theorem dX6_tellingLaw_7 : decode cX6_tellingLaw 7 = .ok (.aload_n 1, 1) := by decide +kernel
theorem dX6_tellingLaw_8 : decode cX6_tellingLaw 8 = .ok (.getfield 129, 3) := by decide +kernel
theorem dX6_tellingLaw_11 : decode cX6_tellingLaw 11 = .ok (.iastore, 1) := by decide +kernel
theorem dX6_tellingLaw_12 : decode cX6_tellingLaw 12 = .ok (.aload_n 0, 1) := by decide +kernel
theorem dX6_tellingLaw_13 : decode cX6_tellingLaw 13 = .ok (.iload_n 2, 1) := by decide +kernel
theorem dX6_tellingLaw_14 : decode cX6_tellingLaw 14 = .ok (.invokevirtual 77, 3) := by decide +kernel
theorem dX6_tellingLaw_17 : decode cX6_tellingLaw 17 = .ok (.ifCond .eq 12, 3) := by decide +kernel
theorem dX6_tellingLaw_20 : decode cX6_tellingLaw 20 = .ok (.aload_n 0, 1) := by decide +kernel
theorem dX6_tellingLaw_21 : decode cX6_tellingLaw 21 = .ok (.bipush 61, 2) := by decide +kernel
theorem dX6_tellingLaw_23 : decode cX6_tellingLaw 23 = .ok (.invokevirtual 77, 3) := by decide +kernel
theorem dX6_tellingLaw_26 : decode cX6_tellingLaw 26 = .ok (.ifCond .ne 5, 3) := by decide +kernel
theorem dX6_tellingLaw_29 : decode cX6_tellingLaw 29 = .ok (.iconst 0, 1) := by decide +kernel
theorem dX6_tellingLaw_30 : decode cX6_tellingLaw 30 = .ok (.ireturn, 1) := by decide +kernel
theorem dX6_tellingLaw_31 : decode cX6_tellingLaw 31 = .ok (.iconst 0, 1) := by decide +kernel
theorem dX6_tellingLaw_32 : decode cX6_tellingLaw 32 = .ok (.istore_n 3, 1) := by decide +kernel
theorem dX6_tellingLaw_33 : decode cX6_tellingLaw 33 = .ok (.aload_n 0, 1) := by decide +kernel
theorem dX6_tellingLaw_34 : decode cX6_tellingLaw 34 = .ok (.getfield 53, 3) := by decide +kernel
theorem dX6_tellingLaw_37 : decode cX6_tellingLaw 37 = .ok (.bipush 8, 2) := by decide +kernel
theorem dX6_tellingLaw_39 : decode cX6_tellingLaw 39 = .ok (.if_icmp .ne 24, 3) := by decide +kernel
theorem dX6_tellingLaw_42 : decode cX6_tellingLaw 42 = .ok (.iload_n 3, 1) := by decide +kernel
theorem dX6_tellingLaw_43 : decode cX6_tellingLaw 43 = .ok (.iconst 4, 1) := by decide +kernel
theorem dX6_tellingLaw_44 : decode cX6_tellingLaw 44 = .ok (.if_icmp .ge 19, 3) := by decide +kernel
theorem dX6_tellingLaw_47 : decode cX6_tellingLaw 47 = .ok (.aload_n 0, 1) := by decide +kernel
theorem dX6_tellingLaw_48 : decode cX6_tellingLaw 48 = .ok (.aload_n 1, 1) := by decide +kernel
theorem dX6_tellingLaw_49 : decode cX6_tellingLaw 49 = .ok (.invokevirtual 132, 3) := by decide +kernel
theorem dX6_tellingLaw_52 : decode cX6_tellingLaw 52 = .ok (.ifCond .ne 5, 3) := by decide +kernel
theorem dX6_tellingLaw_55 : decode cX6_tellingLaw 55 = .ok (.iconst 0, 1) := by decide +kernel
theorem dX6_tellingLaw_56 : decode cX6_tellingLaw 56 = .ok (.ireturn, 1) := by decide +kernel
theorem dX6_tellingLaw_57 : decode cX6_tellingLaw 57 = .ok (.iinc 3 1, 3) := by decide +kernel
theorem dX6_tellingLaw_60 : decode cX6_tellingLaw 60 = .ok (.goto (-27), 3) := by decide +kernel
theorem dX6_tellingLaw_63 : decode cX6_tellingLaw 63 = .ok (.aload_n 0, 1) := by decide +kernel
theorem dX6_tellingLaw_64 : decode cX6_tellingLaw 64 = .ok (.getfield 53, 3) := by decide +kernel
theorem dX6_tellingLaw_67 : decode cX6_tellingLaw 67 = .ok (.bipush 8, 2) := by decide +kernel
theorem dX6_tellingLaw_69 : decode cX6_tellingLaw 69 = .ok (.if_icmp .ne 9, 3) := by decide +kernel
theorem dX6_tellingLaw_72 : decode cX6_tellingLaw 72 = .ok (.aload_n 0, 1) := by decide +kernel
theorem dX6_tellingLaw_73 : decode cX6_tellingLaw 73 = .ok (.iconst 2, 1) := by decide +kernel
theorem dX6_tellingLaw_74 : decode cX6_tellingLaw 74 = .ok (.invokevirtual 60, 3) := by decide +kernel
theorem dX6_tellingLaw_77 : decode cX6_tellingLaw 77 = .ok (.ireturn, 1) := by decide +kernel
theorem dX6_tellingLaw_78 : decode cX6_tellingLaw 78 = .ok (.aload_n 0, 1) := by decide +kernel
theorem dX6_tellingLaw_79 : decode cX6_tellingLaw 79 = .ok (.aload_n 1, 1) := by decide +kernel
theorem dX6_tellingLaw_80 : decode cX6_tellingLaw 80 = .ok (.iconst 0, 1) := by decide +kernel
theorem dX6_tellingLaw_81 : decode cX6_tellingLaw 81 = .ok (.invokevirtual 135, 3) := by decide +kernel
theorem dX6_tellingLaw_84 : decode cX6_tellingLaw 84 = .ok (.ifCond .ne 5, 3) := by decide +kernel
theorem dX6_tellingLaw_87 : decode cX6_tellingLaw 87 = .ok (.iconst 0, 1) := by decide +kernel
theorem dX6_tellingLaw_88 : decode cX6_tellingLaw 88 = .ok (.ireturn, 1) := by decide +kernel
theorem dX6_tellingLaw_89 : decode cX6_tellingLaw 89 = .ok (.aload_n 1, 1) := by decide +kernel
theorem dX6_tellingLaw_90 : decode cX6_tellingLaw 90 = .ok (.bipush (-6), 2) := by decide +kernel
theorem dX6_tellingLaw_92 : decode cX6_tellingLaw 92 = .ok (.invokevirtual 138, 3) := by decide +kernel
theorem dX6_tellingLaw_95 : decode cX6_tellingLaw 95 = .ok (.aload_n 0, 1) := by decide +kernel
theorem dX6_tellingLaw_96 : decode cX6_tellingLaw 96 = .ok (.bipush 59, 2) := by decide +kernel
theorem dX6_tellingLaw_98 : decode cX6_tellingLaw 98 = .ok (.invokevirtual 77, 3) := by decide +kernel
theorem dX6_tellingLaw_101 : decode cX6_tellingLaw 101 = .ok (.ireturn, 1) := by decide +kernel
theorem dX6_telling_0 : decode cX6_telling 0 = .ok (.aload_n 0, 1) := by decide +kernel
theorem dX6_telling_1 : decode cX6_telling 1 = .ok (.getfield 53, 3) := by decide +kernel
theorem dX6_telling_4 : decode cX6_telling 4 = .ok (.ifCond .ne 9, 3) := by decide +kernel
theorem dX6_telling_7 : decode cX6_telling 7 = .ok (.aload_n 0, 1) := by decide +kernel
theorem dX6_telling_8 : decode cX6_telling 8 = .ok (.aload_n 1, 1) := by decide +kernel
theorem dX6_telling_9 : decode cX6_telling 9 = .ok (.invokevirtual 80, 3) := by decide +kernel
theorem dX6_telling_12 : decode cX6_telling 12 = .ok (.ireturn, 1) := by decide +kernel
theorem dX6_telling_13 : decode cX6_telling 13 = .ok (.aload_n 0, 1) := by decide +kernel
theorem dX6_telling_14 : decode cX6_telling 14 = .ok (.getfield 53, 3) := by decide +kernel
theorem dX6_telling_17 : decode cX6_telling 17 = .ok (.iconst 1, 1) := by decide +kernel
theorem dX6_telling_18 : decode cX6_telling 18 = .ok (.if_icmp .ne 9, 3) := by decide +kernel
theorem dX6_telling_21 : decode cX6_telling 21 = .ok (.aload_n 0, 1) := by decide +kernel
theorem dX6_telling_22 : decode cX6_telling 22 = .ok (.aload_n 1, 1) := by decide +kernel
theorem dX6_telling_23 : decode cX6_telling 23 = .ok (.invokevirtual 83, 3) := by decide +kernel
theorem dX6_telling_26 : decode cX6_telling 26 = .ok (.ireturn, 1) := by decide +kernel
theorem dX6_telling_27 : decode cX6_telling 27 = .ok (.aload_n 0, 1) := by decide +kernel
theorem dX6_telling_28 : decode cX6_telling 28 = .ok (.getfield 53, 3) := by decide +kernel
theorem dX6_telling_31 : decode cX6_telling 31 = .ok (.iconst 2, 1) := by decide +kernel
theorem dX6_telling_32 : decode cX6_telling 32 = .ok (.if_icmp .lt 21, 3) := by decide +kernel
theorem dX6_telling_35 : decode cX6_telling 35 = .ok (.aload_n 0, 1) := by decide +kernel
theorem dX6_telling_36 : decode cX6_telling 36 = .ok (.getfield 53, 3) := by decide +kernel
theorem dX6_telling_39 : decode cX6_telling 39 = .ok (.iconst 5, 1) := by decide +kernel
theorem dX6_telling_40 : decode cX6_telling 40 = .ok (.if_icmp .gt 13, 3) := by decide +kernel
theorem dX6_telling_43 : decode cX6_telling 43 = .ok (.aload_n 0, 1) := by decide +kernel
theorem dX6_telling_44 : decode cX6_telling 44 = .ok (.aload_n 1, 1) := by decide +kernel
theorem dX6_telling_45 : decode cX6_telling 45 = .ok (.aload_n 0, 1) := by decide +kernel
theorem dX6_telling_46 : decode cX6_telling 46 = .ok (.getfield 53, 3) := by decide +kernel
theorem dX6_telling_49 : decode cX6_telling 49 = .ok (.invokevirtual 86, 3) := by decide +kernel
theorem dX6_telling_52 : decode cX6_telling 52 = .ok (.ireturn, 1) := by decide +kernel
theorem dX6_telling_53 : decode cX6_telling 53 = .ok (.aload_n 0, 1) := by decide +kernel
theorem dX6_telling_54 : decode cX6_telling 54 = .ok (.getfield 53, 3) := by decide +kernel
theorem dX6_telling_57 : decode cX6_telling 57 = .ok (.bipush 6, 2) := by decide +kernel
theorem dX6_telling_59 : decode cX6_telling 59 = .ok (.if_icmp .ne 55, 3) := by decide +kernel
theorem dX6_telling_62 : decode cX6_telling 62 = .ok (.aload_n 0, 1) := by decide +kernel
theorem dX6_telling_63 : decode cX6_telling 63 = .ok (.bipush 6, 2) := by decide +kernel
theorem dX6_telling_65 : decode cX6_telling 65 = .ok (.invokevirtual 77, 3) := by decide +kernel
theorem dX6_telling_68 : decode cX6_telling 68 = .ok (.ifCond .eq 17, 3) := by decide +kernel
theorem dX6_telling_71 : decode cX6_telling 71 = .ok (.aload_n 0, 1) := by decide +kernel
theorem dX6_telling_72 : decode cX6_telling 72 = .ok (.iconst 0, 1) := by decide +kernel
theorem dX6_telling_73 : decode cX6_telling 73 = .ok (.bipush 99, 2) := by decide +kernel
theorem dX6_telling_75 : decode cX6_telling 75 = .ok (.invokevirtual 90, 3) := by decide +kernel
theorem dX6_telling_78 : decode cX6_telling 78 = .ok (.ifCond .eq 7, 3) := by decide +kernel
theorem dX6_telling_81 : decode cX6_telling 81 = .ok (.iconst 1, 1) := by decide +kernel
theorem dX6_telling_82 : decode cX6_telling 82 = .ok (.goto 4, 3) := by decide +kernel
theorem dX6_telling_85 : decode cX6_telling 85 = .ok (.iconst 0, 1) := by decide +kernel
theorem dX6_telling_86 : decode cX6_telling 86 = .ok (.istore_n 2, 1) := by decide +kernel
theorem dX6_telling_87 : decode cX6_telling 87 = .ok (.aload_n 1, 1) := by decide +kernel
theorem dX6_telling_88 : decode cX6_telling 88 = .ok (.aload_n 0, 1) := by decide +kernel
theorem dX6_telling_89 : decode cX6_telling 89 = .ok (.getfield 67, 3) := by decide +kernel
theorem dX6_telling_92 : decode cX6_telling 92 = .ok (.putfield 94, 3) := by decide +kernel
theorem dX6_telling_95 : decode cX6_telling 95 = .ok (.iload_n 2, 1) := by decide +kernel
theorem dX6_telling_96 : decode cX6_telling 96 = .ok (.ifCond .eq 16, 3) := by decide +kernel
theorem dX6_telling_99 : decode cX6_telling 99 = .ok (.aload_n 0, 1) := by decide +kernel
theorem dX6_telling_100 : decode cX6_telling 100 = .ok (.bipush 59, 2) := by decide +kernel
theorem dX6_telling_102 : decode cX6_telling 102 = .ok (.invokevirtual 77, 3) := by decide +kernel
theorem dX6_telling_105 : decode cX6_telling 105 = .ok (.ifCond .eq 7, 3) := by decide +kernel
theorem dX6_telling_108 : decode cX6_telling 108 = .ok (.iconst 1, 1) := by decide +kernel
theorem dX6_telling_109 : decode cX6_telling 109 = .ok (.goto 4, 3) := by decide +kernel
theorem dX6_telling_112 : decode cX6_telling 112 = .ok (.iconst 0, 1) := by decide +kernel
theorem dX6_telling_113 : decode cX6_telling 113 = .ok (.ireturn, 1) := by decide +kernel
theorem dX6_telling_114 : decode cX6_telling 114 = .ok (.aload_n 0, 1) := by decide +kernel
theorem dX6_telling_115 : decode cX6_telling 115 = .ok (.getfield 53, 3) := by decide +kernel
theorem dX6_telling_118 : decode cX6_telling 118 = .ok (.bipush 7, 2) := by decide +kernel
theorem dX6_telling_120 : decode cX6_telling 120 = .ok (.if_icmp .ne 56, 3) := by decide +kernel
theorem dX6_telling_123 : decode cX6_telling 123 = .ok (.aload_n 0, 1) := by decide +kernel
theorem dX6_telling_124 : decode cX6_telling 124 = .ok (.bipush 7, 2) := by decide +kernel
theorem dX6_telling_126 : decode cX6_telling 126 = .ok (.invokevirtual 77, 3) := by decide +kernel
theorem dX6_telling_129 : decode cX6_telling 129 = .ok (.ifCond .eq 18, 3) := by decide +kernel
theorem dX6_telling_132 : decode cX6_telling 132 = .ok (.aload_n 0, 1) := by decide +kernel
theorem dX6_telling_133 : decode cX6_telling 133 = .ok (.iconst 0, 1) := by decide +kernel
theorem dX6_telling_134 : decode cX6_telling 134 = .ok (.sipush 9999, 3) := by decide +kernel
theorem dX6_telling_137 : decode cX6_telling 137 = .ok (.invokevirtual 90, 3) := by decide +kernel
theorem dX6_telling_140 : decode cX6_telling 140 = .ok (.ifCond .eq 7, 3) := by decide +kernel
theorem dX6_telling_143 : decode cX6_telling 143 = .ok (.iconst 1, 1) := by decide +kernel
theorem dX6_telling_144 : decode cX6_telling 144 = .ok (.goto 4, 3) := by decide +kernel
theorem dX6_telling_147 : decode cX6_telling 147 = .ok (.iconst 0, 1) := by decide +kernel
theorem dX6_telling_148 : decode cX6_telling 148 = .ok (.istore_n 2, 1) := by decide +kernel
theorem dX6_telling_149 : decode cX6_telling 149 = .ok (.aload_n 1, 1) := by decide +kernel
theorem dX6_telling_150 : decode cX6_telling 150 = .ok (.aload_n 0, 1) := by decide +kernel
theorem dX6_telling_151 : decode cX6_telling 151 = .ok (.getfield 67, 3) := by decide +kernel
theorem dX6_telling_154 : decode cX6_telling 154 = .ok (.putfield 97, 3) := by decide +kernel
theorem dX6_telling_157 : decode cX6_telling 157 = .ok (.iload_n 2, 1) := by decide +kernel
theorem dX6_telling_158 : decode cX6_telling 158 = .ok (.ifCond .eq 16, 3) := by decide +kernel
theorem dX6_telling_161 : decode cX6_telling 161 = .ok (.aload_n 0, 1) := by decide +kernel
theorem dX6_telling_162 : decode cX6_telling 162 = .ok (.bipush 59, 2) := by decide +kernel
theorem dX6_telling_164 : decode cX6_telling 164 = .ok (.invokevirtual 77, 3) := by decide +kernel
theorem dX6_telling_167 : decode cX6_telling 167 = .ok (.ifCond .eq 7, 3) := by decide +kernel
theorem dX6_telling_170 : decode cX6_telling 170 = .ok (.iconst 1, 1) := by decide +kernel
theorem dX6_telling_171 : decode cX6_telling 171 = .ok (.goto 4, 3) := by decide +kernel
theorem dX6_telling_174 : decode cX6_telling 174 = .ok (.iconst 0, 1) := by decide +kernel
theorem dX6_telling_175 : decode cX6_telling 175 = .ok (.ireturn, 1) := by decide +kernel
theorem dX6_telling_176 : decode cX6_telling 176 = .ok (.aload_n 0, 1) := by decide +kernel
theorem dX6_telling_177 : decode cX6_telling 177 = .ok (.iconst 1, 1) := by decide +kernel
theorem dX6_telling_178 : decode cX6_telling 178 = .ok (.invokevirtual 60, 3) := by decide +kernel
theorem dX6_telling_181 : decode cX6_telling 181 = .ok (.ireturn, 1) := by decide +kernel
