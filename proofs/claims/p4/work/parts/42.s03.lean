theorem dX1_reckon_0 : decode cX1_reckon 0 = .ok (.iload_n 1, 1) := by decide +kernel
theorem dX1_reckon_1 : decode cX1_reckon 1 = .ok (.tableswitch 39 (-3) (-1) #[35, 31, 27], 27) := by decide +kernel
theorem dX1_reckon_28 : decode cX1_reckon 28 = .ok (.iload_n 2, 1) := by decide +kernel
theorem dX1_reckon_29 : decode cX1_reckon 29 = .ok (.iload_n 3, 1) := by decide +kernel
theorem dX1_reckon_30 : decode cX1_reckon 30 = .ok (.iadd, 1) := by decide +kernel
theorem dX1_reckon_31 : decode cX1_reckon 31 = .ok (.ireturn, 1) := by decide +kernel
theorem dX1_reckon_32 : decode cX1_reckon 32 = .ok (.iload_n 2, 1) := by decide +kernel
theorem dX1_reckon_33 : decode cX1_reckon 33 = .ok (.iload_n 3, 1) := by decide +kernel
theorem dX1_reckon_34 : decode cX1_reckon 34 = .ok (.isub, 1) := by decide +kernel
theorem dX1_reckon_35 : decode cX1_reckon 35 = .ok (.ireturn, 1) := by decide +kernel
theorem dX1_reckon_36 : decode cX1_reckon 36 = .ok (.iload_n 2, 1) := by decide +kernel
theorem dX1_reckon_37 : decode cX1_reckon 37 = .ok (.iload_n 3, 1) := by decide +kernel
theorem dX1_reckon_38 : decode cX1_reckon 38 = .ok (.imul, 1) := by decide +kernel
theorem dX1_reckon_39 : decode cX1_reckon 39 = .ok (.ireturn, 1) := by decide +kernel
theorem dX1_reckon_40 : decode cX1_reckon 40 = .ok (.aload_n 0, 1) := by decide +kernel
theorem dX1_reckon_41 : decode cX1_reckon 41 = .ok (.aload_n 0, 1) := by decide +kernel
theorem dX1_reckon_42 : decode cX1_reckon 42 = .ok (.getfield 22, 3) := by decide +kernel
theorem dX1_reckon_45 : decode cX1_reckon 45 = .ok (.ifCond .ne 7, 3) := by decide +kernel
theorem dX1_reckon_48 : decode cX1_reckon 48 = .ok (.iload_n 3, 1) := by decide +kernel
theorem dX1_reckon_49 : decode cX1_reckon 49 = .ok (.ifCond .ne 7, 3) := by decide +kernel
theorem dX1_reckon_52 : decode cX1_reckon 52 = .ok (.iconst 1, 1) := by decide +kernel
theorem dX1_reckon_53 : decode cX1_reckon 53 = .ok (.goto 4, 3) := by decide +kernel
theorem dX1_reckon_56 : decode cX1_reckon 56 = .ok (.iconst 0, 1) := by decide +kernel
theorem dX1_reckon_57 : decode cX1_reckon 57 = .ok (.putfield 22, 3) := by decide +kernel
theorem dX1_reckon_60 : decode cX1_reckon 60 = .ok (.iload_n 3, 1) := by decide +kernel
theorem dX1_reckon_61 : decode cX1_reckon 61 = .ok (.ifCond .ne 7, 3) := by decide +kernel
theorem dX1_reckon_64 : decode cX1_reckon 64 = .ok (.iconst 0, 1) := by decide +kernel
theorem dX1_reckon_65 : decode cX1_reckon 65 = .ok (.goto 6, 3) := by decide +kernel
theorem dX1_reckon_68 : decode cX1_reckon 68 = .ok (.iload_n 2, 1) := by decide +kernel
theorem dX1_reckon_69 : decode cX1_reckon 69 = .ok (.iload_n 3, 1) := by decide +kernel
theorem dX1_reckon_70 : decode cX1_reckon 70 = .ok (.idiv, 1) := by decide +kernel
theorem dX1_reckon_71 : decode cX1_reckon 71 = .ok (.ireturn, 1) := by decide +kernel
theorem dX1_answer_0 : decode cX1_answer 0 = .ok (.aload_n 0, 1) := by decide +kernel
theorem dX1_answer_1 : decode cX1_answer 1 = .ok (.iconst 0, 1) := by decide +kernel
theorem dX1_answer_2 : decode cX1_answer 2 = .ok (.putfield 18, 3) := by decide +kernel
theorem dX1_answer_5 : decode cX1_answer 5 = .ok (.aload_n 0, 1) := by decide +kernel
theorem dX1_answer_6 : decode cX1_answer 6 = .ok (.iconst 0, 1) := by decide +kernel
theorem dX1_answer_7 : decode cX1_answer 7 = .ok (.putfield 22, 3) := by decide +kernel
theorem dX1_answer_10 : decode cX1_answer 10 = .ok (.iload_n 2, 1) := by decide +kernel
theorem dX1_answer_11 : decode cX1_answer 11 = .ok (.istore_n 3, 1) := by decide +kernel
theorem dX1_answer_12 : decode cX1_answer 12 = .ok (.iconst 0, 1) := by decide +kernel
theorem dX1_answer_13 : decode cX1_answer 13 = .ok (.istore 4, 2) := by decide +kernel
theorem dX1_answer_15 : decode cX1_answer 15 = .ok (.iload 4, 2) := by decide +kernel
theorem dX1_answer_17 : decode cX1_answer 17 = .ok (.aload_n 1, 1) := by decide +kernel
theorem dX1_answer_18 : decode cX1_answer 18 = .ok (.arraylength, 1) := by decide +kernel
theorem dX1_answer_19 : decode cX1_answer 19 = .ok (.if_icmp .ge 165, 3) := by decide +kernel
theorem dX1_answer_22 : decode cX1_answer 22 = .ok (.iload_n 3, 1) := by decide +kernel
theorem dX1_answer_23 : decode cX1_answer 23 = .ok (.ifCond .lt 161, 3) := by decide +kernel
theorem dX1_answer_26 : decode cX1_answer 26 = .ok (.iload_n 3, 1) := by decide +kernel
theorem dX1_answer_27 : decode cX1_answer 27 = .ok (.aload_n 1, 1) := by decide +kernel
theorem dX1_answer_28 : decode cX1_answer 28 = .ok (.arraylength, 1) := by decide +kernel
theorem dX1_answer_29 : decode cX1_answer 29 = .ok (.if_icmp .ge 155, 3) := by decide +kernel
theorem dX1_answer_32 : decode cX1_answer 32 = .ok (.aload_n 0, 1) := by decide +kernel
theorem dX1_answer_33 : decode cX1_answer 33 = .ok (.getfield 22, 3) := by decide +kernel
theorem dX1_answer_36 : decode cX1_answer 36 = .ok (.ifCond .ne 148, 3) := by decide +kernel
theorem dX1_answer_39 : decode cX1_answer 39 = .ok (.aload_n 1, 1) := by decide +kernel
theorem dX1_answer_40 : decode cX1_answer 40 = .ok (.iload_n 3, 1) := by decide +kernel
theorem dX1_answer_41 : decode cX1_answer 41 = .ok (.iaload, 1) := by decide +kernel
theorem dX1_answer_42 : decode cX1_answer 42 = .ok (.istore 5, 2) := by decide +kernel
theorem dX1_answer_44 : decode cX1_answer 44 = .ok (.iinc 3 1, 3) := by decide +kernel
theorem dX1_answer_47 : decode cX1_answer 47 = .ok (.iload 5, 2) := by decide +kernel
theorem dX1_answer_49 : decode cX1_answer 49 = .ok (.ifCond .lt 12, 3) := by decide +kernel
theorem dX1_answer_52 : decode cX1_answer 52 = .ok (.aload_n 0, 1) := by decide +kernel
theorem dX1_answer_53 : decode cX1_answer 53 = .ok (.iload 5, 2) := by decide +kernel
theorem dX1_answer_55 : decode cX1_answer 55 = .ok (.invokevirtual 26, 3) := by decide +kernel
theorem dX1_answer_58 : decode cX1_answer 58 = .ok (.goto 120, 3) := by decide +kernel
theorem dX1_answer_61 : decode cX1_answer 61 = .ok (.iload 5, 2) := by decide +kernel
theorem dX1_answer_63 : decode cX1_answer 63 = .ok (.bipush (-10), 2) := by decide +kernel
theorem dX1_answer_65 : decode cX1_answer 65 = .ok (.if_icmp .gt 27, 3) := by decide +kernel
theorem dX1_answer_68 : decode cX1_answer 68 = .ok (.iload 5, 2) := by decide +kernel
theorem dX1_answer_70 : decode cX1_answer 70 = .ok (.bipush (-19), 2) := by decide +kernel
theorem dX1_answer_72 : decode cX1_answer 72 = .ok (.if_icmp .le 20, 3) := by decide +kernel
theorem dX1_answer_75 : decode cX1_answer 75 = .ok (.aload_n 0, 1) := by decide +kernel
theorem dX1_answer_76 : decode cX1_answer 76 = .ok (.aload_n 0, 1) := by decide +kernel
theorem dX1_answer_77 : decode cX1_answer 77 = .ok (.getfield 9, 3) := by decide +kernel
theorem dX1_answer_80 : decode cX1_answer 80 = .ok (.bipush (-10), 2) := by decide +kernel
theorem dX1_answer_82 : decode cX1_answer 82 = .ok (.iload 5, 2) := by decide +kernel
theorem dX1_answer_84 : decode cX1_answer 84 = .ok (.isub, 1) := by decide +kernel
theorem dX1_answer_85 : decode cX1_answer 85 = .ok (.iaload, 1) := by decide +kernel
theorem dX1_answer_86 : decode cX1_answer 86 = .ok (.invokevirtual 26, 3) := by decide +kernel
theorem dX1_answer_89 : decode cX1_answer 89 = .ok (.goto 89, 3) := by decide +kernel
theorem dX1_answer_92 : decode cX1_answer 92 = .ok (.iload 5, 2) := by decide +kernel
theorem dX1_answer_94 : decode cX1_answer 94 = .ok (.bipush (-6), 2) := by decide +kernel
theorem dX1_answer_96 : decode cX1_answer 96 = .ok (.if_icmp .ne 23, 3) := by decide +kernel
theorem dX1_answer_99 : decode cX1_answer 99 = .ok (.aload_n 0, 1) := by decide +kernel
theorem dX1_answer_100 : decode cX1_answer 100 = .ok (.invokevirtual 30, 3) := by decide +kernel
theorem dX1_answer_103 : decode cX1_answer 103 = .ok (.istore 6, 2) := by decide +kernel
theorem dX1_answer_105 : decode cX1_answer 105 = .ok (.aload_n 0, 1) := by decide +kernel
theorem dX1_answer_106 : decode cX1_answer 106 = .ok (.getfield 22, 3) := by decide +kernel
theorem dX1_answer_109 : decode cX1_answer 109 = .ok (.ifCond .eq 7, 3) := by decide +kernel
theorem dX1_answer_112 : decode cX1_answer 112 = .ok (.iconst 0, 1) := by decide +kernel
theorem dX1_answer_113 : decode cX1_answer 113 = .ok (.goto 5, 3) := by decide +kernel
theorem dX1_answer_116 : decode cX1_answer 116 = .ok (.iload 6, 2) := by decide +kernel
theorem dX1_answer_118 : decode cX1_answer 118 = .ok (.ireturn, 1) := by decide +kernel
theorem dX1_answer_119 : decode cX1_answer 119 = .ok (.aload_n 0, 1) := by decide +kernel
theorem dX1_answer_120 : decode cX1_answer 120 = .ok (.invokevirtual 30, 3) := by decide +kernel
theorem dX1_answer_123 : decode cX1_answer 123 = .ok (.istore 6, 2) := by decide +kernel
theorem dX1_answer_125 : decode cX1_answer 125 = .ok (.aload_n 0, 1) := by decide +kernel
theorem dX1_answer_126 : decode cX1_answer 126 = .ok (.invokevirtual 30, 3) := by decide +kernel
theorem dX1_answer_129 : decode cX1_answer 129 = .ok (.istore 7, 2) := by decide +kernel
theorem dX1_answer_131 : decode cX1_answer 131 = .ok (.iload 5, 2) := by decide +kernel
theorem dX1_answer_133 : decode cX1_answer 133 = .ok (.bipush (-5), 2) := by decide +kernel
theorem dX1_answer_135 : decode cX1_answer 135 = .ok (.if_icmp .eq 20, 3) := by decide +kernel
theorem dX1_answer_138 : decode cX1_answer 138 = .ok (.aload_n 0, 1) := by decide +kernel
theorem dX1_answer_139 : decode cX1_answer 139 = .ok (.aload_n 0, 1) := by decide +kernel
theorem dX1_answer_140 : decode cX1_answer 140 = .ok (.iload 5, 2) := by decide +kernel
theorem dX1_answer_142 : decode cX1_answer 142 = .ok (.iload 7, 2) := by decide +kernel
theorem dX1_answer_144 : decode cX1_answer 144 = .ok (.iload 6, 2) := by decide +kernel
theorem dX1_answer_146 : decode cX1_answer 146 = .ok (.invokevirtual 34, 3) := by decide +kernel
theorem dX1_answer_149 : decode cX1_answer 149 = .ok (.invokevirtual 26, 3) := by decide +kernel
theorem dX1_answer_152 : decode cX1_answer 152 = .ok (.goto 26, 3) := by decide +kernel
theorem dX1_answer_155 : decode cX1_answer 155 = .ok (.iload 7, 2) := by decide +kernel
theorem dX1_answer_157 : decode cX1_answer 157 = .ok (.iload 6, 2) := by decide +kernel
theorem dX1_answer_159 : decode cX1_answer 159 = .ok (.if_icmp .lt 9, 3) := by decide +kernel
theorem dX1_answer_162 : decode cX1_answer 162 = .ok (.iload_n 3, 1) := by decide +kernel
theorem dX1_answer_163 : decode cX1_answer 163 = .ok (.aload_n 1, 1) := by decide +kernel
theorem dX1_answer_164 : decode cX1_answer 164 = .ok (.arraylength, 1) := by decide +kernel
theorem dX1_answer_165 : decode cX1_answer 165 = .ok (.if_icmp .lt 9, 3) := by decide +kernel
theorem dX1_answer_168 : decode cX1_answer 168 = .ok (.iinc 3 1, 3) := by decide +kernel
theorem dX1_answer_171 : decode cX1_answer 171 = .ok (.goto 7, 3) := by decide +kernel
theorem dX1_answer_174 : decode cX1_answer 174 = .ok (.aload_n 1, 1) := by decide +kernel
theorem dX1_answer_175 : decode cX1_answer 175 = .ok (.iload_n 3, 1) := by decide +kernel
theorem dX1_answer_176 : decode cX1_answer 176 = .ok (.iaload, 1) := by decide +kernel
theorem dX1_answer_177 : decode cX1_answer 177 = .ok (.istore_n 3, 1) := by decide +kernel
theorem dX1_answer_178 : decode cX1_answer 178 = .ok (.iinc 4 1, 3) := by decide +kernel
theorem dX1_answer_181 : decode cX1_answer 181 = .ok (.goto (-166), 3) := by decide +kernel
theorem dX1_answer_184 : decode cX1_answer 184 = .ok (.iconst 0, 1) := by decide +kernel
theorem dX1_answer_185 : decode cX1_answer 185 = .ok (.ireturn, 1) := by decide +kernel
theorem dX2_add_9 : decode cX2_add 9 = .ok (.iconst (-1), 1) := by decide +kernel
theorem dX2_add_10 : decode cX2_add 10 = .ok (.ireturn, 1) := by decide +kernel
theorem dX2_agreeing_12 : decode cX2_agreeing 12 = .ok (.iload 5, 2) := by decide +kernel
theorem dX2_agreeing_14 : decode cX2_agreeing 14 = .ok (.aload_n 0, 1) := by decide +kernel
theorem dX2_agreeing_15 : decode cX2_agreeing 15 = .ok (.getfield 19, 3) := by decide +kernel
theorem dX2_agreeing_18 : decode cX2_agreeing 18 = .ok (.if_icmp .ge 76, 3) := by decide +kernel
theorem dX2_agreeing_21 : decode cX2_agreeing 21 = .ok (.aload_n 0, 1) := by decide +kernel
theorem dX2_agreeing_22 : decode cX2_agreeing 22 = .ok (.getfield 9, 3) := by decide +kernel
theorem dX2_agreeing_25 : decode cX2_agreeing 25 = .ok (.iload 5, 2) := by decide +kernel
theorem dX2_agreeing_27 : decode cX2_agreeing 27 = .ok (.iaload, 1) := by decide +kernel
theorem dX2_agreeing_28 : decode cX2_agreeing 28 = .ok (.aload_n 3, 1) := by decide +kernel
theorem dX2_agreeing_29 : decode cX2_agreeing 29 = .ok (.arraylength, 1) := by decide +kernel
theorem dX2_agreeing_30 : decode cX2_agreeing 30 = .ok (.if_icmp .ge 15, 3) := by decide +kernel
theorem dX2_agreeing_33 : decode cX2_agreeing 33 = .ok (.aload_n 3, 1) := by decide +kernel
theorem dX2_agreeing_34 : decode cX2_agreeing 34 = .ok (.aload_n 0, 1) := by decide +kernel
theorem dX2_agreeing_35 : decode cX2_agreeing 35 = .ok (.getfield 9, 3) := by decide +kernel
theorem dX2_agreeing_38 : decode cX2_agreeing 38 = .ok (.iload 5, 2) := by decide +kernel
theorem dX2_agreeing_40 : decode cX2_agreeing 40 = .ok (.iaload, 1) := by decide +kernel
theorem dX2_agreeing_41 : decode cX2_agreeing 41 = .ok (.iaload, 1) := by decide +kernel
theorem dX2_agreeing_42 : decode cX2_agreeing 42 = .ok (.goto 4, 3) := by decide +kernel
theorem dX2_agreeing_46 : decode cX2_agreeing 46 = .ok (.istore 6, 2) := by decide +kernel
theorem dX2_agreeing_48 : decode cX2_agreeing 48 = .ok (.iload 6, 2) := by decide +kernel
theorem dX2_agreeing_50 : decode cX2_agreeing 50 = .ok (.iconst (-1), 1) := by decide +kernel
theorem dX2_agreeing_51 : decode cX2_agreeing 51 = .ok (.if_icmp .ne 7, 3) := by decide +kernel
theorem dX2_agreeing_54 : decode cX2_agreeing 54 = .ok (.iconst 0, 1) := by decide +kernel
theorem dX2_agreeing_55 : decode cX2_agreeing 55 = .ok (.goto 7, 3) := by decide +kernel
theorem dX2_agreeing_58 : decode cX2_agreeing 58 = .ok (.iconst 1, 1) := by decide +kernel
theorem dX2_agreeing_59 : decode cX2_agreeing 59 = .ok (.iload 6, 2) := by decide +kernel
theorem dX2_agreeing_61 : decode cX2_agreeing 61 = .ok (.ishl, 1) := by decide +kernel
theorem dX2_agreeing_62 : decode cX2_agreeing 62 = .ok (.istore 7, 2) := by decide +kernel
theorem dX2_agreeing_64 : decode cX2_agreeing 64 = .ok (.iload 4, 2) := by decide +kernel
theorem dX2_agreeing_66 : decode cX2_agreeing 66 = .ok (.aload_n 0, 1) := by decide +kernel
theorem dX2_agreeing_67 : decode cX2_agreeing 67 = .ok (.getfield 15, 3) := by decide +kernel
theorem dX2_agreeing_70 : decode cX2_agreeing 70 = .ok (.iload 5, 2) := by decide +kernel
theorem dX2_agreeing_72 : decode cX2_agreeing 72 = .ok (.baload, 1) := by decide +kernel
theorem dX2_agreeing_73 : decode cX2_agreeing 73 = .ok (.ifCond .eq 8, 3) := by decide +kernel
theorem dX2_agreeing_76 : decode cX2_agreeing 76 = .ok (.iload 7, 2) := by decide +kernel
theorem dX2_agreeing_78 : decode cX2_agreeing 78 = .ok (.goto 7, 3) := by decide +kernel
theorem dX2_agreeing_81 : decode cX2_agreeing 81 = .ok (.iload 7, 2) := by decide +kernel
theorem dX2_agreeing_83 : decode cX2_agreeing 83 = .ok (.iconst (-1), 1) := by decide +kernel
theorem dX2_agreeing_84 : decode cX2_agreeing 84 = .ok (.ixor, 1) := by decide +kernel
theorem dX2_agreeing_85 : decode cX2_agreeing 85 = .ok (.iand, 1) := by decide +kernel
theorem dX2_agreeing_86 : decode cX2_agreeing 86 = .ok (.istore 4, 2) := by decide +kernel
theorem dX2_agreeing_88 : decode cX2_agreeing 88 = .ok (.iinc 5 1, 3) := by decide +kernel
theorem dX2_agreeing_91 : decode cX2_agreeing 91 = .ok (.goto (-85), 3) := by decide +kernel
theorem dX3_close_0 : decode cX3_close 0 = .ok (.iconst 0, 1) := by decide +kernel
theorem dX3_close_1 : decode cX3_close 1 = .ok (.istore_n 2, 1) := by decide +kernel
theorem dX3_close_2 : decode cX3_close 2 = .ok (.iconst 0, 1) := by decide +kernel
theorem dX3_close_3 : decode cX3_close 3 = .ok (.istore_n 3, 1) := by decide +kernel
theorem dX3_close_4 : decode cX3_close 4 = .ok (.iload_n 3, 1) := by decide +kernel
theorem dX3_close_5 : decode cX3_close 5 = .ok (.iload_n 1, 1) := by decide +kernel
theorem dX3_close_6 : decode cX3_close 6 = .ok (.if_icmp .ge 34, 3) := by decide +kernel
theorem dX3_close_9 : decode cX3_close 9 = .ok (.iconst 1, 1) := by decide +kernel
theorem dX3_close_10 : decode cX3_close 10 = .ok (.iload_n 3, 1) := by decide +kernel
theorem dX3_close_11 : decode cX3_close 11 = .ok (.aload_n 0, 1) := by decide +kernel
theorem dX3_close_12 : decode cX3_close 12 = .ok (.iload_n 3, 1) := by decide +kernel
theorem dX3_close_13 : decode cX3_close 13 = .ok (.iaload, 1) := by decide +kernel
theorem dX3_close_14 : decode cX3_close 14 = .ok (.iadd, 1) := by decide +kernel
theorem dX3_close_15 : decode cX3_close 15 = .ok (.iload_n 1, 1) := by decide +kernel
theorem dX3_close_16 : decode cX3_close 16 = .ok (.irem, 1) := by decide +kernel
theorem dX3_close_17 : decode cX3_close 17 = .ok (.ishl, 1) := by decide +kernel
theorem dX3_close_18 : decode cX3_close 18 = .ok (.istore 4, 2) := by decide +kernel
theorem dX3_close_20 : decode cX3_close 20 = .ok (.iload_n 2, 1) := by decide +kernel
theorem dX3_close_21 : decode cX3_close 21 = .ok (.iload 4, 2) := by decide +kernel
theorem dX3_close_23 : decode cX3_close 23 = .ok (.iand, 1) := by decide +kernel
theorem dX3_close_24 : decode cX3_close 24 = .ok (.ifCond .eq 5, 3) := by decide +kernel
theorem dX3_close_27 : decode cX3_close 27 = .ok (.iconst 0, 1) := by decide +kernel
theorem dX3_close_28 : decode cX3_close 28 = .ok (.ireturn, 1) := by decide +kernel
theorem dX3_close_29 : decode cX3_close 29 = .ok (.iload_n 2, 1) := by decide +kernel
theorem dX3_close_30 : decode cX3_close 30 = .ok (.iload 4, 2) := by decide +kernel
theorem dX3_close_32 : decode cX3_close 32 = .ok (.ior, 1) := by decide +kernel
theorem dX3_close_33 : decode cX3_close 33 = .ok (.istore_n 2, 1) := by decide +kernel
theorem dX3_close_34 : decode cX3_close 34 = .ok (.iinc 3 1, 3) := by decide +kernel
theorem dX3_close_37 : decode cX3_close 37 = .ok (.goto (-33), 3) := by decide +kernel
theorem dX3_close_40 : decode cX3_close 40 = .ok (.iconst 1, 1) := by decide +kernel
theorem dX3_close_41 : decode cX3_close 41 = .ok (.ireturn, 1) := by decide +kernel
theorem dX3_kept_0 : decode cX3_kept 0 = .ok (.iconst 0, 1) := by decide +kernel
theorem dX3_kept_1 : decode cX3_kept 1 = .ok (.istore_n 2, 1) := by decide +kernel
theorem dX3_kept_2 : decode cX3_kept 2 = .ok (.iconst 0, 1) := by decide +kernel
theorem dX3_kept_3 : decode cX3_kept 3 = .ok (.istore_n 3, 1) := by decide +kernel
theorem dX3_kept_4 : decode cX3_kept 4 = .ok (.iload_n 3, 1) := by decide +kernel
theorem dX3_kept_5 : decode cX3_kept 5 = .ok (.iload_n 1, 1) := by decide +kernel
theorem dX3_kept_6 : decode cX3_kept 6 = .ok (.if_icmp .ge 15, 3) := by decide +kernel
theorem dX3_kept_9 : decode cX3_kept 9 = .ok (.iload_n 2, 1) := by decide +kernel
theorem dX3_kept_10 : decode cX3_kept 10 = .ok (.aload_n 0, 1) := by decide +kernel
theorem dX3_kept_11 : decode cX3_kept 11 = .ok (.iload_n 3, 1) := by decide +kernel
theorem dX3_kept_12 : decode cX3_kept 12 = .ok (.iaload, 1) := by decide +kernel
theorem dX3_kept_13 : decode cX3_kept 13 = .ok (.iadd, 1) := by decide +kernel
theorem dX3_kept_14 : decode cX3_kept 14 = .ok (.istore_n 2, 1) := by decide +kernel
theorem dX3_kept_15 : decode cX3_kept 15 = .ok (.iinc 3 1, 3) := by decide +kernel
theorem dX3_kept_18 : decode cX3_kept 18 = .ok (.goto (-14), 3) := by decide +kernel
theorem dX3_kept_21 : decode cX3_kept 21 = .ok (.iload_n 1, 1) := by decide +kernel
theorem dX3_kept_22 : decode cX3_kept 22 = .ok (.iconst 1, 1) := by decide +kernel
theorem dX3_kept_23 : decode cX3_kept 23 = .ok (.if_icmp .ge 7, 3) := by decide +kernel
theorem dX3_kept_26 : decode cX3_kept 26 = .ok (.iconst 0, 1) := by decide +kernel
theorem dX3_kept_27 : decode cX3_kept 27 = .ok (.goto 6, 3) := by decide +kernel
theorem dX3_kept_30 : decode cX3_kept 30 = .ok (.iload_n 2, 1) := by decide +kernel
theorem dX3_kept_31 : decode cX3_kept 31 = .ok (.iload_n 1, 1) := by decide +kernel
theorem dX3_kept_32 : decode cX3_kept 32 = .ok (.idiv, 1) := by decide +kernel
theorem dX3_kept_33 : decode cX3_kept 33 = .ok (.ireturn, 1) := by decide +kernel
