theorem dX12_term_0 : decode cX12_term 0 = .ok (.aload_n 0, 1) := by decide +kernel
theorem dX12_term_1 : decode cX12_term 1 = .ok (.getfield 86, 3) := by decide +kernel
theorem dX12_term_4 : decode cX12_term 4 = .ok (.aload_n 0, 1) := by decide +kernel
theorem dX12_term_5 : decode cX12_term 5 = .ok (.getfield 230, 3) := by decide +kernel
theorem dX12_term_8 : decode cX12_term 8 = .ok (.aload_n 0, 1) := by decide +kernel
theorem dX12_term_9 : decode cX12_term 9 = .ok (.getfield 233, 3) := by decide +kernel
theorem dX12_term_12 : decode cX12_term 12 = .ok (.iastore, 1) := by decide +kernel
theorem dX12_term_13 : decode cX12_term 13 = .ok (.aload_n 0, 1) := by decide +kernel
theorem dX12_term_14 : decode cX12_term 14 = .ok (.getfield 191, 3) := by decide +kernel
theorem dX12_term_17 : decode cX12_term 17 = .ok (.ifCond .ne 7, 3) := by decide +kernel
theorem dX12_term_20 : decode cX12_term 20 = .ok (.aload_n 0, 1) := by decide +kernel
theorem dX12_term_21 : decode cX12_term 21 = .ok (.invokevirtual 278, 3) := by decide +kernel
theorem dX12_term_24 : decode cX12_term 24 = .ok (.aload_n 0, 1) := by decide +kernel
theorem dX12_term_25 : decode cX12_term 25 = .ok (.getfield 89, 3) := by decide +kernel
theorem dX12_term_28 : decode cX12_term 28 = .ok (.aload_n 0, 1) := by decide +kernel
theorem dX12_term_29 : decode cX12_term 29 = .ok (.getfield 230, 3) := by decide +kernel
theorem dX12_term_32 : decode cX12_term 32 = .ok (.aload_n 0, 1) := by decide +kernel
theorem dX12_term_33 : decode cX12_term 33 = .ok (.getfield 233, 3) := by decide +kernel
theorem dX12_term_36 : decode cX12_term 36 = .ok (.iastore, 1) := by decide +kernel
theorem dX12_term_37 : decode cX12_term 37 = .ok (.aload_n 0, 1) := by decide +kernel
theorem dX12_term_38 : decode cX12_term 38 = .ok (.dup, 1) := by decide +kernel
theorem dX12_term_39 : decode cX12_term 39 = .ok (.getfield 230, 3) := by decide +kernel
theorem dX12_term_42 : decode cX12_term 42 = .ok (.iconst 1, 1) := by decide +kernel
theorem dX12_term_43 : decode cX12_term 43 = .ok (.iadd, 1) := by decide +kernel
theorem dX12_term_44 : decode cX12_term 44 = .ok (.putfield 230, 3) := by decide +kernel
theorem dX12_term_47 : decode cX12_term 47 = .ok (.return_, 1) := by decide +kernel
theorem dX12_tellLaw_0 : decode cX12_tellLaw 0 = .ok (.aload_n 0, 1) := by decide +kernel
theorem dX12_tellLaw_1 : decode cX12_tellLaw 1 = .ok (.iconst 5, 1) := by decide +kernel
theorem dX12_tellLaw_2 : decode cX12_tellLaw 2 = .ok (.invokevirtual 249, 3) := by decide +kernel
theorem dX12_tellLaw_5 : decode cX12_tellLaw 5 = .ok (.aload_n 0, 1) := by decide +kernel
theorem dX12_tellLaw_6 : decode cX12_tellLaw 6 = .ok (.getfield 230, 3) := by decide +kernel
theorem dX12_tellLaw_9 : decode cX12_tellLaw 9 = .ok (.istore_n 2, 1) := by decide +kernel
theorem dX12_tellLaw_10 : decode cX12_tellLaw 10 = .ok (.iconst 0, 1) := by decide +kernel
theorem dX12_tellLaw_11 : decode cX12_tellLaw 11 = .ok (.istore_n 3, 1) := by decide +kernel
theorem dX12_tellLaw_12 : decode cX12_tellLaw 12 = .ok (.aload_n 0, 1) := by decide +kernel
theorem dX12_tellLaw_13 : decode cX12_tellLaw 13 = .ok (.getfield 191, 3) := by decide +kernel
theorem dX12_tellLaw_16 : decode cX12_tellLaw 16 = .ok (.ifCond .ne 113, 3) := by decide +kernel
theorem dX12_tellLaw_19 : decode cX12_tellLaw 19 = .ok (.aload_n 0, 1) := by decide +kernel
theorem dX12_tellLaw_20 : decode cX12_tellLaw 20 = .ok (.bipush 28, 2) := by decide +kernel
theorem dX12_tellLaw_22 : decode cX12_tellLaw 22 = .ok (.invokevirtual 209, 3) := by decide +kernel
theorem dX12_tellLaw_25 : decode cX12_tellLaw 25 = .ok (.ifCond .eq 104, 3) := by decide +kernel
theorem dX12_tellLaw_28 : decode cX12_tellLaw 28 = .ok (.iload_n 3, 1) := by decide +kernel
theorem dX12_tellLaw_29 : decode cX12_tellLaw 29 = .ok (.iconst 4, 1) := by decide +kernel
theorem dX12_tellLaw_30 : decode cX12_tellLaw 30 = .ok (.if_icmp .ne 8, 3) := by decide +kernel
theorem dX12_tellLaw_33 : decode cX12_tellLaw 33 = .ok (.aload_n 0, 1) := by decide +kernel
theorem dX12_tellLaw_34 : decode cX12_tellLaw 34 = .ok (.iconst 2, 1) := by decide +kernel
theorem dX12_tellLaw_35 : decode cX12_tellLaw 35 = .ok (.invokevirtual 206, 3) := by decide +kernel
theorem dX12_tellLaw_38 : decode cX12_tellLaw 38 = .ok (.aload_n 0, 1) := by decide +kernel
theorem dX12_tellLaw_39 : decode cX12_tellLaw 39 = .ok (.getfield 191, 3) := by decide +kernel
theorem dX12_tellLaw_42 : decode cX12_tellLaw 42 = .ok (.ifCond .le 4, 3) := by decide +kernel
theorem dX12_tellLaw_45 : decode cX12_tellLaw 45 = .ok (.return_, 1) := by decide +kernel
theorem dX12_tellLaw_46 : decode cX12_tellLaw 46 = .ok (.iinc 3 1, 3) := by decide +kernel
theorem dX12_tellLaw_49 : decode cX12_tellLaw 49 = .ok (.aload_n 0, 1) := by decide +kernel
theorem dX12_tellLaw_50 : decode cX12_tellLaw 50 = .ok (.invokevirtual 212, 3) := by decide +kernel
theorem dX12_tellLaw_53 : decode cX12_tellLaw 53 = .ok (.aload_n 0, 1) := by decide +kernel
theorem dX12_tellLaw_54 : decode cX12_tellLaw 54 = .ok (.getfield 76, 3) := by decide +kernel
theorem dX12_tellLaw_57 : decode cX12_tellLaw 57 = .ok (.aload_n 0, 1) := by decide +kernel
theorem dX12_tellLaw_58 : decode cX12_tellLaw 58 = .ok (.getfield 230, 3) := by decide +kernel
theorem dX12_tellLaw_61 : decode cX12_tellLaw 61 = .ok (.iconst 1, 1) := by decide +kernel
theorem dX12_tellLaw_62 : decode cX12_tellLaw 62 = .ok (.bastore, 1) := by decide +kernel
theorem dX12_tellLaw_63 : decode cX12_tellLaw 63 = .ok (.aload_n 0, 1) := by decide +kernel
theorem dX12_tellLaw_64 : decode cX12_tellLaw 64 = .ok (.getfield 80, 3) := by decide +kernel
theorem dX12_tellLaw_67 : decode cX12_tellLaw 67 = .ok (.aload_n 0, 1) := by decide +kernel
theorem dX12_tellLaw_68 : decode cX12_tellLaw 68 = .ok (.getfield 230, 3) := by decide +kernel
theorem dX12_tellLaw_71 : decode cX12_tellLaw 71 = .ok (.aload_n 0, 1) := by decide +kernel
theorem dX12_tellLaw_72 : decode cX12_tellLaw 72 = .ok (.getfield 233, 3) := by decide +kernel
theorem dX12_tellLaw_75 : decode cX12_tellLaw 75 = .ok (.iastore, 1) := by decide +kernel
theorem dX12_tellLaw_76 : decode cX12_tellLaw 76 = .ok (.aload_n 0, 1) := by decide +kernel
theorem dX12_tellLaw_77 : decode cX12_tellLaw 77 = .ok (.invokevirtual 278, 3) := by decide +kernel
theorem dX12_tellLaw_80 : decode cX12_tellLaw 80 = .ok (.aload_n 0, 1) := by decide +kernel
theorem dX12_tellLaw_81 : decode cX12_tellLaw 81 = .ok (.bipush 13, 2) := by decide +kernel
theorem dX12_tellLaw_83 : decode cX12_tellLaw 83 = .ok (.invokevirtual 249, 3) := by decide +kernel
theorem dX12_tellLaw_86 : decode cX12_tellLaw 86 = .ok (.aload_n 0, 1) := by decide +kernel
theorem dX12_tellLaw_87 : decode cX12_tellLaw 87 = .ok (.getfield 83, 3) := by decide +kernel
theorem dX12_tellLaw_90 : decode cX12_tellLaw 90 = .ok (.aload_n 0, 1) := by decide +kernel
theorem dX12_tellLaw_91 : decode cX12_tellLaw 91 = .ok (.getfield 230, 3) := by decide +kernel
theorem dX12_tellLaw_94 : decode cX12_tellLaw 94 = .ok (.aload_n 0, 1) := by decide +kernel
theorem dX12_tellLaw_95 : decode cX12_tellLaw 95 = .ok (.getfield 233, 3) := by decide +kernel
theorem dX12_tellLaw_98 : decode cX12_tellLaw 98 = .ok (.iastore, 1) := by decide +kernel
theorem dX12_tellLaw_99 : decode cX12_tellLaw 99 = .ok (.aload_n 0, 1) := by decide +kernel
theorem dX12_tellLaw_100 : decode cX12_tellLaw 100 = .ok (.getfield 191, 3) := by decide +kernel
theorem dX12_tellLaw_103 : decode cX12_tellLaw 103 = .ok (.ifCond .ne 7, 3) := by decide +kernel
theorem dX12_tellLaw_106 : decode cX12_tellLaw 106 = .ok (.aload_n 0, 1) := by decide +kernel
theorem dX12_tellLaw_107 : decode cX12_tellLaw 107 = .ok (.invokevirtual 278, 3) := by decide +kernel
theorem dX12_tellLaw_110 : decode cX12_tellLaw 110 = .ok (.aload_n 0, 1) := by decide +kernel
theorem dX12_tellLaw_111 : decode cX12_tellLaw 111 = .ok (.bipush 29, 2) := by decide +kernel
theorem dX12_tellLaw_113 : decode cX12_tellLaw 113 = .ok (.invokevirtual 249, 3) := by decide +kernel
theorem dX12_tellLaw_116 : decode cX12_tellLaw 116 = .ok (.aload_n 0, 1) := by decide +kernel
theorem dX12_tellLaw_117 : decode cX12_tellLaw 117 = .ok (.invokevirtual 281, 3) := by decide +kernel
theorem dX12_tellLaw_120 : decode cX12_tellLaw 120 = .ok (.aload_n 0, 1) := by decide +kernel
theorem dX12_tellLaw_121 : decode cX12_tellLaw 121 = .ok (.bipush 30, 2) := by decide +kernel
theorem dX12_tellLaw_123 : decode cX12_tellLaw 123 = .ok (.invokevirtual 249, 3) := by decide +kernel
theorem dX12_tellLaw_126 : decode cX12_tellLaw 126 = .ok (.goto (-114), 3) := by decide +kernel
theorem dX12_tellLaw_129 : decode cX12_tellLaw 129 = .ok (.aload_n 0, 1) := by decide +kernel
theorem dX12_tellLaw_130 : decode cX12_tellLaw 130 = .ok (.getfield 76, 3) := by decide +kernel
theorem dX12_tellLaw_133 : decode cX12_tellLaw 133 = .ok (.aload_n 0, 1) := by decide +kernel
theorem dX12_tellLaw_134 : decode cX12_tellLaw 134 = .ok (.getfield 230, 3) := by decide +kernel
theorem dX12_tellLaw_137 : decode cX12_tellLaw 137 = .ok (.iconst 0, 1) := by decide +kernel
theorem dX12_tellLaw_138 : decode cX12_tellLaw 138 = .ok (.bastore, 1) := by decide +kernel
theorem dX12_tellLaw_139 : decode cX12_tellLaw 139 = .ok (.aload_n 0, 1) := by decide +kernel
theorem dX12_tellLaw_140 : decode cX12_tellLaw 140 = .ok (.invokevirtual 281, 3) := by decide +kernel
theorem dX12_tellLaw_143 : decode cX12_tellLaw 143 = .ok (.aload_n 0, 1) := by decide +kernel
theorem dX12_tellLaw_144 : decode cX12_tellLaw 144 = .ok (.iconst 4, 1) := by decide +kernel
theorem dX12_tellLaw_145 : decode cX12_tellLaw 145 = .ok (.invokevirtual 249, 3) := by decide +kernel
theorem dX12_tellLaw_148 : decode cX12_tellLaw 148 = .ok (.aload_n 0, 1) := by decide +kernel
theorem dX12_tellLaw_149 : decode cX12_tellLaw 149 = .ok (.getfield 191, 3) := by decide +kernel
theorem dX12_tellLaw_152 : decode cX12_tellLaw 152 = .ok (.ifCond .le 4, 3) := by decide +kernel
theorem dX12_tellLaw_155 : decode cX12_tellLaw 155 = .ok (.return_, 1) := by decide +kernel
theorem dX12_tellLaw_156 : decode cX12_tellLaw 156 = .ok (.aload_n 0, 1) := by decide +kernel
theorem dX12_tellLaw_157 : decode cX12_tellLaw 157 = .ok (.getfield 70, 3) := by decide +kernel
theorem dX12_tellLaw_160 : decode cX12_tellLaw 160 = .ok (.iconst 4, 1) := by decide +kernel
theorem dX12_tellLaw_161 : decode cX12_tellLaw 161 = .ok (.aload_n 0, 1) := by decide +kernel
theorem dX12_tellLaw_162 : decode cX12_tellLaw 162 = .ok (.getfield 224, 3) := by decide +kernel
theorem dX12_tellLaw_165 : decode cX12_tellLaw 165 = .ok (.imul, 1) := by decide +kernel
theorem dX12_tellLaw_166 : decode cX12_tellLaw 166 = .ok (.iload_n 1, 1) := by decide +kernel
theorem dX12_tellLaw_167 : decode cX12_tellLaw 167 = .ok (.iadd, 1) := by decide +kernel
theorem dX12_tellLaw_168 : decode cX12_tellLaw 168 = .ok (.iload_n 2, 1) := by decide +kernel
theorem dX12_tellLaw_169 : decode cX12_tellLaw 169 = .ok (.iastore, 1) := by decide +kernel
theorem dX12_tellLaw_170 : decode cX12_tellLaw 170 = .ok (.aload_n 0, 1) := by decide +kernel
theorem dX12_tellLaw_171 : decode cX12_tellLaw 171 = .ok (.getfield 73, 3) := by decide +kernel
theorem dX12_tellLaw_174 : decode cX12_tellLaw 174 = .ok (.iconst 4, 1) := by decide +kernel
theorem dX12_tellLaw_175 : decode cX12_tellLaw 175 = .ok (.aload_n 0, 1) := by decide +kernel
theorem dX12_tellLaw_176 : decode cX12_tellLaw 176 = .ok (.getfield 224, 3) := by decide +kernel
theorem dX12_tellLaw_179 : decode cX12_tellLaw 179 = .ok (.imul, 1) := by decide +kernel
theorem dX12_tellLaw_180 : decode cX12_tellLaw 180 = .ok (.iload_n 1, 1) := by decide +kernel
theorem dX12_tellLaw_181 : decode cX12_tellLaw 181 = .ok (.iadd, 1) := by decide +kernel
theorem dX12_tellLaw_182 : decode cX12_tellLaw 182 = .ok (.aload_n 0, 1) := by decide +kernel
theorem dX12_tellLaw_183 : decode cX12_tellLaw 183 = .ok (.getfield 230, 3) := by decide +kernel
theorem dX12_tellLaw_186 : decode cX12_tellLaw 186 = .ok (.iastore, 1) := by decide +kernel
theorem dX12_tellLaw_187 : decode cX12_tellLaw 187 = .ok (.return_, 1) := by decide +kernel
