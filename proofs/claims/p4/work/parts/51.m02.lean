theorem dX12_heightNow_10 : decode cX12_heightNow 10 = .ok (.aload_n 0, 1) := by decide +kernel
theorem dX12_heightNow_11 : decode cX12_heightNow 11 = .ok (.getfield 110, 3) := by decide +kernel
theorem dX12_heightNow_14 : decode cX12_heightNow 14 = .ok (.bipush 28, 2) := by decide +kernel
theorem dX12_heightNow_16 : decode cX12_heightNow 16 = .ok (.iaload, 1) := by decide +kernel
theorem dX12_heightNow_17 : decode cX12_heightNow 17 = .ok (.ireturn, 1) := by decide +kernel
theorem dX12_heightNow_32 : decode cX12_heightNow 32 = .ok (.aload_n 0, 1) := by decide +kernel
theorem dX12_heightNow_33 : decode cX12_heightNow 33 = .ok (.aload_n 0, 1) := by decide +kernel
theorem dX12_heightNow_34 : decode cX12_heightNow 34 = .ok (.getfield 110, 3) := by decide +kernel
theorem dX12_heightNow_37 : decode cX12_heightNow 37 = .ok (.bipush 26, 2) := by decide +kernel
theorem dX12_heightNow_39 : decode cX12_heightNow 39 = .ok (.iaload, 1) := by decide +kernel
theorem dX12_heightNow_40 : decode cX12_heightNow 40 = .ok (.aload_n 0, 1) := by decide +kernel
theorem dX12_heightNow_41 : decode cX12_heightNow 41 = .ok (.getfield 110, 3) := by decide +kernel
theorem dX12_heightNow_44 : decode cX12_heightNow 44 = .ok (.bipush 21, 2) := by decide +kernel
theorem dX12_heightNow_46 : decode cX12_heightNow 46 = .ok (.iaload, 1) := by decide +kernel
theorem dX12_heightNow_47 : decode cX12_heightNow 47 = .ok (.aload_n 0, 1) := by decide +kernel
theorem dX12_heightNow_48 : decode cX12_heightNow 48 = .ok (.getfield 110, 3) := by decide +kernel
theorem dX12_heightNow_51 : decode cX12_heightNow 51 = .ok (.bipush 27, 2) := by decide +kernel
theorem dX12_heightNow_53 : decode cX12_heightNow 53 = .ok (.iaload, 1) := by decide +kernel
theorem dX12_heightNow_54 : decode cX12_heightNow 54 = .ok (.isub, 1) := by decide +kernel
theorem dX12_heightNow_55 : decode cX12_heightNow 55 = .ok (.invokevirtual 321, 3) := by decide +kernel
theorem dX12_looksAt_0 : decode cX12_looksAt 0 = .ok (.aload_n 0, 1) := by decide +kernel
theorem dX12_looksAt_1 : decode cX12_looksAt 1 = .ok (.getfield 101, 3) := by decide +kernel
theorem dX12_looksAt_4 : decode cX12_looksAt 4 = .ok (.iconst 0, 1) := by decide +kernel
theorem dX12_looksAt_5 : decode cX12_looksAt 5 = .ok (.aload_n 0, 1) := by decide +kernel
theorem dX12_looksAt_6 : decode cX12_looksAt 6 = .ok (.getfield 46, 3) := by decide +kernel
theorem dX12_looksAt_9 : decode cX12_looksAt 9 = .ok (.bipush 7, 2) := by decide +kernel
theorem dX12_looksAt_11 : decode cX12_looksAt 11 = .ok (.aload_n 0, 1) := by decide +kernel
theorem dX12_looksAt_12 : decode cX12_looksAt 12 = .ok (.getfield 221, 3) := by decide +kernel
theorem dX12_looksAt_15 : decode cX12_looksAt 15 = .ok (.imul, 1) := by decide +kernel
theorem dX12_looksAt_16 : decode cX12_looksAt 16 = .ok (.iload_n 1, 1) := by decide +kernel
theorem dX12_looksAt_17 : decode cX12_looksAt 17 = .ok (.iadd, 1) := by decide +kernel
theorem dX12_looksAt_18 : decode cX12_looksAt 18 = .ok (.iaload, 1) := by decide +kernel
theorem dX12_looksAt_19 : decode cX12_looksAt 19 = .ok (.iastore, 1) := by decide +kernel
theorem dX12_looksAt_20 : decode cX12_looksAt 20 = .ok (.aload_n 0, 1) := by decide +kernel
theorem dX12_looksAt_21 : decode cX12_looksAt 21 = .ok (.getfield 101, 3) := by decide +kernel
theorem dX12_looksAt_24 : decode cX12_looksAt 24 = .ok (.iconst 1, 1) := by decide +kernel
theorem dX12_looksAt_25 : decode cX12_looksAt 25 = .ok (.aload_n 0, 1) := by decide +kernel
theorem dX12_looksAt_26 : decode cX12_looksAt 26 = .ok (.getfield 49, 3) := by decide +kernel
theorem dX12_looksAt_29 : decode cX12_looksAt 29 = .ok (.bipush 7, 2) := by decide +kernel
theorem dX12_looksAt_31 : decode cX12_looksAt 31 = .ok (.aload_n 0, 1) := by decide +kernel
theorem dX12_looksAt_32 : decode cX12_looksAt 32 = .ok (.getfield 221, 3) := by decide +kernel
theorem dX12_looksAt_35 : decode cX12_looksAt 35 = .ok (.imul, 1) := by decide +kernel
theorem dX12_looksAt_36 : decode cX12_looksAt 36 = .ok (.iload_n 1, 1) := by decide +kernel
theorem dX12_looksAt_37 : decode cX12_looksAt 37 = .ok (.iadd, 1) := by decide +kernel
theorem dX12_looksAt_38 : decode cX12_looksAt 38 = .ok (.iaload, 1) := by decide +kernel
theorem dX12_looksAt_39 : decode cX12_looksAt 39 = .ok (.iastore, 1) := by decide +kernel
theorem dX12_looksAt_40 : decode cX12_looksAt 40 = .ok (.aload_n 0, 1) := by decide +kernel
theorem dX12_looksAt_41 : decode cX12_looksAt 41 = .ok (.getfield 101, 3) := by decide +kernel
theorem dX12_looksAt_44 : decode cX12_looksAt 44 = .ok (.iconst 2, 1) := by decide +kernel
theorem dX12_looksAt_45 : decode cX12_looksAt 45 = .ok (.iload_n 2, 1) := by decide +kernel
theorem dX12_looksAt_46 : decode cX12_looksAt 46 = .ok (.iastore, 1) := by decide +kernel
theorem dX12_looksAt_47 : decode cX12_looksAt 47 = .ok (.aload_n 0, 1) := by decide +kernel
theorem dX12_looksAt_48 : decode cX12_looksAt 48 = .ok (.getfield 101, 3) := by decide +kernel
theorem dX12_looksAt_51 : decode cX12_looksAt 51 = .ok (.iconst 3, 1) := by decide +kernel
theorem dX12_looksAt_52 : decode cX12_looksAt 52 = .ok (.aload_n 0, 1) := by decide +kernel
theorem dX12_looksAt_53 : decode cX12_looksAt 53 = .ok (.getfield 110, 3) := by decide +kernel
theorem dX12_looksAt_56 : decode cX12_looksAt 56 = .ok (.bipush 21, 2) := by decide +kernel
theorem dX12_looksAt_58 : decode cX12_looksAt 58 = .ok (.iaload, 1) := by decide +kernel
theorem dX12_looksAt_59 : decode cX12_looksAt 59 = .ok (.iastore, 1) := by decide +kernel
theorem dX12_looksAt_60 : decode cX12_looksAt 60 = .ok (.aload_n 0, 1) := by decide +kernel
theorem dX12_looksAt_61 : decode cX12_looksAt 61 = .ok (.getfield 101, 3) := by decide +kernel
theorem dX12_looksAt_64 : decode cX12_looksAt 64 = .ok (.iconst 4, 1) := by decide +kernel
theorem dX12_looksAt_65 : decode cX12_looksAt 65 = .ok (.aload_n 0, 1) := by decide +kernel
theorem dX12_looksAt_66 : decode cX12_looksAt 66 = .ok (.getfield 110, 3) := by decide +kernel
theorem dX12_looksAt_69 : decode cX12_looksAt 69 = .ok (.bipush 22, 2) := by decide +kernel
theorem dX12_looksAt_71 : decode cX12_looksAt 71 = .ok (.iaload, 1) := by decide +kernel
theorem dX12_looksAt_72 : decode cX12_looksAt 72 = .ok (.iastore, 1) := by decide +kernel
theorem dX12_looksAt_73 : decode cX12_looksAt 73 = .ok (.aload_n 0, 1) := by decide +kernel
theorem dX12_looksAt_74 : decode cX12_looksAt 74 = .ok (.getfield 101, 3) := by decide +kernel
theorem dX12_looksAt_77 : decode cX12_looksAt 77 = .ok (.iconst 5, 1) := by decide +kernel
theorem dX12_looksAt_78 : decode cX12_looksAt 78 = .ok (.iload_n 3, 1) := by decide +kernel
theorem dX12_looksAt_79 : decode cX12_looksAt 79 = .ok (.iastore, 1) := by decide +kernel
theorem dX12_looksAt_80 : decode cX12_looksAt 80 = .ok (.aload_n 0, 1) := by decide +kernel
theorem dX12_looksAt_81 : decode cX12_looksAt 81 = .ok (.getfield 101, 3) := by decide +kernel
theorem dX12_looksAt_84 : decode cX12_looksAt 84 = .ok (.bipush 6, 2) := by decide +kernel
theorem dX12_looksAt_86 : decode cX12_looksAt 86 = .ok (.iload_n 1, 1) := by decide +kernel
theorem dX12_looksAt_87 : decode cX12_looksAt 87 = .ok (.iastore, 1) := by decide +kernel
theorem dX12_looksAt_88 : decode cX12_looksAt 88 = .ok (.aload_n 0, 1) := by decide +kernel
theorem dX12_looksAt_89 : decode cX12_looksAt 89 = .ok (.getfield 101, 3) := by decide +kernel
theorem dX12_looksAt_92 : decode cX12_looksAt 92 = .ok (.bipush 7, 2) := by decide +kernel
theorem dX12_looksAt_94 : decode cX12_looksAt 94 = .ok (.aload_n 0, 1) := by decide +kernel
theorem dX12_looksAt_95 : decode cX12_looksAt 95 = .ok (.getfield 110, 3) := by decide +kernel
theorem dX12_looksAt_98 : decode cX12_looksAt 98 = .ok (.bipush 24, 2) := by decide +kernel
theorem dX12_looksAt_100 : decode cX12_looksAt 100 = .ok (.iaload, 1) := by decide +kernel
theorem dX12_looksAt_101 : decode cX12_looksAt 101 = .ok (.iastore, 1) := by decide +kernel
theorem dX12_looksAt_102 : decode cX12_looksAt 102 = .ok (.aload_n 0, 1) := by decide +kernel
theorem dX12_looksAt_103 : decode cX12_looksAt 103 = .ok (.getfield 101, 3) := by decide +kernel
theorem dX12_looksAt_106 : decode cX12_looksAt 106 = .ok (.bipush 8, 2) := by decide +kernel
theorem dX12_looksAt_108 : decode cX12_looksAt 108 = .ok (.aload_n 0, 1) := by decide +kernel
theorem dX12_looksAt_109 : decode cX12_looksAt 109 = .ok (.getfield 110, 3) := by decide +kernel
theorem dX12_looksAt_112 : decode cX12_looksAt 112 = .ok (.bipush 21, 2) := by decide +kernel
theorem dX12_looksAt_114 : decode cX12_looksAt 114 = .ok (.iaload, 1) := by decide +kernel
theorem dX12_looksAt_115 : decode cX12_looksAt 115 = .ok (.iconst 2, 1) := by decide +kernel
theorem dX12_looksAt_116 : decode cX12_looksAt 116 = .ok (.irem, 1) := by decide +kernel
theorem dX12_looksAt_117 : decode cX12_looksAt 117 = .ok (.iastore, 1) := by decide +kernel
theorem dX12_looksAt_118 : decode cX12_looksAt 118 = .ok (.return_, 1) := by decide +kernel
theorem dX12_termOf_0 : decode cX12_termOf 0 = .ok (.iconst 0, 1) := by decide +kernel
theorem dX12_termOf_1 : decode cX12_termOf 1 = .ok (.istore_n 3, 1) := by decide +kernel
theorem dX12_termOf_2 : decode cX12_termOf 2 = .ok (.iload_n 1, 1) := by decide +kernel
theorem dX12_termOf_3 : decode cX12_termOf 3 = .ok (.istore 4, 2) := by decide +kernel
theorem dX12_termOf_5 : decode cX12_termOf 5 = .ok (.iload 4, 2) := by decide +kernel
theorem dX12_termOf_7 : decode cX12_termOf 7 = .ok (.iload_n 2, 1) := by decide +kernel
theorem dX12_termOf_8 : decode cX12_termOf 8 = .ok (.if_icmp .ge 157, 3) := by decide +kernel
theorem dX12_termOf_11 : decode cX12_termOf 11 = .ok (.aload_n 0, 1) := by decide +kernel
theorem dX12_termOf_12 : decode cX12_termOf 12 = .ok (.getfield 92, 3) := by decide +kernel
theorem dX12_termOf_15 : decode cX12_termOf 15 = .ok (.iload 4, 2) := by decide +kernel
theorem dX12_termOf_17 : decode cX12_termOf 17 = .ok (.iaload, 1) := by decide +kernel
theorem dX12_termOf_18 : decode cX12_termOf 18 = .ok (.istore 5, 2) := by decide +kernel
theorem dX12_termOf_20 : decode cX12_termOf 20 = .ok (.iload 5, 2) := by decide +kernel
theorem dX12_termOf_22 : decode cX12_termOf 22 = .ok (.iconst 2, 1) := by decide +kernel
theorem dX12_termOf_23 : decode cX12_termOf 23 = .ok (.if_icmp .ge 42, 3) := by decide +kernel
theorem dX12_termOf_26 : decode cX12_termOf 26 = .ok (.aload_n 0, 1) := by decide +kernel
theorem dX12_termOf_27 : decode cX12_termOf 27 = .ok (.getfield 104, 3) := by decide +kernel
theorem dX12_termOf_30 : decode cX12_termOf 30 = .ok (.iload_n 3, 1) := by decide +kernel
theorem dX12_termOf_31 : decode cX12_termOf 31 = .ok (.iload 5, 2) := by decide +kernel
theorem dX12_termOf_33 : decode cX12_termOf 33 = .ok (.ifCond .ne 13, 3) := by decide +kernel
theorem dX12_termOf_36 : decode cX12_termOf 36 = .ok (.aload_n 0, 1) := by decide +kernel
theorem dX12_termOf_37 : decode cX12_termOf 37 = .ok (.getfield 95, 3) := by decide +kernel
theorem dX12_termOf_40 : decode cX12_termOf 40 = .ok (.iload 4, 2) := by decide +kernel
theorem dX12_termOf_42 : decode cX12_termOf 42 = .ok (.iaload, 1) := by decide +kernel
theorem dX12_termOf_43 : decode cX12_termOf 43 = .ok (.goto 15, 3) := by decide +kernel
theorem dX12_termOf_46 : decode cX12_termOf 46 = .ok (.aload_n 0, 1) := by decide +kernel
theorem dX12_termOf_47 : decode cX12_termOf 47 = .ok (.getfield 101, 3) := by decide +kernel
theorem dX12_termOf_50 : decode cX12_termOf 50 = .ok (.aload_n 0, 1) := by decide +kernel
theorem dX12_termOf_51 : decode cX12_termOf 51 = .ok (.getfield 95, 3) := by decide +kernel
theorem dX12_termOf_54 : decode cX12_termOf 54 = .ok (.iload 4, 2) := by decide +kernel
theorem dX12_termOf_56 : decode cX12_termOf 56 = .ok (.iaload, 1) := by decide +kernel
theorem dX12_termOf_57 : decode cX12_termOf 57 = .ok (.iaload, 1) := by decide +kernel
theorem dX12_termOf_58 : decode cX12_termOf 58 = .ok (.iastore, 1) := by decide +kernel
theorem dX12_termOf_59 : decode cX12_termOf 59 = .ok (.iinc 3 1, 3) := by decide +kernel
theorem dX12_termOf_62 : decode cX12_termOf 62 = .ok (.goto 97, 3) := by decide +kernel
theorem dX12_termOf_65 : decode cX12_termOf 65 = .ok (.iinc 3 (-1), 3) := by decide +kernel
theorem dX12_termOf_68 : decode cX12_termOf 68 = .ok (.aload_n 0, 1) := by decide +kernel
theorem dX12_termOf_69 : decode cX12_termOf 69 = .ok (.getfield 104, 3) := by decide +kernel
theorem dX12_termOf_72 : decode cX12_termOf 72 = .ok (.iload_n 3, 1) := by decide +kernel
theorem dX12_termOf_73 : decode cX12_termOf 73 = .ok (.iconst 1, 1) := by decide +kernel
theorem dX12_termOf_74 : decode cX12_termOf 74 = .ok (.isub, 1) := by decide +kernel
theorem dX12_termOf_75 : decode cX12_termOf 75 = .ok (.iaload, 1) := by decide +kernel
theorem dX12_termOf_76 : decode cX12_termOf 76 = .ok (.istore 6, 2) := by decide +kernel
theorem dX12_termOf_78 : decode cX12_termOf 78 = .ok (.aload_n 0, 1) := by decide +kernel
theorem dX12_termOf_79 : decode cX12_termOf 79 = .ok (.getfield 104, 3) := by decide +kernel
theorem dX12_termOf_82 : decode cX12_termOf 82 = .ok (.iload_n 3, 1) := by decide +kernel
theorem dX12_termOf_83 : decode cX12_termOf 83 = .ok (.iaload, 1) := by decide +kernel
theorem dX12_termOf_84 : decode cX12_termOf 84 = .ok (.istore 7, 2) := by decide +kernel
theorem dX12_termOf_86 : decode cX12_termOf 86 = .ok (.iload 5, 2) := by decide +kernel
theorem dX12_termOf_88 : decode cX12_termOf 88 = .ok (.iconst 5, 1) := by decide +kernel
theorem dX12_termOf_89 : decode cX12_termOf 89 = .ok (.if_icmp .ne 15, 3) := by decide +kernel
theorem dX12_termOf_92 : decode cX12_termOf 92 = .ok (.iload 7, 2) := by decide +kernel
theorem dX12_termOf_94 : decode cX12_termOf 94 = .ok (.ifCond .ne 10, 3) := by decide +kernel
theorem dX12_termOf_97 : decode cX12_termOf 97 = .ok (.aload_n 0, 1) := by decide +kernel
theorem dX12_termOf_98 : decode cX12_termOf 98 = .ok (.iconst 1, 1) := by decide +kernel
theorem dX12_termOf_99 : decode cX12_termOf 99 = .ok (.putfield 297, 3) := by decide +kernel
theorem dX12_termOf_102 : decode cX12_termOf 102 = .ok (.iconst 0, 1) := by decide +kernel
theorem dX12_termOf_103 : decode cX12_termOf 103 = .ok (.ireturn, 1) := by decide +kernel
theorem dX12_termOf_104 : decode cX12_termOf 104 = .ok (.aload_n 0, 1) := by decide +kernel
theorem dX12_termOf_105 : decode cX12_termOf 105 = .ok (.getfield 104, 3) := by decide +kernel
theorem dX12_termOf_108 : decode cX12_termOf 108 = .ok (.iload_n 3, 1) := by decide +kernel
theorem dX12_termOf_109 : decode cX12_termOf 109 = .ok (.iconst 1, 1) := by decide +kernel
theorem dX12_termOf_110 : decode cX12_termOf 110 = .ok (.isub, 1) := by decide +kernel
theorem dX12_termOf_111 : decode cX12_termOf 111 = .ok (.iload 5, 2) := by decide +kernel
theorem dX12_termOf_113 : decode cX12_termOf 113 = .ok (.iconst 2, 1) := by decide +kernel
theorem dX12_termOf_114 : decode cX12_termOf 114 = .ok (.if_icmp .ne 11, 3) := by decide +kernel
theorem dX12_termOf_117 : decode cX12_termOf 117 = .ok (.iload 6, 2) := by decide +kernel
theorem dX12_termOf_119 : decode cX12_termOf 119 = .ok (.iload 7, 2) := by decide +kernel
theorem dX12_termOf_121 : decode cX12_termOf 121 = .ok (.iadd, 1) := by decide +kernel
theorem dX12_termOf_122 : decode cX12_termOf 122 = .ok (.goto 36, 3) := by decide +kernel
theorem dX12_termOf_125 : decode cX12_termOf 125 = .ok (.iload 5, 2) := by decide +kernel
theorem dX12_termOf_127 : decode cX12_termOf 127 = .ok (.iconst 3, 1) := by decide +kernel
theorem dX12_termOf_128 : decode cX12_termOf 128 = .ok (.if_icmp .ne 11, 3) := by decide +kernel
theorem dX12_termOf_131 : decode cX12_termOf 131 = .ok (.iload 6, 2) := by decide +kernel
theorem dX12_termOf_133 : decode cX12_termOf 133 = .ok (.iload 7, 2) := by decide +kernel
theorem dX12_termOf_135 : decode cX12_termOf 135 = .ok (.isub, 1) := by decide +kernel
theorem dX12_termOf_136 : decode cX12_termOf 136 = .ok (.goto 22, 3) := by decide +kernel
theorem dX12_termOf_139 : decode cX12_termOf 139 = .ok (.iload 5, 2) := by decide +kernel
theorem dX12_termOf_141 : decode cX12_termOf 141 = .ok (.iconst 4, 1) := by decide +kernel
theorem dX12_termOf_142 : decode cX12_termOf 142 = .ok (.if_icmp .ne 11, 3) := by decide +kernel
theorem dX12_termOf_145 : decode cX12_termOf 145 = .ok (.iload 6, 2) := by decide +kernel
theorem dX12_termOf_147 : decode cX12_termOf 147 = .ok (.iload 7, 2) := by decide +kernel
theorem dX12_termOf_149 : decode cX12_termOf 149 = .ok (.imul, 1) := by decide +kernel
theorem dX12_termOf_150 : decode cX12_termOf 150 = .ok (.goto 8, 3) := by decide +kernel
theorem dX12_termOf_153 : decode cX12_termOf 153 = .ok (.iload 6, 2) := by decide +kernel
theorem dX12_termOf_155 : decode cX12_termOf 155 = .ok (.iload 7, 2) := by decide +kernel
theorem dX12_termOf_157 : decode cX12_termOf 157 = .ok (.idiv, 1) := by decide +kernel
theorem dX12_termOf_158 : decode cX12_termOf 158 = .ok (.iastore, 1) := by decide +kernel
theorem dX12_termOf_159 : decode cX12_termOf 159 = .ok (.iinc 4 1, 3) := by decide +kernel
theorem dX12_termOf_162 : decode cX12_termOf 162 = .ok (.goto (-157), 3) := by decide +kernel
theorem dX12_termOf_165 : decode cX12_termOf 165 = .ok (.aload_n 0, 1) := by decide +kernel
theorem dX12_termOf_166 : decode cX12_termOf 166 = .ok (.getfield 104, 3) := by decide +kernel
theorem dX12_termOf_169 : decode cX12_termOf 169 = .ok (.iconst 0, 1) := by decide +kernel
theorem dX12_termOf_170 : decode cX12_termOf 170 = .ok (.iaload, 1) := by decide +kernel
theorem dX12_termOf_171 : decode cX12_termOf 171 = .ok (.ireturn, 1) := by decide +kernel
theorem dX12_lawTells_0 : decode cX12_lawTells 0 = .ok (.iconst 4, 1) := by decide +kernel
theorem dX12_lawTells_1 : decode cX12_lawTells 1 = .ok (.aload_n 0, 1) := by decide +kernel
theorem dX12_lawTells_2 : decode cX12_lawTells 2 = .ok (.getfield 221, 3) := by decide +kernel
theorem dX12_lawTells_5 : decode cX12_lawTells 5 = .ok (.imul, 1) := by decide +kernel
theorem dX12_lawTells_6 : decode cX12_lawTells 6 = .ok (.iload_n 1, 1) := by decide +kernel
theorem dX12_lawTells_7 : decode cX12_lawTells 7 = .ok (.iadd, 1) := by decide +kernel
theorem dX12_lawTells_8 : decode cX12_lawTells 8 = .ok (.istore_n 3, 1) := by decide +kernel
theorem dX12_lawTells_9 : decode cX12_lawTells 9 = .ok (.aload_n 0, 1) := by decide +kernel
theorem dX12_lawTells_10 : decode cX12_lawTells 10 = .ok (.getfield 70, 3) := by decide +kernel
theorem dX12_lawTells_13 : decode cX12_lawTells 13 = .ok (.iload_n 3, 1) := by decide +kernel
theorem dX12_lawTells_14 : decode cX12_lawTells 14 = .ok (.iaload, 1) := by decide +kernel
theorem dX12_lawTells_15 : decode cX12_lawTells 15 = .ok (.aload_n 0, 1) := by decide +kernel
theorem dX12_lawTells_16 : decode cX12_lawTells 16 = .ok (.getfield 73, 3) := by decide +kernel
theorem dX12_lawTells_19 : decode cX12_lawTells 19 = .ok (.iload_n 3, 1) := by decide +kernel
theorem dX12_lawTells_20 : decode cX12_lawTells 20 = .ok (.iaload, 1) := by decide +kernel
theorem dX12_lawTells_21 : decode cX12_lawTells 21 = .ok (.if_icmp .ne 5, 3) := by decide +kernel
theorem dX12_lawTells_24 : decode cX12_lawTells 24 = .ok (.iload_n 2, 1) := by decide +kernel
theorem dX12_lawTells_25 : decode cX12_lawTells 25 = .ok (.ireturn, 1) := by decide +kernel
theorem dX12_lawTells_26 : decode cX12_lawTells 26 = .ok (.aload_n 0, 1) := by decide +kernel
theorem dX12_lawTells_27 : decode cX12_lawTells 27 = .ok (.iconst 0, 1) := by decide +kernel
theorem dX12_lawTells_28 : decode cX12_lawTells 28 = .ok (.putfield 297, 3) := by decide +kernel
theorem dX12_lawTells_31 : decode cX12_lawTells 31 = .ok (.aload_n 0, 1) := by decide +kernel
theorem dX12_lawTells_32 : decode cX12_lawTells 32 = .ok (.getfield 70, 3) := by decide +kernel
theorem dX12_lawTells_35 : decode cX12_lawTells 35 = .ok (.iload_n 3, 1) := by decide +kernel
theorem dX12_lawTells_36 : decode cX12_lawTells 36 = .ok (.iaload, 1) := by decide +kernel
theorem dX12_lawTells_37 : decode cX12_lawTells 37 = .ok (.istore 4, 2) := by decide +kernel
theorem dX12_lawTells_39 : decode cX12_lawTells 39 = .ok (.iload 4, 2) := by decide +kernel
theorem dX12_lawTells_41 : decode cX12_lawTells 41 = .ok (.aload_n 0, 1) := by decide +kernel
theorem dX12_lawTells_42 : decode cX12_lawTells 42 = .ok (.getfield 73, 3) := by decide +kernel
theorem dX12_lawTells_45 : decode cX12_lawTells 45 = .ok (.iload_n 3, 1) := by decide +kernel
theorem dX12_lawTells_46 : decode cX12_lawTells 46 = .ok (.iaload, 1) := by decide +kernel
theorem dX12_lawTells_47 : decode cX12_lawTells 47 = .ok (.if_icmp .ge 112, 3) := by decide +kernel
theorem dX12_lawTells_50 : decode cX12_lawTells 50 = .ok (.aload_n 0, 1) := by decide +kernel
theorem dX12_lawTells_51 : decode cX12_lawTells 51 = .ok (.getfield 76, 3) := by decide +kernel
theorem dX12_lawTells_54 : decode cX12_lawTells 54 = .ok (.iload 4, 2) := by decide +kernel
theorem dX12_lawTells_56 : decode cX12_lawTells 56 = .ok (.baload, 1) := by decide +kernel
theorem dX12_lawTells_57 : decode cX12_lawTells 57 = .ok (.ifCond .eq 62, 3) := by decide +kernel
theorem dX12_lawTells_60 : decode cX12_lawTells 60 = .ok (.aload_n 0, 1) := by decide +kernel
theorem dX12_lawTells_61 : decode cX12_lawTells 61 = .ok (.aload_n 0, 1) := by decide +kernel
theorem dX12_lawTells_62 : decode cX12_lawTells 62 = .ok (.getfield 80, 3) := by decide +kernel
theorem dX12_lawTells_65 : decode cX12_lawTells 65 = .ok (.iload 4, 2) := by decide +kernel
theorem dX12_lawTells_67 : decode cX12_lawTells 67 = .ok (.iaload, 1) := by decide +kernel
theorem dX12_lawTells_68 : decode cX12_lawTells 68 = .ok (.aload_n 0, 1) := by decide +kernel
theorem dX12_lawTells_69 : decode cX12_lawTells 69 = .ok (.getfield 83, 3) := by decide +kernel
theorem dX12_lawTells_72 : decode cX12_lawTells 72 = .ok (.iload 4, 2) := by decide +kernel
theorem dX12_lawTells_74 : decode cX12_lawTells 74 = .ok (.iaload, 1) := by decide +kernel
theorem dX12_lawTells_75 : decode cX12_lawTells 75 = .ok (.invokevirtual 328, 3) := by decide +kernel
theorem dX12_lawTells_78 : decode cX12_lawTells 78 = .ok (.istore 5, 2) := by decide +kernel
theorem dX12_lawTells_80 : decode cX12_lawTells 80 = .ok (.aload_n 0, 1) := by decide +kernel
theorem dX12_lawTells_81 : decode cX12_lawTells 81 = .ok (.aload_n 0, 1) := by decide +kernel
theorem dX12_lawTells_82 : decode cX12_lawTells 82 = .ok (.getfield 83, 3) := by decide +kernel
theorem dX12_lawTells_85 : decode cX12_lawTells 85 = .ok (.iload 4, 2) := by decide +kernel
theorem dX12_lawTells_87 : decode cX12_lawTells 87 = .ok (.iaload, 1) := by decide +kernel
theorem dX12_lawTells_88 : decode cX12_lawTells 88 = .ok (.aload_n 0, 1) := by decide +kernel
theorem dX12_lawTells_89 : decode cX12_lawTells 89 = .ok (.getfield 86, 3) := by decide +kernel
theorem dX12_lawTells_92 : decode cX12_lawTells 92 = .ok (.iload 4, 2) := by decide +kernel
theorem dX12_lawTells_94 : decode cX12_lawTells 94 = .ok (.iaload, 1) := by decide +kernel
theorem dX12_lawTells_95 : decode cX12_lawTells 95 = .ok (.invokevirtual 328, 3) := by decide +kernel
theorem dX12_lawTells_98 : decode cX12_lawTells 98 = .ok (.istore 6, 2) := by decide +kernel
theorem dX12_lawTells_100 : decode cX12_lawTells 100 = .ok (.aload_n 0, 1) := by decide +kernel
theorem dX12_lawTells_101 : decode cX12_lawTells 101 = .ok (.getfield 297, 3) := by decide +kernel
theorem dX12_lawTells_104 : decode cX12_lawTells 104 = .ok (.ifCond .eq 5, 3) := by decide +kernel
theorem dX12_lawTells_107 : decode cX12_lawTells 107 = .ok (.iconst 0, 1) := by decide +kernel
theorem dX12_lawTells_108 : decode cX12_lawTells 108 = .ok (.ireturn, 1) := by decide +kernel
theorem dX12_lawTells_109 : decode cX12_lawTells 109 = .ok (.iload 5, 2) := by decide +kernel
theorem dX12_lawTells_111 : decode cX12_lawTells 111 = .ok (.iload 6, 2) := by decide +kernel
theorem dX12_lawTells_113 : decode cX12_lawTells 113 = .ok (.if_icmp .lt 6, 3) := by decide +kernel
theorem dX12_lawTells_116 : decode cX12_lawTells 116 = .ok (.goto 37, 3) := by decide +kernel
theorem dX12_lawTells_119 : decode cX12_lawTells 119 = .ok (.aload_n 0, 1) := by decide +kernel
theorem dX12_lawTells_120 : decode cX12_lawTells 120 = .ok (.aload_n 0, 1) := by decide +kernel
theorem dX12_lawTells_121 : decode cX12_lawTells 121 = .ok (.getfield 86, 3) := by decide +kernel
theorem dX12_lawTells_124 : decode cX12_lawTells 124 = .ok (.iload 4, 2) := by decide +kernel
theorem dX12_lawTells_126 : decode cX12_lawTells 126 = .ok (.iaload, 1) := by decide +kernel
theorem dX12_lawTells_127 : decode cX12_lawTells 127 = .ok (.aload_n 0, 1) := by decide +kernel
theorem dX12_lawTells_128 : decode cX12_lawTells 128 = .ok (.getfield 89, 3) := by decide +kernel
theorem dX12_lawTells_131 : decode cX12_lawTells 131 = .ok (.iload 4, 2) := by decide +kernel
theorem dX12_lawTells_133 : decode cX12_lawTells 133 = .ok (.iaload, 1) := by decide +kernel
theorem dX12_lawTells_134 : decode cX12_lawTells 134 = .ok (.invokevirtual 328, 3) := by decide +kernel
theorem dX12_lawTells_137 : decode cX12_lawTells 137 = .ok (.istore 5, 2) := by decide +kernel
theorem dX12_lawTells_139 : decode cX12_lawTells 139 = .ok (.aload_n 0, 1) := by decide +kernel
theorem dX12_lawTells_140 : decode cX12_lawTells 140 = .ok (.getfield 297, 3) := by decide +kernel
theorem dX12_lawTells_143 : decode cX12_lawTells 143 = .ok (.ifCond .eq 7, 3) := by decide +kernel
theorem dX12_lawTells_146 : decode cX12_lawTells 146 = .ok (.iconst 0, 1) := by decide +kernel
theorem dX12_lawTells_147 : decode cX12_lawTells 147 = .ok (.goto 5, 3) := by decide +kernel
theorem dX12_lawTells_150 : decode cX12_lawTells 150 = .ok (.iload 5, 2) := by decide +kernel
theorem dX12_lawTells_152 : decode cX12_lawTells 152 = .ok (.ireturn, 1) := by decide +kernel
theorem dX12_lawTells_153 : decode cX12_lawTells 153 = .ok (.iinc 4 1, 3) := by decide +kernel
theorem dX12_lawTells_156 : decode cX12_lawTells 156 = .ok (.goto (-117), 3) := by decide +kernel
theorem dX12_lawTells_159 : decode cX12_lawTells 159 = .ok (.iconst 0, 1) := by decide +kernel
theorem dX12_lawTells_160 : decode cX12_lawTells 160 = .ok (.ireturn, 1) := by decide +kernel
