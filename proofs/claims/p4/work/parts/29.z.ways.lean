/-! ways, class and reference -/
theorem dX11_ways_0 : decode cX11_ways 0 = .ok (.iload_n 1, 1) := by decide +kernel
theorem dX11_ways_1 : decode cX11_ways 1 = .ok (.iconst 1, 1) := by decide +kernel
theorem dX11_ways_2 : decode cX11_ways 2 = .ok (.if_icmp .lt 41, 3) := by decide +kernel
theorem dX11_ways_5 : decode cX11_ways 5 = .ok (.iload_n 1, 1) := by decide +kernel
theorem dX11_ways_6 : decode cX11_ways 6 = .ok (.iconst 5, 1) := by decide +kernel
theorem dX11_ways_7 : decode cX11_ways 7 = .ok (.if_icmp .gt 36, 3) := by decide +kernel
theorem dX11_ways_10 : decode cX11_ways 10 = .ok (.iload_n 2, 1) := by decide +kernel
theorem dX11_ways_11 : decode cX11_ways 11 = .ok (.iconst 1, 1) := by decide +kernel
theorem dX11_ways_12 : decode cX11_ways 12 = .ok (.if_icmp .lt 31, 3) := by decide +kernel
theorem dX11_ways_15 : decode cX11_ways 15 = .ok (.iload_n 2, 1) := by decide +kernel
theorem dX11_ways_16 : decode cX11_ways 16 = .ok (.bipush 7, 2) := by decide +kernel
theorem dX11_ways_18 : decode cX11_ways 18 = .ok (.if_icmp .gt 25, 3) := by decide +kernel
theorem dX11_ways_21 : decode cX11_ways 21 = .ok (.iload_n 3, 1) := by decide +kernel
theorem dX11_ways_22 : decode cX11_ways 22 = .ok (.ifCond .lt 21, 3) := by decide +kernel
theorem dX11_ways_25 : decode cX11_ways 25 = .ok (.iload_n 3, 1) := by decide +kernel
theorem dX11_ways_26 : decode cX11_ways 26 = .ok (.bipush 7, 2) := by decide +kernel
theorem dX11_ways_28 : decode cX11_ways 28 = .ok (.if_icmp .gt 15, 3) := by decide +kernel
theorem dX11_ways_31 : decode cX11_ways 31 = .ok (.iload 4, 2) := by decide +kernel
theorem dX11_ways_33 : decode cX11_ways 33 = .ok (.iconst (-1), 1) := by decide +kernel
theorem dX11_ways_34 : decode cX11_ways 34 = .ok (.if_icmp .lt 9, 3) := by decide +kernel
theorem dX11_ways_37 : decode cX11_ways 37 = .ok (.iload 4, 2) := by decide +kernel
theorem dX11_ways_39 : decode cX11_ways 39 = .ok (.iload_n 1, 1) := by decide +kernel
theorem dX11_ways_40 : decode cX11_ways 40 = .ok (.if_icmp .lt 5, 3) := by decide +kernel
theorem dX11_ways_43 : decode cX11_ways 43 = .ok (.iconst (-1), 1) := by decide +kernel
theorem dX11_ways_44 : decode cX11_ways 44 = .ok (.ireturn, 1) := by decide +kernel
theorem dX11_ways_45 : decode cX11_ways 45 = .ok (.aload_n 0, 1) := by decide +kernel
theorem dX11_ways_46 : decode cX11_ways 46 = .ok (.getfield 47, 3) := by decide +kernel
theorem dX11_ways_49 : decode cX11_ways 49 = .ok (.iload_n 1, 1) := by decide +kernel
theorem dX11_ways_50 : decode cX11_ways 50 = .ok (.iload_n 2, 1) := by decide +kernel
theorem dX11_ways_51 : decode cX11_ways 51 = .ok (.iload_n 3, 1) := by decide +kernel
theorem dX11_ways_52 : decode cX11_ways 52 = .ok (.invokevirtual 266, 3) := by decide +kernel
theorem dX11_ways_55 : decode cX11_ways 55 = .ok (.iload 4, 2) := by decide +kernel
theorem dX11_ways_57 : decode cX11_ways 57 = .ok (.iconst (-1), 1) := by decide +kernel
theorem dX11_ways_58 : decode cX11_ways 58 = .ok (.if_icmp .ne 11, 3) := by decide +kernel
theorem dX11_ways_61 : decode cX11_ways 61 = .ok (.aload_n 0, 1) := by decide +kernel
theorem dX11_ways_62 : decode cX11_ways 62 = .ok (.getfield 47, 3) := by decide +kernel
theorem dX11_ways_65 : decode cX11_ways 65 = .ok (.getfield 270, 3) := by decide +kernel
theorem dX11_ways_68 : decode cX11_ways 68 = .ok (.ireturn, 1) := by decide +kernel
theorem dX11_ways_69 : decode cX11_ways 69 = .ok (.aload_n 0, 1) := by decide +kernel
theorem dX11_ways_70 : decode cX11_ways 70 = .ok (.getfield 47, 3) := by decide +kernel
theorem dX11_ways_73 : decode cX11_ways 73 = .ok (.getfield 270, 3) := by decide +kernel
theorem dX11_ways_76 : decode cX11_ways 76 = .ok (.ifCond .ne 8, 3) := by decide +kernel
theorem dX11_ways_79 : decode cX11_ways 79 = .ok (.bipush (-2), 2) := by decide +kernel
theorem dX11_ways_81 : decode cX11_ways 81 = .ok (.goto 13, 3) := by decide +kernel
theorem dX11_ways_84 : decode cX11_ways 84 = .ok (.aload_n 0, 1) := by decide +kernel
theorem dX11_ways_85 : decode cX11_ways 85 = .ok (.getfield 47, 3) := by decide +kernel
theorem dX11_ways_88 : decode cX11_ways 88 = .ok (.getfield 273, 3) := by decide +kernel
theorem dX11_ways_91 : decode cX11_ways 91 = .ok (.iload 4, 2) := by decide +kernel
theorem dX11_ways_93 : decode cX11_ways 93 = .ok (.iaload, 1) := by decide +kernel
theorem dX11_ways_94 : decode cX11_ways 94 = .ok (.ireturn, 1) := by decide +kernel
theorem dX12_keeps_0 : decode cX12_keeps 0 = .ok (.iconst 0, 1) := by decide +kernel
theorem dX12_keeps_1 : decode cX12_keeps 1 = .ok (.istore_n 1, 1) := by decide +kernel
theorem dX12_keeps_2 : decode cX12_keeps 2 = .ok (.iconst 0, 1) := by decide +kernel
theorem dX12_keeps_3 : decode cX12_keeps 3 = .ok (.istore_n 2, 1) := by decide +kernel
theorem dX12_keeps_4 : decode cX12_keeps 4 = .ok (.iconst 0, 1) := by decide +kernel
theorem dX12_keeps_5 : decode cX12_keeps 5 = .ok (.istore_n 3, 1) := by decide +kernel
theorem dX12_keeps_6 : decode cX12_keeps 6 = .ok (.iload_n 3, 1) := by decide +kernel
theorem dX12_keeps_7 : decode cX12_keeps 7 = .ok (.aload_n 0, 1) := by decide +kernel
theorem dX12_keeps_8 : decode cX12_keeps 8 = .ok (.getfield 408, 3) := by decide +kernel
theorem dX12_keeps_11 : decode cX12_keeps 11 = .ok (.if_icmp .ge 53, 3) := by decide +kernel
theorem dX12_keeps_14 : decode cX12_keeps 14 = .ok (.iload_n 3, 1) := by decide +kernel
theorem dX12_keeps_15 : decode cX12_keeps 15 = .ok (.aload_n 0, 1) := by decide +kernel
theorem dX12_keeps_16 : decode cX12_keeps 16 = .ok (.getfield 116, 3) := by decide +kernel
theorem dX12_keeps_19 : decode cX12_keeps 19 = .ok (.iload_n 3, 1) := by decide +kernel
theorem dX12_keeps_20 : decode cX12_keeps 20 = .ok (.iaload, 1) := by decide +kernel
theorem dX12_keeps_21 : decode cX12_keeps 21 = .ok (.iadd, 1) := by decide +kernel
theorem dX12_keeps_22 : decode cX12_keeps 22 = .ok (.aload_n 0, 1) := by decide +kernel
theorem dX12_keeps_23 : decode cX12_keeps 23 = .ok (.getfield 408, 3) := by decide +kernel
theorem dX12_keeps_26 : decode cX12_keeps 26 = .ok (.irem, 1) := by decide +kernel
theorem dX12_keeps_27 : decode cX12_keeps 27 = .ok (.istore 4, 2) := by decide +kernel
theorem dX12_keeps_29 : decode cX12_keeps 29 = .ok (.iload_n 1, 1) := by decide +kernel
theorem dX12_keeps_30 : decode cX12_keeps 30 = .ok (.iload 4, 2) := by decide +kernel
theorem dX12_keeps_32 : decode cX12_keeps 32 = .ok (.ishr, 1) := by decide +kernel
theorem dX12_keeps_33 : decode cX12_keeps 33 = .ok (.iconst 1, 1) := by decide +kernel
theorem dX12_keeps_34 : decode cX12_keeps 34 = .ok (.iand, 1) := by decide +kernel
theorem dX12_keeps_35 : decode cX12_keeps 35 = .ok (.iconst 1, 1) := by decide +kernel
theorem dX12_keeps_36 : decode cX12_keeps 36 = .ok (.if_icmp .ne 6, 3) := by decide +kernel
theorem dX12_keeps_39 : decode cX12_keeps 39 = .ok (.bipush (-2), 2) := by decide +kernel
theorem dX12_keeps_41 : decode cX12_keeps 41 = .ok (.ireturn, 1) := by decide +kernel
theorem dX12_keeps_42 : decode cX12_keeps 42 = .ok (.iload_n 1, 1) := by decide +kernel
theorem dX12_keeps_43 : decode cX12_keeps 43 = .ok (.iconst 1, 1) := by decide +kernel
theorem dX12_keeps_44 : decode cX12_keeps 44 = .ok (.iload 4, 2) := by decide +kernel
theorem dX12_keeps_46 : decode cX12_keeps 46 = .ok (.ishl, 1) := by decide +kernel
theorem dX12_keeps_47 : decode cX12_keeps 47 = .ok (.ior, 1) := by decide +kernel
theorem dX12_keeps_48 : decode cX12_keeps 48 = .ok (.istore_n 1, 1) := by decide +kernel
theorem dX12_keeps_49 : decode cX12_keeps 49 = .ok (.iload_n 2, 1) := by decide +kernel
theorem dX12_keeps_50 : decode cX12_keeps 50 = .ok (.aload_n 0, 1) := by decide +kernel
theorem dX12_keeps_51 : decode cX12_keeps 51 = .ok (.getfield 116, 3) := by decide +kernel
theorem dX12_keeps_54 : decode cX12_keeps 54 = .ok (.iload_n 3, 1) := by decide +kernel
theorem dX12_keeps_55 : decode cX12_keeps 55 = .ok (.iaload, 1) := by decide +kernel
theorem dX12_keeps_56 : decode cX12_keeps 56 = .ok (.iadd, 1) := by decide +kernel
theorem dX12_keeps_57 : decode cX12_keeps 57 = .ok (.istore_n 2, 1) := by decide +kernel
theorem dX12_keeps_58 : decode cX12_keeps 58 = .ok (.iinc 3 1, 3) := by decide +kernel
theorem dX12_keeps_61 : decode cX12_keeps 61 = .ok (.goto (-55), 3) := by decide +kernel
theorem dX12_keeps_64 : decode cX12_keeps 64 = .ok (.iload_n 2, 1) := by decide +kernel
theorem dX12_keeps_65 : decode cX12_keeps 65 = .ok (.aload_n 0, 1) := by decide +kernel
theorem dX12_keeps_66 : decode cX12_keeps 66 = .ok (.getfield 408, 3) := by decide +kernel
theorem dX12_keeps_69 : decode cX12_keeps 69 = .ok (.idiv, 1) := by decide +kernel
theorem dX12_keeps_70 : decode cX12_keeps 70 = .ok (.ireturn, 1) := by decide +kernel
theorem dX12_ways_0 : decode cX12_ways 0 = .ok (.iload_n 1, 1) := by decide +kernel
theorem dX12_ways_1 : decode cX12_ways 1 = .ok (.iconst 1, 1) := by decide +kernel
theorem dX12_ways_2 : decode cX12_ways 2 = .ok (.iconst 5, 1) := by decide +kernel
theorem dX12_ways_3 : decode cX12_ways 3 = .ok (.invokestatic 301, 3) := by decide +kernel
theorem dX12_ways_6 : decode cX12_ways 6 = .ok (.ifCond .eq 35, 3) := by decide +kernel
theorem dX12_ways_9 : decode cX12_ways 9 = .ok (.iload_n 2, 1) := by decide +kernel
theorem dX12_ways_10 : decode cX12_ways 10 = .ok (.iconst 1, 1) := by decide +kernel
theorem dX12_ways_11 : decode cX12_ways 11 = .ok (.bipush 7, 2) := by decide +kernel
theorem dX12_ways_13 : decode cX12_ways 13 = .ok (.invokestatic 301, 3) := by decide +kernel
theorem dX12_ways_16 : decode cX12_ways 16 = .ok (.ifCond .eq 25, 3) := by decide +kernel
theorem dX12_ways_19 : decode cX12_ways 19 = .ok (.iload_n 3, 1) := by decide +kernel
theorem dX12_ways_20 : decode cX12_ways 20 = .ok (.iconst 0, 1) := by decide +kernel
theorem dX12_ways_21 : decode cX12_ways 21 = .ok (.bipush 7, 2) := by decide +kernel
theorem dX12_ways_23 : decode cX12_ways 23 = .ok (.invokestatic 301, 3) := by decide +kernel
theorem dX12_ways_26 : decode cX12_ways 26 = .ok (.ifCond .eq 15, 3) := by decide +kernel
theorem dX12_ways_29 : decode cX12_ways 29 = .ok (.iload 4, 2) := by decide +kernel
theorem dX12_ways_31 : decode cX12_ways 31 = .ok (.iconst (-1), 1) := by decide +kernel
theorem dX12_ways_32 : decode cX12_ways 32 = .ok (.iload_n 1, 1) := by decide +kernel
theorem dX12_ways_33 : decode cX12_ways 33 = .ok (.iconst 1, 1) := by decide +kernel
theorem dX12_ways_34 : decode cX12_ways 34 = .ok (.isub, 1) := by decide +kernel
theorem dX12_ways_35 : decode cX12_ways 35 = .ok (.invokestatic 301, 3) := by decide +kernel
theorem dX12_ways_38 : decode cX12_ways 38 = .ok (.ifCond .ne 5, 3) := by decide +kernel
theorem dX12_ways_41 : decode cX12_ways 41 = .ok (.iconst (-1), 1) := by decide +kernel
theorem dX12_ways_42 : decode cX12_ways 42 = .ok (.ireturn, 1) := by decide +kernel
theorem dX12_ways_43 : decode cX12_ways 43 = .ok (.iconst 1, 1) := by decide +kernel
theorem dX12_ways_44 : decode cX12_ways 44 = .ok (.istore 5, 2) := by decide +kernel
theorem dX12_ways_46 : decode cX12_ways 46 = .ok (.iconst 0, 1) := by decide +kernel
theorem dX12_ways_47 : decode cX12_ways 47 = .ok (.istore 6, 2) := by decide +kernel
theorem dX12_ways_49 : decode cX12_ways 49 = .ok (.iload 6, 2) := by decide +kernel
theorem dX12_ways_51 : decode cX12_ways 51 = .ok (.iload_n 1, 1) := by decide +kernel
theorem dX12_ways_52 : decode cX12_ways 52 = .ok (.if_icmp .ge 17, 3) := by decide +kernel
theorem dX12_ways_55 : decode cX12_ways 55 = .ok (.iload 5, 2) := by decide +kernel
theorem dX12_ways_57 : decode cX12_ways 57 = .ok (.iload_n 2, 1) := by decide +kernel
theorem dX12_ways_58 : decode cX12_ways 58 = .ok (.iconst 1, 1) := by decide +kernel
theorem dX12_ways_59 : decode cX12_ways 59 = .ok (.iadd, 1) := by decide +kernel
theorem dX12_ways_60 : decode cX12_ways 60 = .ok (.imul, 1) := by decide +kernel
theorem dX12_ways_61 : decode cX12_ways 61 = .ok (.istore 5, 2) := by decide +kernel
theorem dX12_ways_63 : decode cX12_ways 63 = .ok (.iinc 6 1, 3) := by decide +kernel
theorem dX12_ways_66 : decode cX12_ways 66 = .ok (.goto (-17), 3) := by decide +kernel
theorem dX12_ways_69 : decode cX12_ways 69 = .ok (.aload_n 0, 1) := by decide +kernel
theorem dX12_ways_70 : decode cX12_ways 70 = .ok (.iload_n 1, 1) := by decide +kernel
theorem dX12_ways_71 : decode cX12_ways 71 = .ok (.putfield 408, 3) := by decide +kernel
theorem dX12_ways_74 : decode cX12_ways 74 = .ok (.iconst 0, 1) := by decide +kernel
theorem dX12_ways_75 : decode cX12_ways 75 = .ok (.istore 6, 2) := by decide +kernel
theorem dX12_ways_77 : decode cX12_ways 77 = .ok (.iconst 0, 1) := by decide +kernel
theorem dX12_ways_78 : decode cX12_ways 78 = .ok (.istore 7, 2) := by decide +kernel
theorem dX12_ways_80 : decode cX12_ways 80 = .ok (.iload 7, 2) := by decide +kernel
theorem dX12_ways_82 : decode cX12_ways 82 = .ok (.iload 5, 2) := by decide +kernel
theorem dX12_ways_84 : decode cX12_ways 84 = .ok (.if_icmp .ge 77, 3) := by decide +kernel
theorem dX12_ways_87 : decode cX12_ways 87 = .ok (.iload 7, 2) := by decide +kernel
theorem dX12_ways_89 : decode cX12_ways 89 = .ok (.istore 8, 2) := by decide +kernel
theorem dX12_ways_91 : decode cX12_ways 91 = .ok (.iload_n 1, 1) := by decide +kernel
theorem dX12_ways_92 : decode cX12_ways 92 = .ok (.iconst 1, 1) := by decide +kernel
theorem dX12_ways_93 : decode cX12_ways 93 = .ok (.isub, 1) := by decide +kernel
theorem dX12_ways_94 : decode cX12_ways 94 = .ok (.istore 9, 2) := by decide +kernel
theorem dX12_ways_96 : decode cX12_ways 96 = .ok (.iload 9, 2) := by decide +kernel
theorem dX12_ways_98 : decode cX12_ways 98 = .ok (.ifCond .lt 30, 3) := by decide +kernel
theorem dX12_ways_101 : decode cX12_ways 101 = .ok (.aload_n 0, 1) := by decide +kernel
theorem dX12_ways_102 : decode cX12_ways 102 = .ok (.getfield 116, 3) := by decide +kernel
theorem dX12_ways_105 : decode cX12_ways 105 = .ok (.iload 9, 2) := by decide +kernel
theorem dX12_ways_107 : decode cX12_ways 107 = .ok (.iload 8, 2) := by decide +kernel
theorem dX12_ways_109 : decode cX12_ways 109 = .ok (.iload_n 2, 1) := by decide +kernel
theorem dX12_ways_110 : decode cX12_ways 110 = .ok (.iconst 1, 1) := by decide +kernel
theorem dX12_ways_111 : decode cX12_ways 111 = .ok (.iadd, 1) := by decide +kernel
theorem dX12_ways_112 : decode cX12_ways 112 = .ok (.irem, 1) := by decide +kernel
theorem dX12_ways_113 : decode cX12_ways 113 = .ok (.iastore, 1) := by decide +kernel
theorem dX12_ways_114 : decode cX12_ways 114 = .ok (.iload 8, 2) := by decide +kernel
theorem dX12_ways_116 : decode cX12_ways 116 = .ok (.iload_n 2, 1) := by decide +kernel
theorem dX12_ways_117 : decode cX12_ways 117 = .ok (.iconst 1, 1) := by decide +kernel
theorem dX12_ways_118 : decode cX12_ways 118 = .ok (.iadd, 1) := by decide +kernel
theorem dX12_ways_119 : decode cX12_ways 119 = .ok (.idiv, 1) := by decide +kernel
theorem dX12_ways_120 : decode cX12_ways 120 = .ok (.istore 8, 2) := by decide +kernel
theorem dX12_ways_122 : decode cX12_ways 122 = .ok (.iinc 9 (-1), 3) := by decide +kernel
theorem dX12_ways_125 : decode cX12_ways 125 = .ok (.goto (-29), 3) := by decide +kernel
theorem dX12_ways_128 : decode cX12_ways 128 = .ok (.aload_n 0, 1) := by decide +kernel
theorem dX12_ways_129 : decode cX12_ways 129 = .ok (.invokevirtual 414, 3) := by decide +kernel
theorem dX12_ways_132 : decode cX12_ways 132 = .ok (.iload_n 3, 1) := by decide +kernel
theorem dX12_ways_133 : decode cX12_ways 133 = .ok (.if_icmp .eq 6, 3) := by decide +kernel
theorem dX12_ways_136 : decode cX12_ways 136 = .ok (.goto 19, 3) := by decide +kernel
theorem dX12_ways_139 : decode cX12_ways 139 = .ok (.iload 4, 2) := by decide +kernel
theorem dX12_ways_141 : decode cX12_ways 141 = .ok (.ifCond .lt 11, 3) := by decide +kernel
theorem dX12_ways_144 : decode cX12_ways 144 = .ok (.aload_n 0, 1) := by decide +kernel
theorem dX12_ways_145 : decode cX12_ways 145 = .ok (.getfield 116, 3) := by decide +kernel
theorem dX12_ways_148 : decode cX12_ways 148 = .ok (.iload 4, 2) := by decide +kernel
theorem dX12_ways_150 : decode cX12_ways 150 = .ok (.iaload, 1) := by decide +kernel
theorem dX12_ways_151 : decode cX12_ways 151 = .ok (.ireturn, 1) := by decide +kernel
theorem dX12_ways_152 : decode cX12_ways 152 = .ok (.iinc 6 1, 3) := by decide +kernel
theorem dX12_ways_155 : decode cX12_ways 155 = .ok (.iinc 7 1, 3) := by decide +kernel
theorem dX12_ways_158 : decode cX12_ways 158 = .ok (.goto (-78), 3) := by decide +kernel
theorem dX12_ways_161 : decode cX12_ways 161 = .ok (.iload 4, 2) := by decide +kernel
theorem dX12_ways_163 : decode cX12_ways 163 = .ok (.iconst (-1), 1) := by decide +kernel
theorem dX12_ways_164 : decode cX12_ways 164 = .ok (.if_icmp .ne 8, 3) := by decide +kernel
theorem dX12_ways_167 : decode cX12_ways 167 = .ok (.iload 6, 2) := by decide +kernel
theorem dX12_ways_169 : decode cX12_ways 169 = .ok (.goto 5, 3) := by decide +kernel
theorem dX12_ways_172 : decode cX12_ways 172 = .ok (.bipush (-2), 2) := by decide +kernel
theorem dX12_ways_174 : decode cX12_ways 174 = .ok (.ireturn, 1) := by decide +kernel
