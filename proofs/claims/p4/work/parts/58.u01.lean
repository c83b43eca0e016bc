theorem dX12_tellPattern_0 : decode cX12_tellPattern 0 = .ok (.iconst 5, 1) := by decide +kernel
theorem dX12_tellPattern_1 : decode cX12_tellPattern 1 = .ok (.aload_n 0, 1) := by decide +kernel
theorem dX12_tellPattern_2 : decode cX12_tellPattern 2 = .ok (.getfield 224, 3) := by decide +kernel
theorem dX12_tellPattern_5 : decode cX12_tellPattern 5 = .ok (.imul, 1) := by decide +kernel
theorem dX12_tellPattern_6 : decode cX12_tellPattern 6 = .ok (.aload_n 0, 1) := by decide +kernel
theorem dX12_tellPattern_7 : decode cX12_tellPattern 7 = .ok (.getfield 55, 3) := by decide +kernel
theorem dX12_tellPattern_10 : decode cX12_tellPattern 10 = .ok (.aload_n 0, 1) := by decide +kernel
theorem dX12_tellPattern_11 : decode cX12_tellPattern 11 = .ok (.getfield 224, 3) := by decide +kernel
theorem dX12_tellPattern_14 : decode cX12_tellPattern 14 = .ok (.iaload, 1) := by decide +kernel
theorem dX12_tellPattern_15 : decode cX12_tellPattern 15 = .ok (.iadd, 1) := by decide +kernel
theorem dX12_tellPattern_16 : decode cX12_tellPattern 16 = .ok (.istore_n 1, 1) := by decide +kernel
theorem dX12_tellPattern_17 : decode cX12_tellPattern 17 = .ok (.aload_n 0, 1) := by decide +kernel
theorem dX12_tellPattern_18 : decode cX12_tellPattern 18 = .ok (.invokevirtual 271, 3) := by decide +kernel
theorem dX12_tellPattern_21 : decode cX12_tellPattern 21 = .ok (.istore_n 2, 1) := by decide +kernel
theorem dX12_tellPattern_22 : decode cX12_tellPattern 22 = .ok (.aload_n 0, 1) := by decide +kernel
theorem dX12_tellPattern_23 : decode cX12_tellPattern 23 = .ok (.getfield 61, 3) := by decide +kernel
theorem dX12_tellPattern_26 : decode cX12_tellPattern 26 = .ok (.bipush 8, 2) := by decide +kernel
theorem dX12_tellPattern_28 : decode cX12_tellPattern 28 = .ok (.iload_n 1, 1) := by decide +kernel
theorem dX12_tellPattern_29 : decode cX12_tellPattern 29 = .ok (.imul, 1) := by decide +kernel
theorem dX12_tellPattern_30 : decode cX12_tellPattern 30 = .ok (.aload_n 0, 1) := by decide +kernel
theorem dX12_tellPattern_31 : decode cX12_tellPattern 31 = .ok (.iconst 0, 1) := by decide +kernel
theorem dX12_tellPattern_32 : decode cX12_tellPattern 32 = .ok (.bipush 9, 2) := by decide +kernel
theorem dX12_tellPattern_34 : decode cX12_tellPattern 34 = .ok (.invokevirtual 245, 3) := by decide +kernel
theorem dX12_tellPattern_37 : decode cX12_tellPattern 37 = .ok (.iastore, 1) := by decide +kernel
theorem dX12_tellPattern_38 : decode cX12_tellPattern 38 = .ok (.aload_n 0, 1) := by decide +kernel
theorem dX12_tellPattern_39 : decode cX12_tellPattern 39 = .ok (.getfield 58, 3) := by decide +kernel
theorem dX12_tellPattern_42 : decode cX12_tellPattern 42 = .ok (.iload_n 1, 1) := by decide +kernel
theorem dX12_tellPattern_43 : decode cX12_tellPattern 43 = .ok (.iconst 1, 1) := by decide +kernel
theorem dX12_tellPattern_44 : decode cX12_tellPattern 44 = .ok (.iastore, 1) := by decide +kernel
theorem dX12_tellPattern_45 : decode cX12_tellPattern 45 = .ok (.aload_n 0, 1) := by decide +kernel
theorem dX12_tellPattern_46 : decode cX12_tellPattern 46 = .ok (.getfield 191, 3) := by decide +kernel
theorem dX12_tellPattern_49 : decode cX12_tellPattern 49 = .ok (.ifCond .ne 71, 3) := by decide +kernel
theorem dX12_tellPattern_52 : decode cX12_tellPattern 52 = .ok (.aload_n 0, 1) := by decide +kernel
theorem dX12_tellPattern_53 : decode cX12_tellPattern 53 = .ok (.iconst 2, 1) := by decide +kernel
theorem dX12_tellPattern_54 : decode cX12_tellPattern 54 = .ok (.invokevirtual 209, 3) := by decide +kernel
theorem dX12_tellPattern_57 : decode cX12_tellPattern 57 = .ok (.ifCond .eq 63, 3) := by decide +kernel
theorem dX12_tellPattern_60 : decode cX12_tellPattern 60 = .ok (.aload_n 0, 1) := by decide +kernel
theorem dX12_tellPattern_61 : decode cX12_tellPattern 61 = .ok (.getfield 58, 3) := by decide +kernel
theorem dX12_tellPattern_64 : decode cX12_tellPattern 64 = .ok (.iload_n 1, 1) := by decide +kernel
theorem dX12_tellPattern_65 : decode cX12_tellPattern 65 = .ok (.iaload, 1) := by decide +kernel
theorem dX12_tellPattern_66 : decode cX12_tellPattern 66 = .ok (.bipush 8, 2) := by decide +kernel
theorem dX12_tellPattern_68 : decode cX12_tellPattern 68 = .ok (.if_icmp .ne 8, 3) := by decide +kernel
theorem dX12_tellPattern_71 : decode cX12_tellPattern 71 = .ok (.aload_n 0, 1) := by decide +kernel
theorem dX12_tellPattern_72 : decode cX12_tellPattern 72 = .ok (.iconst 2, 1) := by decide +kernel
theorem dX12_tellPattern_73 : decode cX12_tellPattern 73 = .ok (.invokevirtual 206, 3) := by decide +kernel
theorem dX12_tellPattern_76 : decode cX12_tellPattern 76 = .ok (.aload_n 0, 1) := by decide +kernel
theorem dX12_tellPattern_77 : decode cX12_tellPattern 77 = .ok (.getfield 191, 3) := by decide +kernel
theorem dX12_tellPattern_80 : decode cX12_tellPattern 80 = .ok (.ifCond .le 4, 3) := by decide +kernel
theorem dX12_tellPattern_83 : decode cX12_tellPattern 83 = .ok (.return_, 1) := by decide +kernel
theorem dX12_tellPattern_84 : decode cX12_tellPattern 84 = .ok (.aload_n 0, 1) := by decide +kernel
theorem dX12_tellPattern_85 : decode cX12_tellPattern 85 = .ok (.getfield 61, 3) := by decide +kernel
theorem dX12_tellPattern_88 : decode cX12_tellPattern 88 = .ok (.bipush 8, 2) := by decide +kernel
theorem dX12_tellPattern_90 : decode cX12_tellPattern 90 = .ok (.iload_n 1, 1) := by decide +kernel
theorem dX12_tellPattern_91 : decode cX12_tellPattern 91 = .ok (.imul, 1) := by decide +kernel
theorem dX12_tellPattern_92 : decode cX12_tellPattern 92 = .ok (.aload_n 0, 1) := by decide +kernel
theorem dX12_tellPattern_93 : decode cX12_tellPattern 93 = .ok (.getfield 58, 3) := by decide +kernel
theorem dX12_tellPattern_96 : decode cX12_tellPattern 96 = .ok (.iload_n 1, 1) := by decide +kernel
theorem dX12_tellPattern_97 : decode cX12_tellPattern 97 = .ok (.iaload, 1) := by decide +kernel
theorem dX12_tellPattern_98 : decode cX12_tellPattern 98 = .ok (.iadd, 1) := by decide +kernel
theorem dX12_tellPattern_99 : decode cX12_tellPattern 99 = .ok (.aload_n 0, 1) := by decide +kernel
theorem dX12_tellPattern_100 : decode cX12_tellPattern 100 = .ok (.iconst 0, 1) := by decide +kernel
theorem dX12_tellPattern_101 : decode cX12_tellPattern 101 = .ok (.bipush 9, 2) := by decide +kernel
theorem dX12_tellPattern_103 : decode cX12_tellPattern 103 = .ok (.invokevirtual 245, 3) := by decide +kernel
theorem dX12_tellPattern_106 : decode cX12_tellPattern 106 = .ok (.iastore, 1) := by decide +kernel
theorem dX12_tellPattern_107 : decode cX12_tellPattern 107 = .ok (.aload_n 0, 1) := by decide +kernel
theorem dX12_tellPattern_108 : decode cX12_tellPattern 108 = .ok (.getfield 58, 3) := by decide +kernel
theorem dX12_tellPattern_111 : decode cX12_tellPattern 111 = .ok (.iload_n 1, 1) := by decide +kernel
theorem dX12_tellPattern_112 : decode cX12_tellPattern 112 = .ok (.dup2, 1) := by decide +kernel
theorem dX12_tellPattern_113 : decode cX12_tellPattern 113 = .ok (.iaload, 1) := by decide +kernel
theorem dX12_tellPattern_114 : decode cX12_tellPattern 114 = .ok (.iconst 1, 1) := by decide +kernel
theorem dX12_tellPattern_115 : decode cX12_tellPattern 115 = .ok (.iadd, 1) := by decide +kernel
theorem dX12_tellPattern_116 : decode cX12_tellPattern 116 = .ok (.iastore, 1) := by decide +kernel
theorem dX12_tellPattern_117 : decode cX12_tellPattern 117 = .ok (.goto (-72), 3) := by decide +kernel
theorem dX12_tellPattern_120 : decode cX12_tellPattern 120 = .ok (.aload_n 0, 1) := by decide +kernel
theorem dX12_tellPattern_121 : decode cX12_tellPattern 121 = .ok (.iload_n 2, 1) := by decide +kernel
theorem dX12_tellPattern_122 : decode cX12_tellPattern 122 = .ok (.invokevirtual 275, 3) := by decide +kernel
theorem dX12_tellPattern_125 : decode cX12_tellPattern 125 = .ok (.aload_n 0, 1) := by decide +kernel
theorem dX12_tellPattern_126 : decode cX12_tellPattern 126 = .ok (.getfield 191, 3) := by decide +kernel
theorem dX12_tellPattern_129 : decode cX12_tellPattern 129 = .ok (.ifCond .ne 16, 3) := by decide +kernel
theorem dX12_tellPattern_132 : decode cX12_tellPattern 132 = .ok (.aload_n 0, 1) := by decide +kernel
theorem dX12_tellPattern_133 : decode cX12_tellPattern 133 = .ok (.getfield 55, 3) := by decide +kernel
theorem dX12_tellPattern_136 : decode cX12_tellPattern 136 = .ok (.aload_n 0, 1) := by decide +kernel
theorem dX12_tellPattern_137 : decode cX12_tellPattern 137 = .ok (.getfield 224, 3) := by decide +kernel
theorem dX12_tellPattern_140 : decode cX12_tellPattern 140 = .ok (.dup2, 1) := by decide +kernel
theorem dX12_tellPattern_141 : decode cX12_tellPattern 141 = .ok (.iaload, 1) := by decide +kernel
theorem dX12_tellPattern_142 : decode cX12_tellPattern 142 = .ok (.iconst 1, 1) := by decide +kernel
theorem dX12_tellPattern_143 : decode cX12_tellPattern 143 = .ok (.iadd, 1) := by decide +kernel
theorem dX12_tellPattern_144 : decode cX12_tellPattern 144 = .ok (.iastore, 1) := by decide +kernel
theorem dX12_tellPattern_145 : decode cX12_tellPattern 145 = .ok (.return_, 1) := by decide +kernel
