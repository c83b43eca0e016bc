theorem dX11_into_11 : decode cX11_into 11 = .ok (.iload_n 2, 1) := by decide +kernel
theorem dX11_into_12 : decode cX11_into 12 = .ok (.iconst (-1), 1) := by decide +kernel
theorem dX11_into_13 : decode cX11_into 13 = .ok (.if_icmp .ge 5, 3) := by decide +kernel
theorem dX11_into_18 : decode cX11_into 18 = .ok (.aload_n 0, 1) := by decide +kernel
theorem dX11_into_19 : decode cX11_into 19 = .ok (.getfield 82, 3) := by decide +kernel
theorem dX11_into_22 : decode cX11_into 22 = .ok (.getfield 149, 3) := by decide +kernel
theorem dX11_into_25 : decode cX11_into 25 = .ok (.iload_n 1, 1) := by decide +kernel
theorem dX11_into_26 : decode cX11_into 26 = .ok (.aaload, 1) := by decide +kernel
theorem dX11_into_27 : decode cX11_into 27 = .ok (.astore_n 3, 1) := by decide +kernel
theorem dX11_into_28 : decode cX11_into 28 = .ok (.aload_n 0, 1) := by decide +kernel
theorem dX11_into_29 : decode cX11_into 29 = .ok (.getfield 82, 3) := by decide +kernel
theorem dX11_into_32 : decode cX11_into 32 = .ok (.getfield 146, 3) := by decide +kernel
theorem dX11_into_35 : decode cX11_into 35 = .ok (.iload_n 1, 1) := by decide +kernel
theorem dX11_into_36 : decode cX11_into 36 = .ok (.iaload, 1) := by decide +kernel
theorem dX11_into_37 : decode cX11_into 37 = .ok (.istore 4, 2) := by decide +kernel
theorem dX11_into_39 : decode cX11_into 39 = .ok (.aload_n 3, 1) := by decide +kernel
theorem dX11_into_40 : decode cX11_into 40 = .ok (.iload 4, 2) := by decide +kernel
theorem dX11_into_42 : decode cX11_into 42 = .ok (.invokestatic 243, 3) := by decide +kernel
theorem dX11_into_45 : decode cX11_into 45 = .ok (.ifCond .ne 5, 3) := by decide +kernel
theorem dX11_into_48 : decode cX11_into 48 = .ok (.iconst (-1), 1) := by decide +kernel
theorem dX11_into_49 : decode cX11_into 49 = .ok (.ireturn, 1) := by decide +kernel
theorem dX11_into_50 : decode cX11_into 50 = .ok (.aload_n 0, 1) := by decide +kernel
theorem dX11_into_51 : decode cX11_into 51 = .ok (.getfield 54, 3) := by decide +kernel
theorem dX11_into_54 : decode cX11_into 54 = .ok (.invokevirtual 295, 3) := by decide +kernel
theorem dX11_into_57 : decode cX11_into 57 = .ok (.ifCond .ne 30, 3) := by decide +kernel
theorem dX11_into_60 : decode cX11_into 60 = .ok (.aload_n 0, 1) := by decide +kernel
theorem dX11_into_61 : decode cX11_into 61 = .ok (.getfield 40, 3) := by decide +kernel
theorem dX11_into_64 : decode cX11_into 64 = .ok (.aload_n 0, 1) := by decide +kernel
theorem dX11_into_65 : decode cX11_into 65 = .ok (.getfield 54, 3) := by decide +kernel
theorem dX11_into_68 : decode cX11_into 68 = .ok (.invokevirtual 276, 3) := by decide +kernel
theorem dX11_into_71 : decode cX11_into 71 = .ok (.aload_n 3, 1) := by decide +kernel
theorem dX11_into_72 : decode cX11_into 72 = .ok (.iload 4, 2) := by decide +kernel
theorem dX11_into_74 : decode cX11_into 74 = .ok (.invokestatic 299, 3) := by decide +kernel
theorem dX11_into_77 : decode cX11_into 77 = .ok (.invokevirtual 301, 3) := by decide +kernel
theorem dX11_into_80 : decode cX11_into 80 = .ok (.ifCond .eq 7, 3) := by decide +kernel
theorem dX11_into_83 : decode cX11_into 83 = .ok (.iconst 1, 1) := by decide +kernel
theorem dX11_into_84 : decode cX11_into 84 = .ok (.goto 4, 3) := by decide +kernel
theorem dX11_into_87 : decode cX11_into 87 = .ok (.iconst 0, 1) := by decide +kernel
theorem dX11_into_88 : decode cX11_into 88 = .ok (.istore 5, 2) := by decide +kernel
theorem dX11_into_90 : decode cX11_into 90 = .ok (.iload 5, 2) := by decide +kernel
theorem dX11_into_92 : decode cX11_into 92 = .ok (.ifCond .ne 16, 3) := by decide +kernel
theorem dX11_into_95 : decode cX11_into 95 = .ok (.iload_n 2, 1) := by decide +kernel
theorem dX11_into_96 : decode cX11_into 96 = .ok (.iconst (-1), 1) := by decide +kernel
theorem dX11_into_97 : decode cX11_into 97 = .ok (.if_icmp .ne 8, 3) := by decide +kernel
theorem dX11_into_100 : decode cX11_into 100 = .ok (.bipush (-2), 2) := by decide +kernel
theorem dX11_into_102 : decode cX11_into 102 = .ok (.goto 5, 3) := by decide +kernel
theorem dX11_into_105 : decode cX11_into 105 = .ok (.bipush (-3), 2) := by decide +kernel
theorem dX11_into_107 : decode cX11_into 107 = .ok (.ireturn, 1) := by decide +kernel
theorem dX11_into_108 : decode cX11_into 108 = .ok (.iload_n 2, 1) := by decide +kernel
theorem dX11_into_109 : decode cX11_into 109 = .ok (.iconst (-1), 1) := by decide +kernel
theorem dX11_into_110 : decode cX11_into 110 = .ok (.if_icmp .ne 11, 3) := by decide +kernel
theorem dX11_into_113 : decode cX11_into 113 = .ok (.aload_n 0, 1) := by decide +kernel
theorem dX11_into_114 : decode cX11_into 114 = .ok (.getfield 40, 3) := by decide +kernel
theorem dX11_into_117 : decode cX11_into 117 = .ok (.getfield 304, 3) := by decide +kernel
theorem dX11_into_120 : decode cX11_into 120 = .ok (.ireturn, 1) := by decide +kernel
theorem dX11_into_121 : decode cX11_into 121 = .ok (.iload_n 2, 1) := by decide +kernel
theorem dX11_into_122 : decode cX11_into 122 = .ok (.aload_n 0, 1) := by decide +kernel
theorem dX11_into_123 : decode cX11_into 123 = .ok (.getfield 40, 3) := by decide +kernel
theorem dX11_into_126 : decode cX11_into 126 = .ok (.getfield 304, 3) := by decide +kernel
theorem dX11_into_129 : decode cX11_into 129 = .ok (.if_icmp .ge 15, 3) := by decide +kernel
theorem dX11_into_132 : decode cX11_into 132 = .ok (.aload_n 0, 1) := by decide +kernel
theorem dX11_into_133 : decode cX11_into 133 = .ok (.getfield 40, 3) := by decide +kernel
theorem dX11_into_136 : decode cX11_into 136 = .ok (.getfield 305, 3) := by decide +kernel
theorem dX11_into_139 : decode cX11_into 139 = .ok (.iload_n 2, 1) := by decide +kernel
theorem dX11_into_140 : decode cX11_into 140 = .ok (.iaload, 1) := by decide +kernel
theorem dX11_into_141 : decode cX11_into 141 = .ok (.goto 4, 3) := by decide +kernel
theorem dX11_into_144 : decode cX11_into 144 = .ok (.iconst (-1), 1) := by decide +kernel
theorem dX11_into_145 : decode cX11_into 145 = .ok (.ireturn, 1) := by decide +kernel
