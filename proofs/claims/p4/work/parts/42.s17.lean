theorem dX11_watch_51 : decode cX11_watch 51 = .ok (.iconst 0, 1) := by decide +kernel
theorem dX11_watch_52 : decode cX11_watch 52 = .ok (.istore_n 3, 1) := by decide +kernel
theorem dX11_watch_53 : decode cX11_watch 53 = .ok (.bipush 8, 2) := by decide +kernel
theorem dX11_watch_55 : decode cX11_watch 55 = .ok (.istore 4, 2) := by decide +kernel
theorem dX11_watch_57 : decode cX11_watch 57 = .ok (.iconst 0, 1) := by decide +kernel
theorem dX11_watch_58 : decode cX11_watch 58 = .ok (.istore 5, 2) := by decide +kernel
theorem dX11_watch_60 : decode cX11_watch 60 = .ok (.iload 5, 2) := by decide +kernel
theorem dX11_watch_62 : decode cX11_watch 62 = .ok (.bipush 40, 2) := by decide +kernel
theorem dX11_watch_64 : decode cX11_watch 64 = .ok (.if_icmp .gt 70, 3) := by decide +kernel
theorem dX11_watch_67 : decode cX11_watch 67 = .ok (.aload_n 0, 1) := by decide +kernel
theorem dX11_watch_68 : decode cX11_watch 68 = .ok (.getfield 69, 3) := by decide +kernel
theorem dX11_watch_71 : decode cX11_watch 71 = .ok (.iload 5, 2) := by decide +kernel
theorem dX11_watch_73 : decode cX11_watch 73 = .ok (.iaload, 1) := by decide +kernel
theorem dX11_watch_74 : decode cX11_watch 74 = .ok (.iconst (-1), 1) := by decide +kernel
theorem dX11_watch_75 : decode cX11_watch 75 = .ok (.if_icmp .ne 7, 3) := by decide +kernel
theorem dX11_watch_78 : decode cX11_watch 78 = .ok (.iconst 0, 1) := by decide +kernel
theorem dX11_watch_79 : decode cX11_watch 79 = .ok (.goto 12, 3) := by decide +kernel
theorem dX11_watch_82 : decode cX11_watch 82 = .ok (.iconst 1, 1) := by decide +kernel
theorem dX11_watch_83 : decode cX11_watch 83 = .ok (.aload_n 0, 1) := by decide +kernel
theorem dX11_watch_84 : decode cX11_watch 84 = .ok (.getfield 69, 3) := by decide +kernel
theorem dX11_watch_87 : decode cX11_watch 87 = .ok (.iload 5, 2) := by decide +kernel
theorem dX11_watch_89 : decode cX11_watch 89 = .ok (.iaload, 1) := by decide +kernel
theorem dX11_watch_90 : decode cX11_watch 90 = .ok (.ishl, 1) := by decide +kernel
theorem dX11_watch_91 : decode cX11_watch 91 = .ok (.istore 6, 2) := by decide +kernel
theorem dX11_watch_93 : decode cX11_watch 93 = .ok (.iload_n 2, 1) := by decide +kernel
theorem dX11_watch_94 : decode cX11_watch 94 = .ok (.iload 6, 2) := by decide +kernel
theorem dX11_watch_96 : decode cX11_watch 96 = .ok (.iand, 1) := by decide +kernel
theorem dX11_watch_97 : decode cX11_watch 97 = .ok (.invokestatic 330, 3) := by decide +kernel
theorem dX11_watch_100 : decode cX11_watch 100 = .ok (.iload_n 2, 1) := by decide +kernel
theorem dX11_watch_101 : decode cX11_watch 101 = .ok (.iload 6, 2) := by decide +kernel
theorem dX11_watch_103 : decode cX11_watch 103 = .ok (.iconst (-1), 1) := by decide +kernel
theorem dX11_watch_104 : decode cX11_watch 104 = .ok (.ixor, 1) := by decide +kernel
theorem dX11_watch_105 : decode cX11_watch 105 = .ok (.iand, 1) := by decide +kernel
theorem dX11_watch_106 : decode cX11_watch 106 = .ok (.invokestatic 330, 3) := by decide +kernel
theorem dX11_watch_109 : decode cX11_watch 109 = .ok (.invokestatic 335, 3) := by decide +kernel
theorem dX11_watch_112 : decode cX11_watch 112 = .ok (.istore 7, 2) := by decide +kernel
theorem dX11_watch_114 : decode cX11_watch 114 = .ok (.iload 7, 2) := by decide +kernel
theorem dX11_watch_116 : decode cX11_watch 116 = .ok (.iload 4, 2) := by decide +kernel
theorem dX11_watch_118 : decode cX11_watch 118 = .ok (.if_icmp .ge 10, 3) := by decide +kernel
theorem dX11_watch_121 : decode cX11_watch 121 = .ok (.iload 7, 2) := by decide +kernel
theorem dX11_watch_123 : decode cX11_watch 123 = .ok (.istore 4, 2) := by decide +kernel
theorem dX11_watch_125 : decode cX11_watch 125 = .ok (.iload 5, 2) := by decide +kernel
theorem dX11_watch_127 : decode cX11_watch 127 = .ok (.istore_n 3, 1) := by decide +kernel
theorem dX11_watch_128 : decode cX11_watch 128 = .ok (.iinc 5 1, 3) := by decide +kernel
theorem dX11_watch_131 : decode cX11_watch 131 = .ok (.goto (-71), 3) := by decide +kernel
theorem dX11_watch_134 : decode cX11_watch 134 = .ok (.iload_n 3, 1) := by decide +kernel
theorem dX11_watch_135 : decode cX11_watch 135 = .ok (.ireturn, 1) := by decide +kernel
theorem dX11_feed_19 : decode cX11_feed 19 = .ok (.iconst (-1), 1) := by decide +kernel
theorem dX11_feed_20 : decode cX11_feed 20 = .ok (.ireturn, 1) := by decide +kernel
theorem dX11_throwIn_11 : decode cX11_throwIn 11 = .ok (.aload_n 0, 1) := by decide +kernel
theorem dX11_throwIn_12 : decode cX11_throwIn 12 = .ok (.getfield 54, 3) := by decide +kernel
theorem dX11_throwIn_15 : decode cX11_throwIn 15 = .ok (.iload_n 1, 1) := by decide +kernel
theorem dX11_throwIn_16 : decode cX11_throwIn 16 = .ok (.invokevirtual 134, 3) := by decide +kernel
theorem dX11_throwIn_19 : decode cX11_throwIn 19 = .ok (.ifCond .ne 10, 3) := by decide +kernel
theorem dX11_throwIn_22 : decode cX11_throwIn 22 = .ok (.iload_n 2, 1) := by decide +kernel
theorem dX11_throwIn_23 : decode cX11_throwIn 23 = .ok (.invokestatic 153, 3) := by decide +kernel
theorem dX11_throwIn_26 : decode cX11_throwIn 26 = .ok (.ifCond .ne 5, 3) := by decide +kernel
theorem dX11_throwIn_31 : decode cX11_throwIn 31 = .ok (.aload_n 0, 1) := by decide +kernel
theorem dX11_throwIn_32 : decode cX11_throwIn 32 = .ok (.getfield 26, 3) := by decide +kernel
theorem dX11_throwIn_35 : decode cX11_throwIn 35 = .ok (.aload_n 0, 1) := by decide +kernel
theorem dX11_throwIn_36 : decode cX11_throwIn 36 = .ok (.getfield 54, 3) := by decide +kernel
theorem dX11_throwIn_39 : decode cX11_throwIn 39 = .ok (.invokevirtual 206, 3) := by decide +kernel
theorem dX11_throwIn_42 : decode cX11_throwIn 42 = .ok (.aload_n 0, 1) := by decide +kernel
theorem dX11_throwIn_43 : decode cX11_throwIn 43 = .ok (.getfield 54, 3) := by decide +kernel
theorem dX11_throwIn_46 : decode cX11_throwIn 46 = .ok (.iload_n 1, 1) := by decide +kernel
theorem dX11_throwIn_47 : decode cX11_throwIn 47 = .ok (.iload_n 2, 1) := by decide +kernel
theorem dX11_throwIn_48 : decode cX11_throwIn 48 = .ok (.invokevirtual 210, 3) := by decide +kernel
theorem dX11_throwIn_51 : decode cX11_throwIn 51 = .ok (.iconst 1, 1) := by decide +kernel
theorem dX11_throwIn_52 : decode cX11_throwIn 52 = .ok (.ireturn, 1) := by decide +kernel
theorem dX11_use_13 : decode cX11_use 13 = .ok (.aload_n 0, 1) := by decide +kernel
theorem dX11_use_14 : decode cX11_use 14 = .ok (.getfield 26, 3) := by decide +kernel
theorem dX11_use_17 : decode cX11_use 17 = .ok (.aload_n 0, 1) := by decide +kernel
theorem dX11_use_18 : decode cX11_use 18 = .ok (.getfield 54, 3) := by decide +kernel
theorem dX11_use_21 : decode cX11_use 21 = .ok (.invokevirtual 206, 3) := by decide +kernel
theorem dX11_use_24 : decode cX11_use 24 = .ok (.aload_n 0, 1) := by decide +kernel
theorem dX11_use_25 : decode cX11_use 25 = .ok (.getfield 54, 3) := by decide +kernel
theorem dX11_use_28 : decode cX11_use 28 = .ok (.iload_n 1, 1) := by decide +kernel
theorem dX11_use_29 : decode cX11_use 29 = .ok (.invokevirtual 214, 3) := by decide +kernel
theorem dX11_use_32 : decode cX11_use 32 = .ok (.iconst 1, 1) := by decide +kernel
theorem dX11_use_33 : decode cX11_use 33 = .ok (.ireturn, 1) := by decide +kernel
