theorem dX4_asks_0 : decode cX4_asks 0 = .ok (.aload_n 0, 1) := by decide +kernel
theorem dX4_asks_1 : decode cX4_asks 1 = .ok (.getfield 12, 3) := by decide +kernel
theorem dX4_asks_4 : decode cX4_asks 4 = .ok (.getfield 107, 3) := by decide +kernel
theorem dX4_asks_7 : decode cX4_asks 7 = .ok (.iconst 2, 1) := by decide +kernel
theorem dX4_asks_8 : decode cX4_asks 8 = .ok (.iload_n 3, 1) := by decide +kernel
theorem dX4_asks_9 : decode cX4_asks 9 = .ok (.iastore, 1) := by decide +kernel
theorem dX4_asks_10 : decode cX4_asks 10 = .ok (.aload_n 0, 1) := by decide +kernel
theorem dX4_asks_11 : decode cX4_asks 11 = .ok (.getfield 12, 3) := by decide +kernel
theorem dX4_asks_14 : decode cX4_asks 14 = .ok (.aload_n 1, 1) := by decide +kernel
theorem dX4_asks_15 : decode cX4_asks 15 = .ok (.getfield 116, 3) := by decide +kernel
theorem dX4_asks_18 : decode cX4_asks 18 = .ok (.aload_n 1, 1) := by decide +kernel
theorem dX4_asks_19 : decode cX4_asks 19 = .ok (.getfield 119, 3) := by decide +kernel
theorem dX4_asks_22 : decode cX4_asks 22 = .ok (.iload_n 2, 1) := by decide +kernel
theorem dX4_asks_23 : decode cX4_asks 23 = .ok (.iaload, 1) := by decide +kernel
theorem dX4_asks_24 : decode cX4_asks 24 = .ok (.invokevirtual 122, 3) := by decide +kernel
theorem dX4_asks_27 : decode cX4_asks 27 = .ok (.istore 4, 2) := by decide +kernel
theorem dX4_asks_29 : decode cX4_asks 29 = .ok (.iload_n 2, 1) := by decide +kernel
theorem dX4_asks_30 : decode cX4_asks 30 = .ok (.lookupswitch 51 #[(1, 26), (2, 38)], 26) := by decide +kernel
theorem dX4_asks_56 : decode cX4_asks 56 = .ok (.iconst 0, 1) := by decide +kernel
theorem dX4_asks_57 : decode cX4_asks 57 = .ok (.bipush 100, 2) := by decide +kernel
theorem dX4_asks_59 : decode cX4_asks 59 = .ok (.iload 4, 2) := by decide +kernel
theorem dX4_asks_61 : decode cX4_asks 61 = .ok (.invokestatic 95, 3) := by decide +kernel
theorem dX4_asks_64 : decode cX4_asks 64 = .ok (.invokestatic 51, 3) := by decide +kernel
theorem dX4_asks_67 : decode cX4_asks 67 = .ok (.ireturn, 1) := by decide +kernel
theorem dX4_asks_68 : decode cX4_asks 68 = .ok (.bipush (-99), 2) := by decide +kernel
theorem dX4_asks_70 : decode cX4_asks 70 = .ok (.bipush 99, 2) := by decide +kernel
theorem dX4_asks_72 : decode cX4_asks 72 = .ok (.iload 4, 2) := by decide +kernel
theorem dX4_asks_74 : decode cX4_asks 74 = .ok (.invokestatic 95, 3) := by decide +kernel
theorem dX4_asks_77 : decode cX4_asks 77 = .ok (.invokestatic 51, 3) := by decide +kernel
theorem dX4_asks_80 : decode cX4_asks 80 = .ok (.ireturn, 1) := by decide +kernel
theorem dX4_asks_81 : decode cX4_asks 81 = .ok (.iconst 0, 1) := by decide +kernel
theorem dX4_asks_82 : decode cX4_asks 82 = .ok (.bipush 99, 2) := by decide +kernel
theorem dX4_asks_84 : decode cX4_asks 84 = .ok (.iload 4, 2) := by decide +kernel
theorem dX4_asks_86 : decode cX4_asks 86 = .ok (.invokestatic 95, 3) := by decide +kernel
theorem dX4_asks_89 : decode cX4_asks 89 = .ok (.invokestatic 51, 3) := by decide +kernel
theorem dX4_asks_92 : decode cX4_asks 92 = .ok (.ireturn, 1) := by decide +kernel
