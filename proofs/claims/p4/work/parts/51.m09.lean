theorem dX12_throwIn_8 : decode cX12_throwIn 8 = .ok (.aload_n 0, 1) := by decide +kernel
theorem dX12_throwIn_9 : decode cX12_throwIn 9 = .ok (.getfield 107, 3) := by decide +kernel
theorem dX12_throwIn_12 : decode cX12_throwIn 12 = .ok (.iload_n 1, 1) := by decide +kernel
theorem dX12_throwIn_13 : decode cX12_throwIn 13 = .ok (.iaload, 1) := by decide +kernel
theorem dX12_throwIn_14 : decode cX12_throwIn 14 = .ok (.ifCond .eq 13, 3) := by decide +kernel
theorem dX12_throwIn_17 : decode cX12_throwIn 17 = .ok (.iload_n 2, 1) := by decide +kernel
theorem dX12_throwIn_18 : decode cX12_throwIn 18 = .ok (.iconst 0, 1) := by decide +kernel
theorem dX12_throwIn_19 : decode cX12_throwIn 19 = .ok (.bipush 9, 2) := by decide +kernel
theorem dX12_throwIn_21 : decode cX12_throwIn 21 = .ok (.invokestatic 301, 3) := by decide +kernel
theorem dX12_throwIn_24 : decode cX12_throwIn 24 = .ok (.ifCond .ne 5, 3) := by decide +kernel
theorem dX12_throwIn_29 : decode cX12_throwIn 29 = .ok (.aload_n 0, 1) := by decide +kernel
theorem dX12_throwIn_30 : decode cX12_throwIn 30 = .ok (.invokevirtual 311, 3) := by decide +kernel
theorem dX12_throwIn_33 : decode cX12_throwIn 33 = .ok (.aload_n 0, 1) := by decide +kernel
theorem dX12_throwIn_34 : decode cX12_throwIn 34 = .ok (.getfield 110, 3) := by decide +kernel
theorem dX12_throwIn_37 : decode cX12_throwIn 37 = .ok (.iload_n 1, 1) := by decide +kernel
theorem dX12_throwIn_38 : decode cX12_throwIn 38 = .ok (.iconst 0, 1) := by decide +kernel
theorem dX12_throwIn_39 : decode cX12_throwIn 39 = .ok (.iastore, 1) := by decide +kernel
theorem dX12_throwIn_40 : decode cX12_throwIn 40 = .ok (.aload_n 0, 1) := by decide +kernel
theorem dX12_throwIn_41 : decode cX12_throwIn 41 = .ok (.getfield 110, 3) := by decide +kernel
theorem dX12_throwIn_44 : decode cX12_throwIn 44 = .ok (.bipush 7, 2) := by decide +kernel
theorem dX12_throwIn_46 : decode cX12_throwIn 46 = .ok (.iload_n 1, 1) := by decide +kernel
theorem dX12_throwIn_47 : decode cX12_throwIn 47 = .ok (.iadd, 1) := by decide +kernel
theorem dX12_throwIn_48 : decode cX12_throwIn 48 = .ok (.iload_n 2, 1) := by decide +kernel
theorem dX12_throwIn_49 : decode cX12_throwIn 49 = .ok (.iastore, 1) := by decide +kernel
theorem dX12_throwIn_50 : decode cX12_throwIn 50 = .ok (.aload_n 0, 1) := by decide +kernel
theorem dX12_throwIn_51 : decode cX12_throwIn 51 = .ok (.invokevirtual 396, 3) := by decide +kernel
theorem dX12_throwIn_54 : decode cX12_throwIn 54 = .ok (.iconst 1, 1) := by decide +kernel
theorem dX12_throwIn_55 : decode cX12_throwIn 55 = .ok (.ireturn, 1) := by decide +kernel
theorem dX12_use_10 : decode cX12_use 10 = .ok (.aload_n 0, 1) := by decide +kernel
theorem dX12_use_11 : decode cX12_use 11 = .ok (.invokevirtual 311, 3) := by decide +kernel
theorem dX12_use_14 : decode cX12_use 14 = .ok (.aload_n 0, 1) := by decide +kernel
theorem dX12_use_15 : decode cX12_use 15 = .ok (.iload_n 1, 1) := by decide +kernel
theorem dX12_use_16 : decode cX12_use 16 = .ok (.invokevirtual 399, 3) := by decide +kernel
theorem dX12_use_19 : decode cX12_use 19 = .ok (.aload_n 0, 1) := by decide +kernel
theorem dX12_use_20 : decode cX12_use 20 = .ok (.invokevirtual 396, 3) := by decide +kernel
theorem dX12_use_23 : decode cX12_use 23 = .ok (.iconst 1, 1) := by decide +kernel
theorem dX12_use_24 : decode cX12_use 24 = .ok (.ireturn, 1) := by decide +kernel
