/-! read -/
theorem dX6_readInto_71 : decode cX6_readInto 71 = .ok (.iload_n 3, 1) := by decide +kernel
theorem dX6_readInto_72 : decode cX6_readInto 72 = .ok (.sipush 400, 3) := by decide +kernel
theorem dX6_readInto_75 : decode cX6_readInto 75 = .ok (.if_icmp .gt 15, 3) := by decide +kernel
theorem dX6_readInto_78 : decode cX6_readInto 78 = .ok (.aload_n 0, 1) := by decide +kernel
theorem dX6_readInto_79 : decode cX6_readInto 79 = .ok (.aload_n 1, 1) := by decide +kernel
theorem dX6_readInto_80 : decode cX6_readInto 80 = .ok (.invokevirtual 56, 3) := by decide +kernel
theorem dX6_readInto_83 : decode cX6_readInto 83 = .ok (.istore_n 2, 1) := by decide +kernel
theorem dX6_readInto_84 : decode cX6_readInto 84 = .ok (.iinc 3 1, 3) := by decide +kernel
theorem dX6_readInto_87 : decode cX6_readInto 87 = .ok (.goto (-29), 3) := by decide +kernel
theorem dX6_readInto_104 : decode cX6_readInto 104 = .ok (.aload_n 0, 1) := by decide +kernel
theorem dX6_readInto_105 : decode cX6_readInto 105 = .ok (.aload_n 0, 1) := by decide +kernel
theorem dX6_readInto_106 : decode cX6_readInto 106 = .ok (.getfield 37, 3) := by decide +kernel
theorem dX6_readInto_109 : decode cX6_readInto 109 = .ok (.putfield 34, 3) := by decide +kernel
theorem dX6_readInto_112 : decode cX6_readInto 112 = .ok (.aload_n 0, 1) := by decide +kernel
theorem dX6_readInto_113 : decode cX6_readInto 113 = .ok (.aload_n 0, 1) := by decide +kernel
theorem dX6_readInto_114 : decode cX6_readInto 114 = .ok (.getfield 40, 3) := by decide +kernel
theorem dX6_readInto_117 : decode cX6_readInto 117 = .ok (.putfield 18, 3) := by decide +kernel
