theorem dX6_expression_0 : decode cX6_expression 0 = .ok (.aload_n 0, 1) := by decide +kernel
theorem dX6_expression_1 : decode cX6_expression 1 = .ok (.aload_n 1, 1) := by decide +kernel
theorem dX6_expression_2 : decode cX6_expression 2 = .ok (.iload_n 2, 1) := by decide +kernel
theorem dX6_expression_3 : decode cX6_expression 3 = .ok (.invokevirtual 144, 3) := by decide +kernel
theorem dX6_expression_6 : decode cX6_expression 6 = .ok (.istore_n 3, 1) := by decide +kernel
theorem dX6_expression_7 : decode cX6_expression 7 = .ok (.iconst 0, 1) := by decide +kernel
theorem dX6_expression_8 : decode cX6_expression 8 = .ok (.istore 4, 2) := by decide +kernel
theorem dX6_expression_10 : decode cX6_expression 10 = .ok (.iload_n 3, 1) := by decide +kernel
theorem dX6_expression_11 : decode cX6_expression 11 = .ok (.ifCond .eq 82, 3) := by decide +kernel
theorem dX6_expression_14 : decode cX6_expression 14 = .ok (.aload_n 0, 1) := by decide +kernel
theorem dX6_expression_15 : decode cX6_expression 15 = .ok (.getfield 53, 3) := by decide +kernel
theorem dX6_expression_18 : decode cX6_expression 18 = .ok (.bipush 43, 2) := by decide +kernel
theorem dX6_expression_20 : decode cX6_expression 20 = .ok (.if_icmp .eq 12, 3) := by decide +kernel
theorem dX6_expression_23 : decode cX6_expression 23 = .ok (.aload_n 0, 1) := by decide +kernel
theorem dX6_expression_24 : decode cX6_expression 24 = .ok (.getfield 53, 3) := by decide +kernel
theorem dX6_expression_27 : decode cX6_expression 27 = .ok (.bipush 45, 2) := by decide +kernel
theorem dX6_expression_29 : decode cX6_expression 29 = .ok (.if_icmp .ne 64, 3) := by decide +kernel
theorem dX6_expression_32 : decode cX6_expression 32 = .ok (.iload 4, 2) := by decide +kernel
theorem dX6_expression_34 : decode cX6_expression 34 = .ok (.sipush 400, 3) := by decide +kernel
theorem dX6_expression_37 : decode cX6_expression 37 = .ok (.if_icmp .ge 56, 3) := by decide +kernel
theorem dX6_expression_40 : decode cX6_expression 40 = .ok (.aload_n 0, 1) := by decide +kernel
theorem dX6_expression_41 : decode cX6_expression 41 = .ok (.getfield 53, 3) := by decide +kernel
theorem dX6_expression_44 : decode cX6_expression 44 = .ok (.istore 5, 2) := by decide +kernel
theorem dX6_expression_46 : decode cX6_expression 46 = .ok (.aload_n 0, 1) := by decide +kernel
theorem dX6_expression_47 : decode cX6_expression 47 = .ok (.iload 5, 2) := by decide +kernel
theorem dX6_expression_49 : decode cX6_expression 49 = .ok (.invokevirtual 77, 3) := by decide +kernel
theorem dX6_expression_52 : decode cX6_expression 52 = .ok (.ifCond .eq 16, 3) := by decide +kernel
theorem dX6_expression_55 : decode cX6_expression 55 = .ok (.aload_n 0, 1) := by decide +kernel
theorem dX6_expression_56 : decode cX6_expression 56 = .ok (.aload_n 1, 1) := by decide +kernel
theorem dX6_expression_57 : decode cX6_expression 57 = .ok (.iload_n 2, 1) := by decide +kernel
theorem dX6_expression_58 : decode cX6_expression 58 = .ok (.invokevirtual 144, 3) := by decide +kernel
theorem dX6_expression_61 : decode cX6_expression 61 = .ok (.ifCond .eq 7, 3) := by decide +kernel
theorem dX6_expression_64 : decode cX6_expression 64 = .ok (.iconst 1, 1) := by decide +kernel
theorem dX6_expression_65 : decode cX6_expression 65 = .ok (.goto 4, 3) := by decide +kernel
theorem dX6_expression_68 : decode cX6_expression 68 = .ok (.iconst 0, 1) := by decide +kernel
theorem dX6_expression_69 : decode cX6_expression 69 = .ok (.istore_n 3, 1) := by decide +kernel
theorem dX6_expression_70 : decode cX6_expression 70 = .ok (.aload_n 1, 1) := by decide +kernel
theorem dX6_expression_71 : decode cX6_expression 71 = .ok (.iload 5, 2) := by decide +kernel
theorem dX6_expression_73 : decode cX6_expression 73 = .ok (.bipush 43, 2) := by decide +kernel
theorem dX6_expression_75 : decode cX6_expression 75 = .ok (.if_icmp .ne 7, 3) := by decide +kernel
theorem dX6_expression_78 : decode cX6_expression 78 = .ok (.iconst (-1), 1) := by decide +kernel
theorem dX6_expression_79 : decode cX6_expression 79 = .ok (.goto 5, 3) := by decide +kernel
theorem dX6_expression_82 : decode cX6_expression 82 = .ok (.bipush (-2), 2) := by decide +kernel
theorem dX6_expression_84 : decode cX6_expression 84 = .ok (.invokevirtual 138, 3) := by decide +kernel
theorem dX6_expression_87 : decode cX6_expression 87 = .ok (.iinc 4 1, 3) := by decide +kernel
theorem dX6_expression_90 : decode cX6_expression 90 = .ok (.goto (-80), 3) := by decide +kernel
theorem dX6_expression_93 : decode cX6_expression 93 = .ok (.iload_n 3, 1) := by decide +kernel
theorem dX6_expression_94 : decode cX6_expression 94 = .ok (.ireturn, 1) := by decide +kernel
theorem dX6_unit_105 : decode cX6_unit 105 = .ok (.ifCond .eq 16, 3) := by decide +kernel
theorem dX6_unit_108 : decode cX6_unit 108 = .ok (.aload_n 0, 1) := by decide +kernel
theorem dX6_unit_109 : decode cX6_unit 109 = .ok (.bipush 41, 2) := by decide +kernel
theorem dX6_unit_111 : decode cX6_unit 111 = .ok (.invokevirtual 77, 3) := by decide +kernel
theorem dX6_unit_114 : decode cX6_unit 114 = .ok (.ifCond .eq 7, 3) := by decide +kernel
theorem dX6_unit_117 : decode cX6_unit 117 = .ok (.iconst 1, 1) := by decide +kernel
theorem dX6_unit_118 : decode cX6_unit 118 = .ok (.goto 4, 3) := by decide +kernel
