theorem dX12_emit_0 : decode cX12_emit 0 = .ok (.aload_n 0, 1) := by decide +kernel
theorem dX12_emit_1 : decode cX12_emit 1 = .ok (.getfield 92, 3) := by decide +kernel
theorem dX12_emit_4 : decode cX12_emit 4 = .ok (.aload_n 0, 1) := by decide +kernel
theorem dX12_emit_5 : decode cX12_emit 5 = .ok (.getfield 233, 3) := by decide +kernel
theorem dX12_emit_8 : decode cX12_emit 8 = .ok (.iload_n 1, 1) := by decide +kernel
theorem dX12_emit_9 : decode cX12_emit 9 = .ok (.iastore, 1) := by decide +kernel
theorem dX12_emit_10 : decode cX12_emit 10 = .ok (.aload_n 0, 1) := by decide +kernel
theorem dX12_emit_11 : decode cX12_emit 11 = .ok (.getfield 95, 3) := by decide +kernel
theorem dX12_emit_14 : decode cX12_emit 14 = .ok (.aload_n 0, 1) := by decide +kernel
theorem dX12_emit_15 : decode cX12_emit 15 = .ok (.getfield 233, 3) := by decide +kernel
theorem dX12_emit_18 : decode cX12_emit 18 = .ok (.iload_n 2, 1) := by decide +kernel
theorem dX12_emit_19 : decode cX12_emit 19 = .ok (.iastore, 1) := by decide +kernel
theorem dX12_emit_20 : decode cX12_emit 20 = .ok (.aload_n 0, 1) := by decide +kernel
theorem dX12_emit_21 : decode cX12_emit 21 = .ok (.dup, 1) := by decide +kernel
theorem dX12_emit_22 : decode cX12_emit 22 = .ok (.getfield 233, 3) := by decide +kernel
theorem dX12_emit_25 : decode cX12_emit 25 = .ok (.iconst 1, 1) := by decide +kernel
theorem dX12_emit_26 : decode cX12_emit 26 = .ok (.iadd, 1) := by decide +kernel
theorem dX12_emit_27 : decode cX12_emit 27 = .ok (.putfield 233, 3) := by decide +kernel
theorem dX12_emit_30 : decode cX12_emit 30 = .ok (.return_, 1) := by decide +kernel
theorem dX12_ends_0 : decode cX12_ends 0 = .ok (.aload_n 0, 1) := by decide +kernel
theorem dX12_ends_1 : decode cX12_ends 1 = .ok (.iconst 4, 1) := by decide +kernel
theorem dX12_ends_2 : decode cX12_ends 2 = .ok (.invokevirtual 249, 3) := by decide +kernel
theorem dX12_ends_5 : decode cX12_ends 5 = .ok (.aload_n 0, 1) := by decide +kernel
theorem dX12_ends_6 : decode cX12_ends 6 = .ok (.getfield 191, 3) := by decide +kernel
theorem dX12_ends_9 : decode cX12_ends 9 = .ok (.ifCond .le 4, 3) := by decide +kernel
theorem dX12_ends_12 : decode cX12_ends 12 = .ok (.return_, 1) := by decide +kernel
theorem dX12_ends_13 : decode cX12_ends 13 = .ok (.aload_n 0, 1) := by decide +kernel
theorem dX12_ends_14 : decode cX12_ends 14 = .ok (.getfield 40, 3) := by decide +kernel
theorem dX12_ends_17 : decode cX12_ends 17 = .ok (.aload_n 0, 1) := by decide +kernel
theorem dX12_ends_18 : decode cX12_ends 18 = .ok (.getfield 227, 3) := by decide +kernel
theorem dX12_ends_21 : decode cX12_ends 21 = .ok (.aload_n 0, 1) := by decide +kernel
theorem dX12_ends_22 : decode cX12_ends 22 = .ok (.getfield 30, 3) := by decide +kernel
theorem dX12_ends_25 : decode cX12_ends 25 = .ok (.iload_n 1, 1) := by decide +kernel
theorem dX12_ends_26 : decode cX12_ends 26 = .ok (.laload, 1) := by decide +kernel
theorem dX12_ends_27 : decode cX12_ends 27 = .ok (.lastore, 1) := by decide +kernel
theorem dX12_ends_28 : decode cX12_ends 28 = .ok (.aload_n 0, 1) := by decide +kernel
theorem dX12_ends_29 : decode cX12_ends 29 = .ok (.dup, 1) := by decide +kernel
theorem dX12_ends_30 : decode cX12_ends 30 = .ok (.getfield 227, 3) := by decide +kernel
theorem dX12_ends_33 : decode cX12_ends 33 = .ok (.iconst 1, 1) := by decide +kernel
theorem dX12_ends_34 : decode cX12_ends 34 = .ok (.iadd, 1) := by decide +kernel
theorem dX12_ends_35 : decode cX12_ends 35 = .ok (.putfield 227, 3) := by decide +kernel
theorem dX12_ends_38 : decode cX12_ends 38 = .ok (.return_, 1) := by decide +kernel
theorem dX12_tellThing_0 : decode cX12_tellThing 0 = .ok (.bipush 7, 2) := by decide +kernel
theorem dX12_tellThing_2 : decode cX12_tellThing 2 = .ok (.aload_n 0, 1) := by decide +kernel
theorem dX12_tellThing_3 : decode cX12_tellThing 3 = .ok (.getfield 224, 3) := by decide +kernel
theorem dX12_tellThing_6 : decode cX12_tellThing 6 = .ok (.imul, 1) := by decide +kernel
theorem dX12_tellThing_7 : decode cX12_tellThing 7 = .ok (.aload_n 0, 1) := by decide +kernel
theorem dX12_tellThing_8 : decode cX12_tellThing 8 = .ok (.getfield 43, 3) := by decide +kernel
theorem dX12_tellThing_11 : decode cX12_tellThing 11 = .ok (.aload_n 0, 1) := by decide +kernel
theorem dX12_tellThing_12 : decode cX12_tellThing 12 = .ok (.getfield 224, 3) := by decide +kernel
theorem dX12_tellThing_15 : decode cX12_tellThing 15 = .ok (.iaload, 1) := by decide +kernel
theorem dX12_tellThing_16 : decode cX12_tellThing 16 = .ok (.iadd, 1) := by decide +kernel
theorem dX12_tellThing_17 : decode cX12_tellThing 17 = .ok (.istore_n 1, 1) := by decide +kernel
theorem dX12_tellThing_18 : decode cX12_tellThing 18 = .ok (.aload_n 0, 1) := by decide +kernel
theorem dX12_tellThing_19 : decode cX12_tellThing 19 = .ok (.invokevirtual 271, 3) := by decide +kernel
theorem dX12_tellThing_22 : decode cX12_tellThing 22 = .ok (.istore_n 2, 1) := by decide +kernel
theorem dX12_tellThing_23 : decode cX12_tellThing 23 = .ok (.aload_n 0, 1) := by decide +kernel
theorem dX12_tellThing_24 : decode cX12_tellThing 24 = .ok (.getfield 46, 3) := by decide +kernel
theorem dX12_tellThing_27 : decode cX12_tellThing 27 = .ok (.iload_n 1, 1) := by decide +kernel
theorem dX12_tellThing_28 : decode cX12_tellThing 28 = .ok (.aload_n 0, 1) := by decide +kernel
theorem dX12_tellThing_29 : decode cX12_tellThing 29 = .ok (.iconst 1, 1) := by decide +kernel
theorem dX12_tellThing_30 : decode cX12_tellThing 30 = .ok (.bipush 9, 2) := by decide +kernel
theorem dX12_tellThing_32 : decode cX12_tellThing 32 = .ok (.invokevirtual 245, 3) := by decide +kernel
theorem dX12_tellThing_35 : decode cX12_tellThing 35 = .ok (.iastore, 1) := by decide +kernel
theorem dX12_tellThing_36 : decode cX12_tellThing 36 = .ok (.aload_n 0, 1) := by decide +kernel
theorem dX12_tellThing_37 : decode cX12_tellThing 37 = .ok (.getfield 49, 3) := by decide +kernel
theorem dX12_tellThing_40 : decode cX12_tellThing 40 = .ok (.iload_n 1, 1) := by decide +kernel
theorem dX12_tellThing_41 : decode cX12_tellThing 41 = .ok (.aload_n 0, 1) := by decide +kernel
theorem dX12_tellThing_42 : decode cX12_tellThing 42 = .ok (.iconst 0, 1) := by decide +kernel
theorem dX12_tellThing_43 : decode cX12_tellThing 43 = .ok (.bipush 9, 2) := by decide +kernel
theorem dX12_tellThing_45 : decode cX12_tellThing 45 = .ok (.invokevirtual 245, 3) := by decide +kernel
theorem dX12_tellThing_48 : decode cX12_tellThing 48 = .ok (.iastore, 1) := by decide +kernel
theorem dX12_tellThing_49 : decode cX12_tellThing 49 = .ok (.aload_n 0, 1) := by decide +kernel
theorem dX12_tellThing_50 : decode cX12_tellThing 50 = .ok (.getfield 52, 3) := by decide +kernel
theorem dX12_tellThing_53 : decode cX12_tellThing 53 = .ok (.iload_n 1, 1) := by decide +kernel
theorem dX12_tellThing_54 : decode cX12_tellThing 54 = .ok (.aload_n 0, 1) := by decide +kernel
theorem dX12_tellThing_55 : decode cX12_tellThing 55 = .ok (.iconst 0, 1) := by decide +kernel
theorem dX12_tellThing_56 : decode cX12_tellThing 56 = .ok (.bipush 9, 2) := by decide +kernel
theorem dX12_tellThing_58 : decode cX12_tellThing 58 = .ok (.invokevirtual 245, 3) := by decide +kernel
theorem dX12_tellThing_61 : decode cX12_tellThing 61 = .ok (.iastore, 1) := by decide +kernel
theorem dX12_tellThing_62 : decode cX12_tellThing 62 = .ok (.aload_n 0, 1) := by decide +kernel
theorem dX12_tellThing_63 : decode cX12_tellThing 63 = .ok (.iload_n 2, 1) := by decide +kernel
theorem dX12_tellThing_64 : decode cX12_tellThing 64 = .ok (.invokevirtual 275, 3) := by decide +kernel
theorem dX12_tellThing_67 : decode cX12_tellThing 67 = .ok (.aload_n 0, 1) := by decide +kernel
theorem dX12_tellThing_68 : decode cX12_tellThing 68 = .ok (.getfield 191, 3) := by decide +kernel
theorem dX12_tellThing_71 : decode cX12_tellThing 71 = .ok (.ifCond .ne 16, 3) := by decide +kernel
theorem dX12_tellThing_74 : decode cX12_tellThing 74 = .ok (.aload_n 0, 1) := by decide +kernel
theorem dX12_tellThing_75 : decode cX12_tellThing 75 = .ok (.getfield 43, 3) := by decide +kernel
theorem dX12_tellThing_78 : decode cX12_tellThing 78 = .ok (.aload_n 0, 1) := by decide +kernel
theorem dX12_tellThing_79 : decode cX12_tellThing 79 = .ok (.getfield 224, 3) := by decide +kernel
theorem dX12_tellThing_82 : decode cX12_tellThing 82 = .ok (.dup2, 1) := by decide +kernel
theorem dX12_tellThing_83 : decode cX12_tellThing 83 = .ok (.iaload, 1) := by decide +kernel
theorem dX12_tellThing_84 : decode cX12_tellThing 84 = .ok (.iconst 1, 1) := by decide +kernel
theorem dX12_tellThing_85 : decode cX12_tellThing 85 = .ok (.iadd, 1) := by decide +kernel
theorem dX12_tellThing_86 : decode cX12_tellThing 86 = .ok (.iastore, 1) := by decide +kernel
theorem dX12_tellThing_87 : decode cX12_tellThing 87 = .ok (.return_, 1) := by decide +kernel
theorem dX12_unit_0 : decode cX12_unit 0 = .ok (.aload_n 0, 1) := by decide +kernel
theorem dX12_unit_1 : decode cX12_unit 1 = .ok (.iconst 2, 1) := by decide +kernel
theorem dX12_unit_2 : decode cX12_unit 2 = .ok (.invokevirtual 209, 3) := by decide +kernel
theorem dX12_unit_5 : decode cX12_unit 5 = .ok (.ifCond .eq 24, 3) := by decide +kernel
theorem dX12_unit_8 : decode cX12_unit 8 = .ok (.aload_n 0, 1) := by decide +kernel
theorem dX12_unit_9 : decode cX12_unit 9 = .ok (.iconst 0, 1) := by decide +kernel
theorem dX12_unit_10 : decode cX12_unit 10 = .ok (.aload_n 0, 1) := by decide +kernel
theorem dX12_unit_11 : decode cX12_unit 11 = .ok (.getfield 27, 3) := by decide +kernel
theorem dX12_unit_14 : decode cX12_unit 14 = .ok (.aload_n 0, 1) := by decide +kernel
theorem dX12_unit_15 : decode cX12_unit 15 = .ok (.getfield 194, 3) := by decide +kernel
theorem dX12_unit_18 : decode cX12_unit 18 = .ok (.iaload, 1) := by decide +kernel
theorem dX12_unit_19 : decode cX12_unit 19 = .ok (.invokevirtual 287, 3) := by decide +kernel
theorem dX12_unit_22 : decode cX12_unit 22 = .ok (.aload_n 0, 1) := by decide +kernel
theorem dX12_unit_23 : decode cX12_unit 23 = .ok (.invokevirtual 212, 3) := by decide +kernel
theorem dX12_unit_26 : decode cX12_unit 26 = .ok (.goto 67, 3) := by decide +kernel
theorem dX12_unit_29 : decode cX12_unit 29 = .ok (.aload_n 0, 1) := by decide +kernel
theorem dX12_unit_30 : decode cX12_unit 30 = .ok (.getfield 191, 3) := by decide +kernel
theorem dX12_unit_33 : decode cX12_unit 33 = .ok (.ifCond .ne 55, 3) := by decide +kernel
theorem dX12_unit_36 : decode cX12_unit 36 = .ok (.aload_n 0, 1) := by decide +kernel
theorem dX12_unit_37 : decode cX12_unit 37 = .ok (.getfield 20, 3) := by decide +kernel
theorem dX12_unit_40 : decode cX12_unit 40 = .ok (.aload_n 0, 1) := by decide +kernel
theorem dX12_unit_41 : decode cX12_unit 41 = .ok (.getfield 194, 3) := by decide +kernel
theorem dX12_unit_44 : decode cX12_unit 44 = .ok (.iaload, 1) := by decide +kernel
theorem dX12_unit_45 : decode cX12_unit 45 = .ok (.bipush 31, 2) := by decide +kernel
theorem dX12_unit_47 : decode cX12_unit 47 = .ok (.if_icmp .lt 41, 3) := by decide +kernel
theorem dX12_unit_50 : decode cX12_unit 50 = .ok (.aload_n 0, 1) := by decide +kernel
theorem dX12_unit_51 : decode cX12_unit 51 = .ok (.getfield 20, 3) := by decide +kernel
theorem dX12_unit_54 : decode cX12_unit 54 = .ok (.aload_n 0, 1) := by decide +kernel
theorem dX12_unit_55 : decode cX12_unit 55 = .ok (.getfield 194, 3) := by decide +kernel
theorem dX12_unit_58 : decode cX12_unit 58 = .ok (.iaload, 1) := by decide +kernel
theorem dX12_unit_59 : decode cX12_unit 59 = .ok (.bipush 39, 2) := by decide +kernel
theorem dX12_unit_61 : decode cX12_unit 61 = .ok (.if_icmp .gt 27, 3) := by decide +kernel
theorem dX12_unit_64 : decode cX12_unit 64 = .ok (.aload_n 0, 1) := by decide +kernel
theorem dX12_unit_65 : decode cX12_unit 65 = .ok (.iconst 1, 1) := by decide +kernel
theorem dX12_unit_66 : decode cX12_unit 66 = .ok (.aload_n 0, 1) := by decide +kernel
theorem dX12_unit_67 : decode cX12_unit 67 = .ok (.getfield 20, 3) := by decide +kernel
theorem dX12_unit_70 : decode cX12_unit 70 = .ok (.aload_n 0, 1) := by decide +kernel
theorem dX12_unit_71 : decode cX12_unit 71 = .ok (.getfield 194, 3) := by decide +kernel
theorem dX12_unit_74 : decode cX12_unit 74 = .ok (.iaload, 1) := by decide +kernel
theorem dX12_unit_75 : decode cX12_unit 75 = .ok (.bipush 31, 2) := by decide +kernel
theorem dX12_unit_77 : decode cX12_unit 77 = .ok (.isub, 1) := by decide +kernel
theorem dX12_unit_78 : decode cX12_unit 78 = .ok (.invokevirtual 287, 3) := by decide +kernel
theorem dX12_unit_81 : decode cX12_unit 81 = .ok (.aload_n 0, 1) := by decide +kernel
theorem dX12_unit_82 : decode cX12_unit 82 = .ok (.invokevirtual 212, 3) := by decide +kernel
theorem dX12_unit_85 : decode cX12_unit 85 = .ok (.goto 8, 3) := by decide +kernel
theorem dX12_unit_88 : decode cX12_unit 88 = .ok (.aload_n 0, 1) := by decide +kernel
theorem dX12_unit_89 : decode cX12_unit 89 = .ok (.iconst 1, 1) := by decide +kernel
theorem dX12_unit_90 : decode cX12_unit 90 = .ok (.invokevirtual 206, 3) := by decide +kernel
theorem dX12_unit_93 : decode cX12_unit 93 = .ok (.return_, 1) := by decide +kernel
