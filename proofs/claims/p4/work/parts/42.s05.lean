theorem dX6_takeNumber_0 : decode cX6_takeNumber 0 = .ok (.aload_n 0, 1) := by decide +kernel
theorem dX6_takeNumber_1 : decode cX6_takeNumber 1 = .ok (.getfield 12, 3) := by decide +kernel
theorem dX6_takeNumber_4 : decode cX6_takeNumber 4 = .ok (.getfield 64, 3) := by decide +kernel
theorem dX6_takeNumber_7 : decode cX6_takeNumber 7 = .ok (.aload_n 0, 1) := by decide +kernel
theorem dX6_takeNumber_8 : decode cX6_takeNumber 8 = .ok (.getfield 46, 3) := by decide +kernel
theorem dX6_takeNumber_11 : decode cX6_takeNumber 11 = .ok (.laload, 1) := by decide +kernel
theorem dX6_takeNumber_12 : decode cX6_takeNumber 12 = .ok (.lstore_n 3, 1) := by decide +kernel
theorem dX6_takeNumber_13 : decode cX6_takeNumber 13 = .ok (.aload_n 0, 1) := by decide +kernel
theorem dX6_takeNumber_14 : decode cX6_takeNumber 14 = .ok (.getfield 53, 3) := by decide +kernel
theorem dX6_takeNumber_17 : decode cX6_takeNumber 17 = .ok (.bipush 21, 2) := by decide +kernel
theorem dX6_takeNumber_19 : decode cX6_takeNumber 19 = .ok (.if_icmp .ne 22, 3) := by decide +kernel
theorem dX6_takeNumber_22 : decode cX6_takeNumber 22 = .ok (.lload_n 3, 1) := by decide +kernel
theorem dX6_takeNumber_23 : decode cX6_takeNumber 23 = .ok (.iload_n 1, 1) := by decide +kernel
theorem dX6_takeNumber_24 : decode cX6_takeNumber 24 = .ok (.i2l, 1) := by decide +kernel
theorem dX6_takeNumber_25 : decode cX6_takeNumber 25 = .ok (.lcmp, 1) := by decide +kernel
theorem dX6_takeNumber_26 : decode cX6_takeNumber 26 = .ok (.ifCond .lt 10, 3) := by decide +kernel
theorem dX6_takeNumber_29 : decode cX6_takeNumber 29 = .ok (.lload_n 3, 1) := by decide +kernel
theorem dX6_takeNumber_30 : decode cX6_takeNumber 30 = .ok (.iload_n 2, 1) := by decide +kernel
theorem dX6_takeNumber_31 : decode cX6_takeNumber 31 = .ok (.i2l, 1) := by decide +kernel
theorem dX6_takeNumber_32 : decode cX6_takeNumber 32 = .ok (.lcmp, 1) := by decide +kernel
theorem dX6_takeNumber_33 : decode cX6_takeNumber 33 = .ok (.ifCond .le 8, 3) := by decide +kernel
theorem dX6_takeNumber_36 : decode cX6_takeNumber 36 = .ok (.aload_n 0, 1) := by decide +kernel
theorem dX6_takeNumber_37 : decode cX6_takeNumber 37 = .ok (.iconst 5, 1) := by decide +kernel
theorem dX6_takeNumber_38 : decode cX6_takeNumber 38 = .ok (.invokevirtual 73, 3) := by decide +kernel
theorem dX6_takeNumber_41 : decode cX6_takeNumber 41 = .ok (.aload_n 0, 1) := by decide +kernel
theorem dX6_takeNumber_42 : decode cX6_takeNumber 42 = .ok (.bipush 21, 2) := by decide +kernel
theorem dX6_takeNumber_44 : decode cX6_takeNumber 44 = .ok (.invokevirtual 77, 3) := by decide +kernel
theorem dX6_takeNumber_47 : decode cX6_takeNumber 47 = .ok (.ireturn, 1) := by decide +kernel
theorem dX6_takeName_0 : decode cX6_takeName 0 = .ok (.aload_n 0, 1) := by decide +kernel
theorem dX6_takeName_1 : decode cX6_takeName 1 = .ok (.getfield 12, 3) := by decide +kernel
theorem dX6_takeName_4 : decode cX6_takeName 4 = .ok (.getfield 64, 3) := by decide +kernel
theorem dX6_takeName_7 : decode cX6_takeName 7 = .ok (.aload_n 0, 1) := by decide +kernel
theorem dX6_takeName_8 : decode cX6_takeName 8 = .ok (.getfield 46, 3) := by decide +kernel
theorem dX6_takeName_11 : decode cX6_takeName 11 = .ok (.laload, 1) := by decide +kernel
theorem dX6_takeName_12 : decode cX6_takeName 12 = .ok (.lstore_n 1, 1) := by decide +kernel
theorem dX6_takeName_13 : decode cX6_takeName 13 = .ok (.iconst 0, 1) := by decide +kernel
theorem dX6_takeName_14 : decode cX6_takeName 14 = .ok (.istore_n 3, 1) := by decide +kernel
theorem dX6_takeName_15 : decode cX6_takeName 15 = .ok (.iload_n 3, 1) := by decide +kernel
theorem dX6_takeName_16 : decode cX6_takeName 16 = .ok (.aload_n 0, 1) := by decide +kernel
theorem dX6_takeName_17 : decode cX6_takeName 17 = .ok (.getfield 31, 3) := by decide +kernel
theorem dX6_takeName_20 : decode cX6_takeName 20 = .ok (.if_icmp .ge 34, 3) := by decide +kernel
theorem dX6_takeName_23 : decode cX6_takeName 23 = .ok (.aload_n 0, 1) := by decide +kernel
theorem dX6_takeName_24 : decode cX6_takeName 24 = .ok (.getfield 53, 3) := by decide +kernel
theorem dX6_takeName_27 : decode cX6_takeName 27 = .ok (.bipush 20, 2) := by decide +kernel
theorem dX6_takeName_29 : decode cX6_takeName 29 = .ok (.if_icmp .ne 19, 3) := by decide +kernel
theorem dX6_takeName_32 : decode cX6_takeName 32 = .ok (.aload_n 0, 1) := by decide +kernel
theorem dX6_takeName_33 : decode cX6_takeName 33 = .ok (.getfield 22, 3) := by decide +kernel
theorem dX6_takeName_36 : decode cX6_takeName 36 = .ok (.iload_n 3, 1) := by decide +kernel
theorem dX6_takeName_37 : decode cX6_takeName 37 = .ok (.laload, 1) := by decide +kernel
theorem dX6_takeName_38 : decode cX6_takeName 38 = .ok (.lload_n 1, 1) := by decide +kernel
theorem dX6_takeName_39 : decode cX6_takeName 39 = .ok (.lcmp, 1) := by decide +kernel
theorem dX6_takeName_40 : decode cX6_takeName 40 = .ok (.ifCond .ne 8, 3) := by decide +kernel
theorem dX6_takeName_43 : decode cX6_takeName 43 = .ok (.aload_n 0, 1) := by decide +kernel
theorem dX6_takeName_44 : decode cX6_takeName 44 = .ok (.iconst 3, 1) := by decide +kernel
theorem dX6_takeName_45 : decode cX6_takeName 45 = .ok (.invokevirtual 73, 3) := by decide +kernel
theorem dX6_takeName_48 : decode cX6_takeName 48 = .ok (.iinc 3 1, 3) := by decide +kernel
theorem dX6_takeName_51 : decode cX6_takeName 51 = .ok (.goto (-36), 3) := by decide +kernel
theorem dX6_takeName_54 : decode cX6_takeName 54 = .ok (.aload_n 0, 1) := by decide +kernel
theorem dX6_takeName_55 : decode cX6_takeName 55 = .ok (.getfield 31, 3) := by decide +kernel
theorem dX6_takeName_58 : decode cX6_takeName 58 = .ok (.aload_n 0, 1) := by decide +kernel
theorem dX6_takeName_59 : decode cX6_takeName 59 = .ok (.getfield 22, 3) := by decide +kernel
theorem dX6_takeName_62 : decode cX6_takeName 62 = .ok (.arraylength, 1) := by decide +kernel
theorem dX6_takeName_63 : decode cX6_takeName 63 = .ok (.if_icmp .ge 23, 3) := by decide +kernel
theorem dX6_takeName_66 : decode cX6_takeName 66 = .ok (.aload_n 0, 1) := by decide +kernel
theorem dX6_takeName_67 : decode cX6_takeName 67 = .ok (.getfield 22, 3) := by decide +kernel
theorem dX6_takeName_70 : decode cX6_takeName 70 = .ok (.aload_n 0, 1) := by decide +kernel
theorem dX6_takeName_71 : decode cX6_takeName 71 = .ok (.getfield 31, 3) := by decide +kernel
theorem dX6_takeName_74 : decode cX6_takeName 74 = .ok (.lload_n 1, 1) := by decide +kernel
theorem dX6_takeName_75 : decode cX6_takeName 75 = .ok (.lastore, 1) := by decide +kernel
theorem dX6_takeName_76 : decode cX6_takeName 76 = .ok (.aload_n 0, 1) := by decide +kernel
theorem dX6_takeName_77 : decode cX6_takeName 77 = .ok (.dup, 1) := by decide +kernel
theorem dX6_takeName_78 : decode cX6_takeName 78 = .ok (.getfield 31, 3) := by decide +kernel
theorem dX6_takeName_81 : decode cX6_takeName 81 = .ok (.iconst 1, 1) := by decide +kernel
theorem dX6_takeName_82 : decode cX6_takeName 82 = .ok (.iadd, 1) := by decide +kernel
theorem dX6_takeName_83 : decode cX6_takeName 83 = .ok (.putfield 31, 3) := by decide +kernel
theorem dX6_takeName_86 : decode cX6_takeName 86 = .ok (.aload_n 0, 1) := by decide +kernel
theorem dX6_takeName_87 : decode cX6_takeName 87 = .ok (.bipush 20, 2) := by decide +kernel
theorem dX6_takeName_89 : decode cX6_takeName 89 = .ok (.invokevirtual 77, 3) := by decide +kernel
theorem dX6_takeName_92 : decode cX6_takeName 92 = .ok (.ireturn, 1) := by decide +kernel
theorem dX6_tellingThing_0 : decode cX6_tellingThing 0 = .ok (.aload_n 1, 1) := by decide +kernel
theorem dX6_tellingThing_1 : decode cX6_tellingThing 1 = .ok (.getfield 100, 3) := by decide +kernel
theorem dX6_tellingThing_4 : decode cX6_tellingThing 4 = .ok (.istore_n 2, 1) := by decide +kernel
theorem dX6_tellingThing_5 : decode cX6_tellingThing 5 = .ok (.iload_n 2, 1) := by decide +kernel
theorem dX6_tellingThing_6 : decode cX6_tellingThing 6 = .ok (.bipush 7, 2) := by decide +kernel
theorem dX6_tellingThing_8 : decode cX6_tellingThing 8 = .ok (.if_icmp .lt 9, 3) := by decide +kernel
theorem dX6_tellingThing_11 : decode cX6_tellingThing 11 = .ok (.aload_n 0, 1) := by decide +kernel
theorem dX6_tellingThing_12 : decode cX6_tellingThing 12 = .ok (.iconst 2, 1) := by decide +kernel
theorem dX6_tellingThing_13 : decode cX6_tellingThing 13 = .ok (.invokevirtual 60, 3) := by decide +kernel
theorem dX6_tellingThing_16 : decode cX6_tellingThing 16 = .ok (.ireturn, 1) := by decide +kernel
theorem dX6_tellingThing_17 : decode cX6_tellingThing 17 = .ok (.aload_n 0, 1) := by decide +kernel
theorem dX6_tellingThing_18 : decode cX6_tellingThing 18 = .ok (.iconst 0, 1) := by decide +kernel
theorem dX6_tellingThing_19 : decode cX6_tellingThing 19 = .ok (.invokevirtual 77, 3) := by decide +kernel
theorem dX6_tellingThing_22 : decode cX6_tellingThing 22 = .ok (.ifCond .eq 20, 3) := by decide +kernel
theorem dX6_tellingThing_25 : decode cX6_tellingThing 25 = .ok (.aload_n 0, 1) := by decide +kernel
theorem dX6_tellingThing_26 : decode cX6_tellingThing 26 = .ok (.invokevirtual 103, 3) := by decide +kernel
theorem dX6_tellingThing_29 : decode cX6_tellingThing 29 = .ok (.ifCond .eq 13, 3) := by decide +kernel
theorem dX6_tellingThing_32 : decode cX6_tellingThing 32 = .ok (.aload_n 0, 1) := by decide +kernel
theorem dX6_tellingThing_33 : decode cX6_tellingThing 33 = .ok (.iconst 1, 1) := by decide +kernel
theorem dX6_tellingThing_34 : decode cX6_tellingThing 34 = .ok (.bipush 9, 2) := by decide +kernel
theorem dX6_tellingThing_36 : decode cX6_tellingThing 36 = .ok (.invokevirtual 90, 3) := by decide +kernel
theorem dX6_tellingThing_39 : decode cX6_tellingThing 39 = .ok (.ifCond .ne 5, 3) := by decide +kernel
theorem dX6_tellingThing_42 : decode cX6_tellingThing 42 = .ok (.iconst 0, 1) := by decide +kernel
theorem dX6_tellingThing_43 : decode cX6_tellingThing 43 = .ok (.ireturn, 1) := by decide +kernel
theorem dX6_tellingThing_44 : decode cX6_tellingThing 44 = .ok (.aload_n 1, 1) := by decide +kernel
theorem dX6_tellingThing_45 : decode cX6_tellingThing 45 = .ok (.getfield 107, 3) := by decide +kernel
theorem dX6_tellingThing_48 : decode cX6_tellingThing 48 = .ok (.iload_n 2, 1) := by decide +kernel
theorem dX6_tellingThing_49 : decode cX6_tellingThing 49 = .ok (.aload_n 0, 1) := by decide +kernel
theorem dX6_tellingThing_50 : decode cX6_tellingThing 50 = .ok (.getfield 67, 3) := by decide +kernel
theorem dX6_tellingThing_53 : decode cX6_tellingThing 53 = .ok (.iastore, 1) := by decide +kernel
theorem dX6_tellingThing_54 : decode cX6_tellingThing 54 = .ok (.aload_n 0, 1) := by decide +kernel
theorem dX6_tellingThing_55 : decode cX6_tellingThing 55 = .ok (.iconst 0, 1) := by decide +kernel
theorem dX6_tellingThing_56 : decode cX6_tellingThing 56 = .ok (.bipush 9, 2) := by decide +kernel
theorem dX6_tellingThing_58 : decode cX6_tellingThing 58 = .ok (.invokevirtual 90, 3) := by decide +kernel
theorem dX6_tellingThing_61 : decode cX6_tellingThing 61 = .ok (.ifCond .ne 5, 3) := by decide +kernel
theorem dX6_tellingThing_64 : decode cX6_tellingThing 64 = .ok (.iconst 0, 1) := by decide +kernel
theorem dX6_tellingThing_65 : decode cX6_tellingThing 65 = .ok (.ireturn, 1) := by decide +kernel
theorem dX6_tellingThing_66 : decode cX6_tellingThing 66 = .ok (.aload_n 1, 1) := by decide +kernel
theorem dX6_tellingThing_67 : decode cX6_tellingThing 67 = .ok (.getfield 110, 3) := by decide +kernel
theorem dX6_tellingThing_70 : decode cX6_tellingThing 70 = .ok (.iload_n 2, 1) := by decide +kernel
theorem dX6_tellingThing_71 : decode cX6_tellingThing 71 = .ok (.aload_n 0, 1) := by decide +kernel
theorem dX6_tellingThing_72 : decode cX6_tellingThing 72 = .ok (.getfield 67, 3) := by decide +kernel
theorem dX6_tellingThing_75 : decode cX6_tellingThing 75 = .ok (.iastore, 1) := by decide +kernel
theorem dX6_tellingThing_76 : decode cX6_tellingThing 76 = .ok (.aload_n 0, 1) := by decide +kernel
theorem dX6_tellingThing_77 : decode cX6_tellingThing 77 = .ok (.iconst 0, 1) := by decide +kernel
theorem dX6_tellingThing_78 : decode cX6_tellingThing 78 = .ok (.bipush 9, 2) := by decide +kernel
theorem dX6_tellingThing_80 : decode cX6_tellingThing 80 = .ok (.invokevirtual 90, 3) := by decide +kernel
theorem dX6_tellingThing_83 : decode cX6_tellingThing 83 = .ok (.ifCond .ne 5, 3) := by decide +kernel
theorem dX6_tellingThing_86 : decode cX6_tellingThing 86 = .ok (.iconst 0, 1) := by decide +kernel
theorem dX6_tellingThing_87 : decode cX6_tellingThing 87 = .ok (.ireturn, 1) := by decide +kernel
theorem dX6_tellingThing_88 : decode cX6_tellingThing 88 = .ok (.aload_n 1, 1) := by decide +kernel
theorem dX6_tellingThing_89 : decode cX6_tellingThing 89 = .ok (.getfield 113, 3) := by decide +kernel
theorem dX6_tellingThing_92 : decode cX6_tellingThing 92 = .ok (.iload_n 2, 1) := by decide +kernel
theorem dX6_tellingThing_93 : decode cX6_tellingThing 93 = .ok (.aload_n 0, 1) := by decide +kernel
theorem dX6_tellingThing_94 : decode cX6_tellingThing 94 = .ok (.getfield 67, 3) := by decide +kernel
theorem dX6_tellingThing_97 : decode cX6_tellingThing 97 = .ok (.iastore, 1) := by decide +kernel
theorem dX6_tellingThing_98 : decode cX6_tellingThing 98 = .ok (.aload_n 1, 1) := by decide +kernel
theorem dX6_tellingThing_99 : decode cX6_tellingThing 99 = .ok (.dup, 1) := by decide +kernel
theorem dX6_tellingThing_100 : decode cX6_tellingThing 100 = .ok (.getfield 100, 3) := by decide +kernel
theorem dX6_tellingThing_103 : decode cX6_tellingThing 103 = .ok (.iconst 1, 1) := by decide +kernel
theorem dX6_tellingThing_104 : decode cX6_tellingThing 104 = .ok (.iadd, 1) := by decide +kernel
theorem dX6_tellingThing_105 : decode cX6_tellingThing 105 = .ok (.putfield 100, 3) := by decide +kernel
theorem dX6_tellingThing_108 : decode cX6_tellingThing 108 = .ok (.aload_n 0, 1) := by decide +kernel
theorem dX6_tellingThing_109 : decode cX6_tellingThing 109 = .ok (.bipush 59, 2) := by decide +kernel
theorem dX6_tellingThing_111 : decode cX6_tellingThing 111 = .ok (.invokevirtual 77, 3) := by decide +kernel
theorem dX6_tellingThing_114 : decode cX6_tellingThing 114 = .ok (.ireturn, 1) := by decide +kernel
theorem dX6_tellingPattern_0 : decode cX6_tellingPattern 0 = .ok (.aload_n 1, 1) := by decide +kernel
theorem dX6_tellingPattern_1 : decode cX6_tellingPattern 1 = .ok (.getfield 116, 3) := by decide +kernel
theorem dX6_tellingPattern_4 : decode cX6_tellingPattern 4 = .ok (.istore_n 2, 1) := by decide +kernel
theorem dX6_tellingPattern_5 : decode cX6_tellingPattern 5 = .ok (.iload_n 2, 1) := by decide +kernel
theorem dX6_tellingPattern_6 : decode cX6_tellingPattern 6 = .ok (.iconst 5, 1) := by decide +kernel
theorem dX6_tellingPattern_7 : decode cX6_tellingPattern 7 = .ok (.if_icmp .lt 9, 3) := by decide +kernel
theorem dX6_tellingPattern_10 : decode cX6_tellingPattern 10 = .ok (.aload_n 0, 1) := by decide +kernel
theorem dX6_tellingPattern_11 : decode cX6_tellingPattern 11 = .ok (.iconst 2, 1) := by decide +kernel
theorem dX6_tellingPattern_12 : decode cX6_tellingPattern 12 = .ok (.invokevirtual 60, 3) := by decide +kernel
theorem dX6_tellingPattern_15 : decode cX6_tellingPattern 15 = .ok (.ireturn, 1) := by decide +kernel
theorem dX6_tellingPattern_16 : decode cX6_tellingPattern 16 = .ok (.aload_n 0, 1) := by decide +kernel
theorem dX6_tellingPattern_17 : decode cX6_tellingPattern 17 = .ok (.iconst 1, 1) := by decide +kernel
theorem dX6_tellingPattern_18 : decode cX6_tellingPattern 18 = .ok (.invokevirtual 77, 3) := by decide +kernel
theorem dX6_tellingPattern_21 : decode cX6_tellingPattern 21 = .ok (.ifCond .eq 20, 3) := by decide +kernel
theorem dX6_tellingPattern_24 : decode cX6_tellingPattern 24 = .ok (.aload_n 0, 1) := by decide +kernel
theorem dX6_tellingPattern_25 : decode cX6_tellingPattern 25 = .ok (.invokevirtual 103, 3) := by decide +kernel
theorem dX6_tellingPattern_28 : decode cX6_tellingPattern 28 = .ok (.ifCond .eq 13, 3) := by decide +kernel
theorem dX6_tellingPattern_31 : decode cX6_tellingPattern 31 = .ok (.aload_n 0, 1) := by decide +kernel
theorem dX6_tellingPattern_32 : decode cX6_tellingPattern 32 = .ok (.iconst 0, 1) := by decide +kernel
theorem dX6_tellingPattern_33 : decode cX6_tellingPattern 33 = .ok (.bipush 9, 2) := by decide +kernel
theorem dX6_tellingPattern_35 : decode cX6_tellingPattern 35 = .ok (.invokevirtual 90, 3) := by decide +kernel
theorem dX6_tellingPattern_38 : decode cX6_tellingPattern 38 = .ok (.ifCond .ne 5, 3) := by decide +kernel
theorem dX6_tellingPattern_41 : decode cX6_tellingPattern 41 = .ok (.iconst 0, 1) := by decide +kernel
theorem dX6_tellingPattern_42 : decode cX6_tellingPattern 42 = .ok (.ireturn, 1) := by decide +kernel
theorem dX6_tellingPattern_43 : decode cX6_tellingPattern 43 = .ok (.aload_n 1, 1) := by decide +kernel
theorem dX6_tellingPattern_44 : decode cX6_tellingPattern 44 = .ok (.getfield 119, 3) := by decide +kernel
theorem dX6_tellingPattern_47 : decode cX6_tellingPattern 47 = .ok (.iload_n 2, 1) := by decide +kernel
theorem dX6_tellingPattern_48 : decode cX6_tellingPattern 48 = .ok (.aaload, 1) := by decide +kernel
theorem dX6_tellingPattern_49 : decode cX6_tellingPattern 49 = .ok (.iconst 0, 1) := by decide +kernel
theorem dX6_tellingPattern_50 : decode cX6_tellingPattern 50 = .ok (.aload_n 0, 1) := by decide +kernel
theorem dX6_tellingPattern_51 : decode cX6_tellingPattern 51 = .ok (.getfield 67, 3) := by decide +kernel
theorem dX6_tellingPattern_54 : decode cX6_tellingPattern 54 = .ok (.iastore, 1) := by decide +kernel
theorem dX6_tellingPattern_55 : decode cX6_tellingPattern 55 = .ok (.iconst 1, 1) := by decide +kernel
theorem dX6_tellingPattern_56 : decode cX6_tellingPattern 56 = .ok (.istore_n 3, 1) := by decide +kernel
theorem dX6_tellingPattern_57 : decode cX6_tellingPattern 57 = .ok (.aload_n 0, 1) := by decide +kernel
theorem dX6_tellingPattern_58 : decode cX6_tellingPattern 58 = .ok (.getfield 53, 3) := by decide +kernel
theorem dX6_tellingPattern_61 : decode cX6_tellingPattern 61 = .ok (.bipush 21, 2) := by decide +kernel
theorem dX6_tellingPattern_63 : decode cX6_tellingPattern 63 = .ok (.if_icmp .ne 39, 3) := by decide +kernel
theorem dX6_tellingPattern_66 : decode cX6_tellingPattern 66 = .ok (.iload_n 3, 1) := by decide +kernel
theorem dX6_tellingPattern_67 : decode cX6_tellingPattern 67 = .ok (.bipush 8, 2) := by decide +kernel
theorem dX6_tellingPattern_69 : decode cX6_tellingPattern 69 = .ok (.if_icmp .ge 33, 3) := by decide +kernel
theorem dX6_tellingPattern_72 : decode cX6_tellingPattern 72 = .ok (.aload_n 0, 1) := by decide +kernel
theorem dX6_tellingPattern_73 : decode cX6_tellingPattern 73 = .ok (.iconst 0, 1) := by decide +kernel
theorem dX6_tellingPattern_74 : decode cX6_tellingPattern 74 = .ok (.bipush 9, 2) := by decide +kernel
theorem dX6_tellingPattern_76 : decode cX6_tellingPattern 76 = .ok (.invokevirtual 90, 3) := by decide +kernel
theorem dX6_tellingPattern_79 : decode cX6_tellingPattern 79 = .ok (.ifCond .ne 5, 3) := by decide +kernel
theorem dX6_tellingPattern_82 : decode cX6_tellingPattern 82 = .ok (.iconst 0, 1) := by decide +kernel
theorem dX6_tellingPattern_83 : decode cX6_tellingPattern 83 = .ok (.ireturn, 1) := by decide +kernel
theorem dX6_tellingPattern_84 : decode cX6_tellingPattern 84 = .ok (.aload_n 1, 1) := by decide +kernel
theorem dX6_tellingPattern_85 : decode cX6_tellingPattern 85 = .ok (.getfield 119, 3) := by decide +kernel
theorem dX6_tellingPattern_88 : decode cX6_tellingPattern 88 = .ok (.iload_n 2, 1) := by decide +kernel
theorem dX6_tellingPattern_89 : decode cX6_tellingPattern 89 = .ok (.aaload, 1) := by decide +kernel
theorem dX6_tellingPattern_90 : decode cX6_tellingPattern 90 = .ok (.iload_n 3, 1) := by decide +kernel
theorem dX6_tellingPattern_91 : decode cX6_tellingPattern 91 = .ok (.aload_n 0, 1) := by decide +kernel
theorem dX6_tellingPattern_92 : decode cX6_tellingPattern 92 = .ok (.getfield 67, 3) := by decide +kernel
theorem dX6_tellingPattern_95 : decode cX6_tellingPattern 95 = .ok (.iastore, 1) := by decide +kernel
theorem dX6_tellingPattern_96 : decode cX6_tellingPattern 96 = .ok (.iinc 3 1, 3) := by decide +kernel
theorem dX6_tellingPattern_99 : decode cX6_tellingPattern 99 = .ok (.goto (-42), 3) := by decide +kernel
theorem dX6_tellingPattern_102 : decode cX6_tellingPattern 102 = .ok (.aload_n 0, 1) := by decide +kernel
theorem dX6_tellingPattern_103 : decode cX6_tellingPattern 103 = .ok (.getfield 53, 3) := by decide +kernel
theorem dX6_tellingPattern_106 : decode cX6_tellingPattern 106 = .ok (.bipush 21, 2) := by decide +kernel
theorem dX6_tellingPattern_108 : decode cX6_tellingPattern 108 = .ok (.if_icmp .ne 9, 3) := by decide +kernel
theorem dX6_tellingPattern_111 : decode cX6_tellingPattern 111 = .ok (.aload_n 0, 1) := by decide +kernel
theorem dX6_tellingPattern_112 : decode cX6_tellingPattern 112 = .ok (.iconst 2, 1) := by decide +kernel
theorem dX6_tellingPattern_113 : decode cX6_tellingPattern 113 = .ok (.invokevirtual 60, 3) := by decide +kernel
theorem dX6_tellingPattern_116 : decode cX6_tellingPattern 116 = .ok (.ireturn, 1) := by decide +kernel
theorem dX6_tellingPattern_117 : decode cX6_tellingPattern 117 = .ok (.aload_n 1, 1) := by decide +kernel
theorem dX6_tellingPattern_118 : decode cX6_tellingPattern 118 = .ok (.getfield 123, 3) := by decide +kernel
theorem dX6_tellingPattern_121 : decode cX6_tellingPattern 121 = .ok (.iload_n 2, 1) := by decide +kernel
theorem dX6_tellingPattern_122 : decode cX6_tellingPattern 122 = .ok (.iload_n 3, 1) := by decide +kernel
theorem dX6_tellingPattern_123 : decode cX6_tellingPattern 123 = .ok (.iastore, 1) := by decide +kernel
theorem dX6_tellingPattern_124 : decode cX6_tellingPattern 124 = .ok (.aload_n 1, 1) := by decide +kernel
theorem dX6_tellingPattern_125 : decode cX6_tellingPattern 125 = .ok (.dup, 1) := by decide +kernel
theorem dX6_tellingPattern_126 : decode cX6_tellingPattern 126 = .ok (.getfield 116, 3) := by decide +kernel
theorem dX6_tellingPattern_129 : decode cX6_tellingPattern 129 = .ok (.iconst 1, 1) := by decide +kernel
theorem dX6_tellingPattern_130 : decode cX6_tellingPattern 130 = .ok (.iadd, 1) := by decide +kernel
theorem dX6_tellingPattern_131 : decode cX6_tellingPattern 131 = .ok (.putfield 116, 3) := by decide +kernel
theorem dX6_tellingPattern_134 : decode cX6_tellingPattern 134 = .ok (.aload_n 0, 1) := by decide +kernel
theorem dX6_tellingPattern_135 : decode cX6_tellingPattern 135 = .ok (.bipush 59, 2) := by decide +kernel
theorem dX6_tellingPattern_137 : decode cX6_tellingPattern 137 = .ok (.invokevirtual 77, 3) := by decide +kernel
theorem dX6_tellingPattern_140 : decode cX6_tellingPattern 140 = .ok (.ireturn, 1) := by decide +kernel
theorem dX6_unit_0 : decode cX6_unit 0 = .ok (.aload_n 0, 1) := by decide +kernel
theorem dX6_unit_1 : decode cX6_unit 1 = .ok (.getfield 53, 3) := by decide +kernel
theorem dX6_unit_4 : decode cX6_unit 4 = .ok (.bipush 21, 2) := by decide +kernel
theorem dX6_unit_6 : decode cX6_unit 6 = .ok (.if_icmp .ne 20, 3) := by decide +kernel
theorem dX6_unit_9 : decode cX6_unit 9 = .ok (.aload_n 0, 1) := by decide +kernel
theorem dX6_unit_10 : decode cX6_unit 10 = .ok (.bipush 21, 2) := by decide +kernel
theorem dX6_unit_12 : decode cX6_unit 12 = .ok (.invokevirtual 77, 3) := by decide +kernel
theorem dX6_unit_15 : decode cX6_unit 15 = .ok (.istore_n 3, 1) := by decide +kernel
theorem dX6_unit_16 : decode cX6_unit 16 = .ok (.aload_n 1, 1) := by decide +kernel
theorem dX6_unit_17 : decode cX6_unit 17 = .ok (.aload_n 0, 1) := by decide +kernel
theorem dX6_unit_18 : decode cX6_unit 18 = .ok (.getfield 67, 3) := by decide +kernel
theorem dX6_unit_21 : decode cX6_unit 21 = .ok (.invokevirtual 138, 3) := by decide +kernel
theorem dX6_unit_24 : decode cX6_unit 24 = .ok (.iload_n 3, 1) := by decide +kernel
theorem dX6_unit_25 : decode cX6_unit 25 = .ok (.ireturn, 1) := by decide +kernel
theorem dX6_unit_26 : decode cX6_unit 26 = .ok (.aload_n 0, 1) := by decide +kernel
theorem dX6_unit_27 : decode cX6_unit 27 = .ok (.getfield 53, 3) := by decide +kernel
theorem dX6_unit_30 : decode cX6_unit 30 = .ok (.bipush 11, 2) := by decide +kernel
theorem dX6_unit_32 : decode cX6_unit 32 = .ok (.if_icmp .lt 35, 3) := by decide +kernel
theorem dX6_unit_35 : decode cX6_unit 35 = .ok (.aload_n 0, 1) := by decide +kernel
theorem dX6_unit_36 : decode cX6_unit 36 = .ok (.getfield 53, 3) := by decide +kernel
theorem dX6_unit_39 : decode cX6_unit 39 = .ok (.bipush 19, 2) := by decide +kernel
theorem dX6_unit_41 : decode cX6_unit 41 = .ok (.if_icmp .gt 26, 3) := by decide +kernel
theorem dX6_unit_44 : decode cX6_unit 44 = .ok (.aload_n 1, 1) := by decide +kernel
theorem dX6_unit_45 : decode cX6_unit 45 = .ok (.bipush (-10), 2) := by decide +kernel
theorem dX6_unit_47 : decode cX6_unit 47 = .ok (.aload_n 0, 1) := by decide +kernel
theorem dX6_unit_48 : decode cX6_unit 48 = .ok (.getfield 53, 3) := by decide +kernel
theorem dX6_unit_51 : decode cX6_unit 51 = .ok (.bipush 11, 2) := by decide +kernel
theorem dX6_unit_53 : decode cX6_unit 53 = .ok (.isub, 1) := by decide +kernel
theorem dX6_unit_54 : decode cX6_unit 54 = .ok (.isub, 1) := by decide +kernel
theorem dX6_unit_55 : decode cX6_unit 55 = .ok (.invokevirtual 138, 3) := by decide +kernel
theorem dX6_unit_58 : decode cX6_unit 58 = .ok (.aload_n 0, 1) := by decide +kernel
theorem dX6_unit_59 : decode cX6_unit 59 = .ok (.aload_n 0, 1) := by decide +kernel
theorem dX6_unit_60 : decode cX6_unit 60 = .ok (.getfield 53, 3) := by decide +kernel
theorem dX6_unit_63 : decode cX6_unit 63 = .ok (.invokevirtual 77, 3) := by decide +kernel
theorem dX6_unit_66 : decode cX6_unit 66 = .ok (.ireturn, 1) := by decide +kernel
theorem dX6_unit_67 : decode cX6_unit 67 = .ok (.aload_n 0, 1) := by decide +kernel
theorem dX6_unit_68 : decode cX6_unit 68 = .ok (.getfield 53, 3) := by decide +kernel
theorem dX6_unit_71 : decode cX6_unit 71 = .ok (.bipush 40, 2) := by decide +kernel
theorem dX6_unit_73 : decode cX6_unit 73 = .ok (.if_icmp .ne 15, 3) := by decide +kernel
theorem dX6_unit_76 : decode cX6_unit 76 = .ok (.iload_n 2, 1) := by decide +kernel
theorem dX6_unit_77 : decode cX6_unit 77 = .ok (.bipush 6, 2) := by decide +kernel
theorem dX6_unit_79 : decode cX6_unit 79 = .ok (.if_icmp .lt 9, 3) := by decide +kernel
theorem dX6_unit_82 : decode cX6_unit 82 = .ok (.aload_n 0, 1) := by decide +kernel
theorem dX6_unit_83 : decode cX6_unit 83 = .ok (.iconst 2, 1) := by decide +kernel
theorem dX6_unit_84 : decode cX6_unit 84 = .ok (.invokevirtual 60, 3) := by decide +kernel
theorem dX6_unit_87 : decode cX6_unit 87 = .ok (.ireturn, 1) := by decide +kernel
theorem dX6_unit_88 : decode cX6_unit 88 = .ok (.aload_n 0, 1) := by decide +kernel
theorem dX6_unit_89 : decode cX6_unit 89 = .ok (.bipush 40, 2) := by decide +kernel
theorem dX6_unit_91 : decode cX6_unit 91 = .ok (.invokevirtual 77, 3) := by decide +kernel
theorem dX6_unit_94 : decode cX6_unit 94 = .ok (.ifCond .eq 27, 3) := by decide +kernel
theorem dX6_unit_97 : decode cX6_unit 97 = .ok (.aload_n 0, 1) := by decide +kernel
theorem dX6_unit_98 : decode cX6_unit 98 = .ok (.aload_n 1, 1) := by decide +kernel
theorem dX6_unit_99 : decode cX6_unit 99 = .ok (.iload_n 2, 1) := by decide +kernel
theorem dX6_unit_100 : decode cX6_unit 100 = .ok (.iconst 1, 1) := by decide +kernel
theorem dX6_unit_101 : decode cX6_unit 101 = .ok (.iadd, 1) := by decide +kernel
theorem dX6_unit_102 : decode cX6_unit 102 = .ok (.invokevirtual 135, 3) := by decide +kernel
theorem dX6_unit_121 : decode cX6_unit 121 = .ok (.iconst 0, 1) := by decide +kernel
theorem dX6_unit_122 : decode cX6_unit 122 = .ok (.ireturn, 1) := by decide +kernel
theorem dX6_product_0 : decode cX6_product 0 = .ok (.aload_n 0, 1) := by decide +kernel
theorem dX6_product_1 : decode cX6_product 1 = .ok (.aload_n 1, 1) := by decide +kernel
theorem dX6_product_2 : decode cX6_product 2 = .ok (.iload_n 2, 1) := by decide +kernel
theorem dX6_product_3 : decode cX6_product 3 = .ok (.invokevirtual 147, 3) := by decide +kernel
theorem dX6_product_6 : decode cX6_product 6 = .ok (.istore_n 3, 1) := by decide +kernel
theorem dX6_product_7 : decode cX6_product 7 = .ok (.iconst 0, 1) := by decide +kernel
theorem dX6_product_8 : decode cX6_product 8 = .ok (.istore 4, 2) := by decide +kernel
theorem dX6_product_10 : decode cX6_product 10 = .ok (.iload_n 3, 1) := by decide +kernel
theorem dX6_product_11 : decode cX6_product 11 = .ok (.ifCond .eq 83, 3) := by decide +kernel
theorem dX6_product_14 : decode cX6_product 14 = .ok (.aload_n 0, 1) := by decide +kernel
theorem dX6_product_15 : decode cX6_product 15 = .ok (.getfield 53, 3) := by decide +kernel
theorem dX6_product_18 : decode cX6_product 18 = .ok (.bipush 42, 2) := by decide +kernel
theorem dX6_product_20 : decode cX6_product 20 = .ok (.if_icmp .eq 12, 3) := by decide +kernel
theorem dX6_product_23 : decode cX6_product 23 = .ok (.aload_n 0, 1) := by decide +kernel
theorem dX6_product_24 : decode cX6_product 24 = .ok (.getfield 53, 3) := by decide +kernel
theorem dX6_product_27 : decode cX6_product 27 = .ok (.bipush 47, 2) := by decide +kernel
theorem dX6_product_29 : decode cX6_product 29 = .ok (.if_icmp .ne 65, 3) := by decide +kernel
theorem dX6_product_32 : decode cX6_product 32 = .ok (.iload 4, 2) := by decide +kernel
theorem dX6_product_34 : decode cX6_product 34 = .ok (.sipush 400, 3) := by decide +kernel
theorem dX6_product_37 : decode cX6_product 37 = .ok (.if_icmp .ge 57, 3) := by decide +kernel
theorem dX6_product_40 : decode cX6_product 40 = .ok (.aload_n 0, 1) := by decide +kernel
theorem dX6_product_41 : decode cX6_product 41 = .ok (.getfield 53, 3) := by decide +kernel
theorem dX6_product_44 : decode cX6_product 44 = .ok (.istore 5, 2) := by decide +kernel
theorem dX6_product_46 : decode cX6_product 46 = .ok (.aload_n 0, 1) := by decide +kernel
theorem dX6_product_47 : decode cX6_product 47 = .ok (.iload 5, 2) := by decide +kernel
theorem dX6_product_49 : decode cX6_product 49 = .ok (.invokevirtual 77, 3) := by decide +kernel
theorem dX6_product_52 : decode cX6_product 52 = .ok (.ifCond .eq 16, 3) := by decide +kernel
theorem dX6_product_55 : decode cX6_product 55 = .ok (.aload_n 0, 1) := by decide +kernel
theorem dX6_product_56 : decode cX6_product 56 = .ok (.aload_n 1, 1) := by decide +kernel
theorem dX6_product_57 : decode cX6_product 57 = .ok (.iload_n 2, 1) := by decide +kernel
theorem dX6_product_58 : decode cX6_product 58 = .ok (.invokevirtual 147, 3) := by decide +kernel
theorem dX6_product_61 : decode cX6_product 61 = .ok (.ifCond .eq 7, 3) := by decide +kernel
theorem dX6_product_64 : decode cX6_product 64 = .ok (.iconst 1, 1) := by decide +kernel
theorem dX6_product_65 : decode cX6_product 65 = .ok (.goto 4, 3) := by decide +kernel
theorem dX6_product_68 : decode cX6_product 68 = .ok (.iconst 0, 1) := by decide +kernel
theorem dX6_product_69 : decode cX6_product 69 = .ok (.istore_n 3, 1) := by decide +kernel
theorem dX6_product_70 : decode cX6_product 70 = .ok (.aload_n 1, 1) := by decide +kernel
theorem dX6_product_71 : decode cX6_product 71 = .ok (.iload 5, 2) := by decide +kernel
theorem dX6_product_73 : decode cX6_product 73 = .ok (.bipush 42, 2) := by decide +kernel
theorem dX6_product_75 : decode cX6_product 75 = .ok (.if_icmp .ne 8, 3) := by decide +kernel
theorem dX6_product_78 : decode cX6_product 78 = .ok (.bipush (-3), 2) := by decide +kernel
theorem dX6_product_80 : decode cX6_product 80 = .ok (.goto 5, 3) := by decide +kernel
theorem dX6_product_83 : decode cX6_product 83 = .ok (.bipush (-4), 2) := by decide +kernel
theorem dX6_product_85 : decode cX6_product 85 = .ok (.invokevirtual 138, 3) := by decide +kernel
theorem dX6_product_88 : decode cX6_product 88 = .ok (.iinc 4 1, 3) := by decide +kernel
theorem dX6_product_91 : decode cX6_product 91 = .ok (.goto (-81), 3) := by decide +kernel
theorem dX6_product_94 : decode cX6_product 94 = .ok (.iload_n 3, 1) := by decide +kernel
theorem dX6_product_95 : decode cX6_product 95 = .ok (.ireturn, 1) := by decide +kernel
