theorem dX12_fillsFar_0 : decode cX12_fillsFar 0 = .ok (.iconst 0, 1) := by decide +kernel
theorem dX12_fillsFar_1 : decode cX12_fillsFar 1 = .ok (.istore_n 2, 1) := by decide +kernel
theorem dX12_fillsFar_2 : decode cX12_fillsFar 2 = .ok (.iload_n 2, 1) := by decide +kernel
theorem dX12_fillsFar_3 : decode cX12_fillsFar 3 = .ok (.sipush 1024, 3) := by decide +kernel
theorem dX12_fillsFar_6 : decode cX12_fillsFar 6 = .ok (.if_icmp .ge 26, 3) := by decide +kernel
theorem dX12_fillsFar_9 : decode cX12_fillsFar 9 = .ok (.aload_n 0, 1) := by decide +kernel
theorem dX12_fillsFar_10 : decode cX12_fillsFar 10 = .ok (.getfield 119, 3) := by decide +kernel
theorem dX12_fillsFar_13 : decode cX12_fillsFar 13 = .ok (.iload_n 2, 1) := by decide +kernel
theorem dX12_fillsFar_14 : decode cX12_fillsFar 14 = .ok (.iload_n 2, 1) := by decide +kernel
theorem dX12_fillsFar_15 : decode cX12_fillsFar 15 = .ok (.iload_n 1, 1) := by decide +kernel
theorem dX12_fillsFar_16 : decode cX12_fillsFar 16 = .ok (.if_icmp .ne 7, 3) := by decide +kernel
theorem dX12_fillsFar_19 : decode cX12_fillsFar 19 = .ok (.iconst 0, 1) := by decide +kernel
theorem dX12_fillsFar_20 : decode cX12_fillsFar 20 = .ok (.goto 5, 3) := by decide +kernel
theorem dX12_fillsFar_23 : decode cX12_fillsFar 23 = .ok (.bipush 99, 2) := by decide +kernel
theorem dX12_fillsFar_25 : decode cX12_fillsFar 25 = .ok (.iastore, 1) := by decide +kernel
theorem dX12_fillsFar_26 : decode cX12_fillsFar 26 = .ok (.iinc 2 1, 3) := by decide +kernel
theorem dX12_fillsFar_29 : decode cX12_fillsFar 29 = .ok (.goto (-27), 3) := by decide +kernel
theorem dX12_fillsFar_32 : decode cX12_fillsFar 32 = .ok (.iconst 1, 1) := by decide +kernel
theorem dX12_fillsFar_33 : decode cX12_fillsFar 33 = .ok (.istore_n 2, 1) := by decide +kernel
theorem dX12_fillsFar_34 : decode cX12_fillsFar 34 = .ok (.iload_n 2, 1) := by decide +kernel
theorem dX12_fillsFar_35 : decode cX12_fillsFar 35 = .ok (.bipush 12, 2) := by decide +kernel
theorem dX12_fillsFar_37 : decode cX12_fillsFar 37 = .ok (.if_icmp .gt 84, 3) := by decide +kernel
theorem dX12_fillsFar_40 : decode cX12_fillsFar 40 = .ok (.iconst 0, 1) := by decide +kernel
theorem dX12_fillsFar_41 : decode cX12_fillsFar 41 = .ok (.istore_n 3, 1) := by decide +kernel
theorem dX12_fillsFar_42 : decode cX12_fillsFar 42 = .ok (.iload_n 3, 1) := by decide +kernel
theorem dX12_fillsFar_43 : decode cX12_fillsFar 43 = .ok (.sipush 1024, 3) := by decide +kernel
theorem dX12_fillsFar_46 : decode cX12_fillsFar 46 = .ok (.if_icmp .ge 69, 3) := by decide +kernel
theorem dX12_fillsFar_49 : decode cX12_fillsFar 49 = .ok (.iconst 0, 1) := by decide +kernel
theorem dX12_fillsFar_50 : decode cX12_fillsFar 50 = .ok (.istore 4, 2) := by decide +kernel
theorem dX12_fillsFar_52 : decode cX12_fillsFar 52 = .ok (.iload 4, 2) := by decide +kernel
theorem dX12_fillsFar_54 : decode cX12_fillsFar 54 = .ok (.bipush 9, 2) := by decide +kernel
theorem dX12_fillsFar_56 : decode cX12_fillsFar 56 = .ok (.if_icmp .gt 53, 3) := by decide +kernel
theorem dX12_fillsFar_59 : decode cX12_fillsFar 59 = .ok (.aload_n 0, 1) := by decide +kernel
theorem dX12_fillsFar_60 : decode cX12_fillsFar 60 = .ok (.getfield 119, 3) := by decide +kernel
theorem dX12_fillsFar_63 : decode cX12_fillsFar 63 = .ok (.iload_n 3, 1) := by decide +kernel
theorem dX12_fillsFar_64 : decode cX12_fillsFar 64 = .ok (.iaload, 1) := by decide +kernel
theorem dX12_fillsFar_65 : decode cX12_fillsFar 65 = .ok (.bipush 99, 2) := by decide +kernel
theorem dX12_fillsFar_67 : decode cX12_fillsFar 67 = .ok (.if_icmp .ne 42, 3) := by decide +kernel
theorem dX12_fillsFar_70 : decode cX12_fillsFar 70 = .ok (.iload_n 3, 1) := by decide +kernel
theorem dX12_fillsFar_71 : decode cX12_fillsFar 71 = .ok (.iload 4, 2) := by decide +kernel
theorem dX12_fillsFar_73 : decode cX12_fillsFar 73 = .ok (.invokestatic 432, 3) := by decide +kernel
theorem dX12_fillsFar_76 : decode cX12_fillsFar 76 = .ok (.istore 5, 2) := by decide +kernel
theorem dX12_fillsFar_78 : decode cX12_fillsFar 78 = .ok (.iload 5, 2) := by decide +kernel
theorem dX12_fillsFar_80 : decode cX12_fillsFar 80 = .ok (.ifCond .lt 23, 3) := by decide +kernel
theorem dX12_fillsFar_83 : decode cX12_fillsFar 83 = .ok (.aload_n 0, 1) := by decide +kernel
theorem dX12_fillsFar_84 : decode cX12_fillsFar 84 = .ok (.getfield 119, 3) := by decide +kernel
theorem dX12_fillsFar_87 : decode cX12_fillsFar 87 = .ok (.iload 5, 2) := by decide +kernel
theorem dX12_fillsFar_89 : decode cX12_fillsFar 89 = .ok (.iaload, 1) := by decide +kernel
theorem dX12_fillsFar_90 : decode cX12_fillsFar 90 = .ok (.iload_n 2, 1) := by decide +kernel
theorem dX12_fillsFar_91 : decode cX12_fillsFar 91 = .ok (.iconst 1, 1) := by decide +kernel
theorem dX12_fillsFar_92 : decode cX12_fillsFar 92 = .ok (.isub, 1) := by decide +kernel
theorem dX12_fillsFar_93 : decode cX12_fillsFar 93 = .ok (.if_icmp .ne 10, 3) := by decide +kernel
theorem dX12_fillsFar_96 : decode cX12_fillsFar 96 = .ok (.aload_n 0, 1) := by decide +kernel
theorem dX12_fillsFar_97 : decode cX12_fillsFar 97 = .ok (.getfield 119, 3) := by decide +kernel
theorem dX12_fillsFar_100 : decode cX12_fillsFar 100 = .ok (.iload_n 3, 1) := by decide +kernel
theorem dX12_fillsFar_101 : decode cX12_fillsFar 101 = .ok (.iload_n 2, 1) := by decide +kernel
theorem dX12_fillsFar_102 : decode cX12_fillsFar 102 = .ok (.iastore, 1) := by decide +kernel
theorem dX12_fillsFar_103 : decode cX12_fillsFar 103 = .ok (.iinc 4 1, 3) := by decide +kernel
theorem dX12_fillsFar_106 : decode cX12_fillsFar 106 = .ok (.goto (-54), 3) := by decide +kernel
theorem dX12_fillsFar_109 : decode cX12_fillsFar 109 = .ok (.iinc 3 1, 3) := by decide +kernel
theorem dX12_fillsFar_112 : decode cX12_fillsFar 112 = .ok (.goto (-70), 3) := by decide +kernel
theorem dX12_fillsFar_115 : decode cX12_fillsFar 115 = .ok (.iinc 2 1, 3) := by decide +kernel
theorem dX12_fillsFar_118 : decode cX12_fillsFar 118 = .ok (.goto (-84), 3) := by decide +kernel
theorem dX12_fillsFar_121 : decode cX12_fillsFar 121 = .ok (.return_, 1) := by decide +kernel
theorem dX12_firstOf_0 : decode cX12_firstOf 0 = .ok (.iconst 0, 1) := by decide +kernel
theorem dX12_firstOf_1 : decode cX12_firstOf 1 = .ok (.istore_n 2, 1) := by decide +kernel
theorem dX12_firstOf_2 : decode cX12_firstOf 2 = .ok (.iload_n 1, 1) := by decide +kernel
theorem dX12_firstOf_3 : decode cX12_firstOf 3 = .ok (.iload_n 2, 1) := by decide +kernel
theorem dX12_firstOf_4 : decode cX12_firstOf 4 = .ok (.invokestatic 432, 3) := by decide +kernel
theorem dX12_firstOf_7 : decode cX12_firstOf 7 = .ok (.ifCond .lt 24, 3) := by decide +kernel
theorem dX12_firstOf_10 : decode cX12_firstOf 10 = .ok (.aload_n 0, 1) := by decide +kernel
theorem dX12_firstOf_11 : decode cX12_firstOf 11 = .ok (.getfield 119, 3) := by decide +kernel
theorem dX12_firstOf_14 : decode cX12_firstOf 14 = .ok (.iload_n 1, 1) := by decide +kernel
theorem dX12_firstOf_15 : decode cX12_firstOf 15 = .ok (.iload_n 2, 1) := by decide +kernel
theorem dX12_firstOf_16 : decode cX12_firstOf 16 = .ok (.invokestatic 432, 3) := by decide +kernel
theorem dX12_firstOf_19 : decode cX12_firstOf 19 = .ok (.iaload, 1) := by decide +kernel
theorem dX12_firstOf_20 : decode cX12_firstOf 20 = .ok (.aload_n 0, 1) := by decide +kernel
theorem dX12_firstOf_21 : decode cX12_firstOf 21 = .ok (.getfield 119, 3) := by decide +kernel
theorem dX12_firstOf_24 : decode cX12_firstOf 24 = .ok (.iload_n 1, 1) := by decide +kernel
theorem dX12_firstOf_25 : decode cX12_firstOf 25 = .ok (.iaload, 1) := by decide +kernel
theorem dX12_firstOf_26 : decode cX12_firstOf 26 = .ok (.iconst 1, 1) := by decide +kernel
theorem dX12_firstOf_27 : decode cX12_firstOf 27 = .ok (.isub, 1) := by decide +kernel
theorem dX12_firstOf_28 : decode cX12_firstOf 28 = .ok (.if_icmp .eq 9, 3) := by decide +kernel
theorem dX12_firstOf_31 : decode cX12_firstOf 31 = .ok (.iinc 2 1, 3) := by decide +kernel
theorem dX12_firstOf_34 : decode cX12_firstOf 34 = .ok (.goto (-32), 3) := by decide +kernel
theorem dX12_firstOf_37 : decode cX12_firstOf 37 = .ok (.iload_n 2, 1) := by decide +kernel
theorem dX12_firstOf_38 : decode cX12_firstOf 38 = .ok (.ireturn, 1) := by decide +kernel
theorem dX12_into_8 : decode cX12_into 8 = .ok (.aload_n 0, 1) := by decide +kernel
theorem dX12_into_9 : decode cX12_into 9 = .ok (.iload_n 1, 1) := by decide +kernel
theorem dX12_into_10 : decode cX12_into 10 = .ok (.invokevirtual 417, 3) := by decide +kernel
theorem dX12_into_13 : decode cX12_into 13 = .ok (.ifCond .lt 8, 3) := by decide +kernel
theorem dX12_into_16 : decode cX12_into 16 = .ok (.iload_n 2, 1) := by decide +kernel
theorem dX12_into_17 : decode cX12_into 17 = .ok (.iconst (-1), 1) := by decide +kernel
theorem dX12_into_18 : decode cX12_into 18 = .ok (.if_icmp .ge 5, 3) := by decide +kernel
theorem dX12_into_23 : decode cX12_into 23 = .ok (.aload_n 0, 1) := by decide +kernel
theorem dX12_into_24 : decode cX12_into 24 = .ok (.invokevirtual 435, 3) := by decide +kernel
theorem dX12_into_27 : decode cX12_into 27 = .ok (.istore_n 3, 1) := by decide +kernel
theorem dX12_into_28 : decode cX12_into 28 = .ok (.aload_n 0, 1) := by decide +kernel
theorem dX12_into_29 : decode cX12_into 29 = .ok (.aload_n 0, 1) := by decide +kernel
theorem dX12_into_30 : decode cX12_into 30 = .ok (.iload_n 1, 1) := by decide +kernel
theorem dX12_into_31 : decode cX12_into 31 = .ok (.invokevirtual 438, 3) := by decide +kernel
theorem dX12_into_34 : decode cX12_into 34 = .ok (.invokevirtual 441, 3) := by decide +kernel
theorem dX12_into_37 : decode cX12_into 37 = .ok (.aload_n 0, 1) := by decide +kernel
theorem dX12_into_38 : decode cX12_into 38 = .ok (.invokevirtual 444, 3) := by decide +kernel
theorem dX12_into_41 : decode cX12_into 41 = .ok (.ifCond .ne 14, 3) := by decide +kernel
theorem dX12_into_44 : decode cX12_into 44 = .ok (.aload_n 0, 1) := by decide +kernel
theorem dX12_into_45 : decode cX12_into 45 = .ok (.getfield 119, 3) := by decide +kernel
theorem dX12_into_48 : decode cX12_into 48 = .ok (.iload_n 3, 1) := by decide +kernel
theorem dX12_into_49 : decode cX12_into 49 = .ok (.iaload, 1) := by decide +kernel
theorem dX12_into_50 : decode cX12_into 50 = .ok (.bipush 99, 2) := by decide +kernel
theorem dX12_into_52 : decode cX12_into 52 = .ok (.if_icmp .ne 16, 3) := by decide +kernel
theorem dX12_into_55 : decode cX12_into 55 = .ok (.iload_n 2, 1) := by decide +kernel
theorem dX12_into_56 : decode cX12_into 56 = .ok (.iconst (-1), 1) := by decide +kernel
theorem dX12_into_57 : decode cX12_into 57 = .ok (.if_icmp .ne 8, 3) := by decide +kernel
theorem dX12_into_60 : decode cX12_into 60 = .ok (.bipush (-2), 2) := by decide +kernel
theorem dX12_into_62 : decode cX12_into 62 = .ok (.goto 5, 3) := by decide +kernel
theorem dX12_into_65 : decode cX12_into 65 = .ok (.bipush (-3), 2) := by decide +kernel
theorem dX12_into_67 : decode cX12_into 67 = .ok (.ireturn, 1) := by decide +kernel
theorem dX12_into_68 : decode cX12_into 68 = .ok (.iload_n 2, 1) := by decide +kernel
theorem dX12_into_69 : decode cX12_into 69 = .ok (.iconst (-1), 1) := by decide +kernel
theorem dX12_into_70 : decode cX12_into 70 = .ok (.if_icmp .ne 10, 3) := by decide +kernel
theorem dX12_into_73 : decode cX12_into 73 = .ok (.aload_n 0, 1) := by decide +kernel
theorem dX12_into_74 : decode cX12_into 74 = .ok (.getfield 119, 3) := by decide +kernel
theorem dX12_into_77 : decode cX12_into 77 = .ok (.iload_n 3, 1) := by decide +kernel
theorem dX12_into_78 : decode cX12_into 78 = .ok (.iaload, 1) := by decide +kernel
theorem dX12_into_79 : decode cX12_into 79 = .ok (.ireturn, 1) := by decide +kernel
theorem dX12_into_80 : decode cX12_into 80 = .ok (.iload_n 2, 1) := by decide +kernel
theorem dX12_into_81 : decode cX12_into 81 = .ok (.aload_n 0, 1) := by decide +kernel
theorem dX12_into_82 : decode cX12_into 82 = .ok (.getfield 119, 3) := by decide +kernel
theorem dX12_into_85 : decode cX12_into 85 = .ok (.iload_n 3, 1) := by decide +kernel
theorem dX12_into_86 : decode cX12_into 86 = .ok (.iaload, 1) := by decide +kernel
theorem dX12_into_87 : decode cX12_into 87 = .ok (.if_icmp .lt 5, 3) := by decide +kernel
theorem dX12_into_90 : decode cX12_into 90 = .ok (.iconst (-1), 1) := by decide +kernel
theorem dX12_into_91 : decode cX12_into 91 = .ok (.ireturn, 1) := by decide +kernel
theorem dX12_into_92 : decode cX12_into 92 = .ok (.iconst 0, 1) := by decide +kernel
theorem dX12_into_93 : decode cX12_into 93 = .ok (.istore 4, 2) := by decide +kernel
theorem dX12_into_95 : decode cX12_into 95 = .ok (.iload 4, 2) := by decide +kernel
theorem dX12_into_97 : decode cX12_into 97 = .ok (.iload_n 2, 1) := by decide +kernel
theorem dX12_into_98 : decode cX12_into 98 = .ok (.if_icmp .ge 19, 3) := by decide +kernel
theorem dX12_into_101 : decode cX12_into 101 = .ok (.iload_n 3, 1) := by decide +kernel
theorem dX12_into_102 : decode cX12_into 102 = .ok (.aload_n 0, 1) := by decide +kernel
theorem dX12_into_103 : decode cX12_into 103 = .ok (.iload_n 3, 1) := by decide +kernel
theorem dX12_into_104 : decode cX12_into 104 = .ok (.invokevirtual 448, 3) := by decide +kernel
theorem dX12_into_107 : decode cX12_into 107 = .ok (.invokestatic 432, 3) := by decide +kernel
theorem dX12_into_110 : decode cX12_into 110 = .ok (.istore_n 3, 1) := by decide +kernel
theorem dX12_into_111 : decode cX12_into 111 = .ok (.iinc 4 1, 3) := by decide +kernel
theorem dX12_into_114 : decode cX12_into 114 = .ok (.goto (-19), 3) := by decide +kernel
theorem dX12_into_117 : decode cX12_into 117 = .ok (.aload_n 0, 1) := by decide +kernel
theorem dX12_into_118 : decode cX12_into 118 = .ok (.iload_n 3, 1) := by decide +kernel
theorem dX12_into_119 : decode cX12_into 119 = .ok (.invokevirtual 448, 3) := by decide +kernel
theorem dX12_into_122 : decode cX12_into 122 = .ok (.ireturn, 1) := by decide +kernel
theorem dX12_orbits_10 : decode cX12_orbits 10 = .ok (.aload_n 0, 1) := by decide +kernel
theorem dX12_orbits_11 : decode cX12_orbits 11 = .ok (.iload_n 1, 1) := by decide +kernel
theorem dX12_orbits_12 : decode cX12_orbits 12 = .ok (.invokevirtual 417, 3) := by decide +kernel
theorem dX12_orbits_15 : decode cX12_orbits 15 = .ok (.ifCond .ge 6, 3) := by decide +kernel
theorem dX12_orbits_18 : decode cX12_orbits 18 = .ok (.bipush (-2), 2) := by decide +kernel
theorem dX12_orbits_20 : decode cX12_orbits 20 = .ok (.ireturn, 1) := by decide +kernel
theorem dX12_orbits_21 : decode cX12_orbits 21 = .ok (.iconst 0, 1) := by decide +kernel
theorem dX12_orbits_22 : decode cX12_orbits 22 = .ok (.istore_n 2, 1) := by decide +kernel
theorem dX12_orbits_23 : decode cX12_orbits 23 = .ok (.iconst 0, 1) := by decide +kernel
theorem dX12_orbits_24 : decode cX12_orbits 24 = .ok (.istore_n 3, 1) := by decide +kernel
theorem dX12_orbits_25 : decode cX12_orbits 25 = .ok (.iconst 0, 1) := by decide +kernel
theorem dX12_orbits_26 : decode cX12_orbits 26 = .ok (.istore 4, 2) := by decide +kernel
theorem dX12_orbits_28 : decode cX12_orbits 28 = .ok (.iload 4, 2) := by decide +kernel
theorem dX12_orbits_30 : decode cX12_orbits 30 = .ok (.aload_n 0, 1) := by decide +kernel
theorem dX12_orbits_31 : decode cX12_orbits 31 = .ok (.getfield 408, 3) := by decide +kernel
theorem dX12_orbits_34 : decode cX12_orbits 34 = .ok (.if_icmp .ge 65, 3) := by decide +kernel
theorem dX12_orbits_37 : decode cX12_orbits 37 = .ok (.iload_n 2, 1) := by decide +kernel
theorem dX12_orbits_38 : decode cX12_orbits 38 = .ok (.iload 4, 2) := by decide +kernel
theorem dX12_orbits_40 : decode cX12_orbits 40 = .ok (.ishr, 1) := by decide +kernel
theorem dX12_orbits_41 : decode cX12_orbits 41 = .ok (.iconst 1, 1) := by decide +kernel
theorem dX12_orbits_42 : decode cX12_orbits 42 = .ok (.iand, 1) := by decide +kernel
theorem dX12_orbits_43 : decode cX12_orbits 43 = .ok (.iconst 1, 1) := by decide +kernel
theorem dX12_orbits_44 : decode cX12_orbits 44 = .ok (.if_icmp .ne 6, 3) := by decide +kernel
theorem dX12_orbits_47 : decode cX12_orbits 47 = .ok (.goto 46, 3) := by decide +kernel
theorem dX12_orbits_50 : decode cX12_orbits 50 = .ok (.iinc 3 1, 3) := by decide +kernel
theorem dX12_orbits_53 : decode cX12_orbits 53 = .ok (.iload 4, 2) := by decide +kernel
theorem dX12_orbits_55 : decode cX12_orbits 55 = .ok (.istore 5, 2) := by decide +kernel
theorem dX12_orbits_57 : decode cX12_orbits 57 = .ok (.iload_n 2, 1) := by decide +kernel
theorem dX12_orbits_58 : decode cX12_orbits 58 = .ok (.iload 5, 2) := by decide +kernel
theorem dX12_orbits_60 : decode cX12_orbits 60 = .ok (.ishr, 1) := by decide +kernel
theorem dX12_orbits_61 : decode cX12_orbits 61 = .ok (.iconst 1, 1) := by decide +kernel
theorem dX12_orbits_62 : decode cX12_orbits 62 = .ok (.iand, 1) := by decide +kernel
theorem dX12_orbits_63 : decode cX12_orbits 63 = .ok (.ifCond .ne 30, 3) := by decide +kernel
theorem dX12_orbits_66 : decode cX12_orbits 66 = .ok (.iload_n 2, 1) := by decide +kernel
theorem dX12_orbits_67 : decode cX12_orbits 67 = .ok (.iconst 1, 1) := by decide +kernel
theorem dX12_orbits_68 : decode cX12_orbits 68 = .ok (.iload 5, 2) := by decide +kernel
theorem dX12_orbits_70 : decode cX12_orbits 70 = .ok (.ishl, 1) := by decide +kernel
theorem dX12_orbits_71 : decode cX12_orbits 71 = .ok (.ior, 1) := by decide +kernel
theorem dX12_orbits_72 : decode cX12_orbits 72 = .ok (.istore_n 2, 1) := by decide +kernel
theorem dX12_orbits_73 : decode cX12_orbits 73 = .ok (.iload 5, 2) := by decide +kernel
theorem dX12_orbits_75 : decode cX12_orbits 75 = .ok (.aload_n 0, 1) := by decide +kernel
theorem dX12_orbits_76 : decode cX12_orbits 76 = .ok (.getfield 116, 3) := by decide +kernel
theorem dX12_orbits_79 : decode cX12_orbits 79 = .ok (.iload 5, 2) := by decide +kernel
theorem dX12_orbits_81 : decode cX12_orbits 81 = .ok (.iaload, 1) := by decide +kernel
theorem dX12_orbits_82 : decode cX12_orbits 82 = .ok (.iadd, 1) := by decide +kernel
theorem dX12_orbits_83 : decode cX12_orbits 83 = .ok (.aload_n 0, 1) := by decide +kernel
theorem dX12_orbits_84 : decode cX12_orbits 84 = .ok (.getfield 408, 3) := by decide +kernel
theorem dX12_orbits_87 : decode cX12_orbits 87 = .ok (.irem, 1) := by decide +kernel
theorem dX12_orbits_88 : decode cX12_orbits 88 = .ok (.istore 5, 2) := by decide +kernel
theorem dX12_orbits_90 : decode cX12_orbits 90 = .ok (.goto (-33), 3) := by decide +kernel
theorem dX12_orbits_93 : decode cX12_orbits 93 = .ok (.iinc 4 1, 3) := by decide +kernel
theorem dX12_orbits_96 : decode cX12_orbits 96 = .ok (.goto (-68), 3) := by decide +kernel
theorem dX12_orbits_99 : decode cX12_orbits 99 = .ok (.iload_n 3, 1) := by decide +kernel
theorem dX12_orbits_100 : decode cX12_orbits 100 = .ok (.ireturn, 1) := by decide +kernel
