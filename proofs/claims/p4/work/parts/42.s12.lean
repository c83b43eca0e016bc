theorem dX4_lookAt_0 : decode cX4_lookAt 0 = .ok (.aload_n 0, 1) := by decide +kernel
theorem dX4_lookAt_1 : decode cX4_lookAt 1 = .ok (.getfield 12, 3) := by decide +kernel
theorem dX4_lookAt_4 : decode cX4_lookAt 4 = .ok (.getfield 107, 3) := by decide +kernel
theorem dX4_lookAt_7 : decode cX4_lookAt 7 = .ok (.iconst 0, 1) := by decide +kernel
theorem dX4_lookAt_8 : decode cX4_lookAt 8 = .ok (.aload_n 1, 1) := by decide +kernel
theorem dX4_lookAt_9 : decode cX4_lookAt 9 = .ok (.getfield 110, 3) := by decide +kernel
theorem dX4_lookAt_12 : decode cX4_lookAt 12 = .ok (.iload_n 3, 1) := by decide +kernel
theorem dX4_lookAt_13 : decode cX4_lookAt 13 = .ok (.iaload, 1) := by decide +kernel
theorem dX4_lookAt_14 : decode cX4_lookAt 14 = .ok (.iastore, 1) := by decide +kernel
theorem dX4_lookAt_15 : decode cX4_lookAt 15 = .ok (.aload_n 0, 1) := by decide +kernel
theorem dX4_lookAt_16 : decode cX4_lookAt 16 = .ok (.getfield 12, 3) := by decide +kernel
theorem dX4_lookAt_19 : decode cX4_lookAt 19 = .ok (.getfield 107, 3) := by decide +kernel
theorem dX4_lookAt_22 : decode cX4_lookAt 22 = .ok (.iconst 1, 1) := by decide +kernel
theorem dX4_lookAt_23 : decode cX4_lookAt 23 = .ok (.aload_n 1, 1) := by decide +kernel
theorem dX4_lookAt_24 : decode cX4_lookAt 24 = .ok (.getfield 113, 3) := by decide +kernel
theorem dX4_lookAt_27 : decode cX4_lookAt 27 = .ok (.iload_n 3, 1) := by decide +kernel
theorem dX4_lookAt_28 : decode cX4_lookAt 28 = .ok (.iaload, 1) := by decide +kernel
theorem dX4_lookAt_29 : decode cX4_lookAt 29 = .ok (.iastore, 1) := by decide +kernel
theorem dX4_lookAt_30 : decode cX4_lookAt 30 = .ok (.aload_n 0, 1) := by decide +kernel
theorem dX4_lookAt_31 : decode cX4_lookAt 31 = .ok (.getfield 12, 3) := by decide +kernel
theorem dX4_lookAt_34 : decode cX4_lookAt 34 = .ok (.getfield 107, 3) := by decide +kernel
theorem dX4_lookAt_37 : decode cX4_lookAt 37 = .ok (.iconst 3, 1) := by decide +kernel
theorem dX4_lookAt_38 : decode cX4_lookAt 38 = .ok (.aload_n 2, 1) := by decide +kernel
theorem dX4_lookAt_39 : decode cX4_lookAt 39 = .ok (.getfield 78, 3) := by decide +kernel
theorem dX4_lookAt_42 : decode cX4_lookAt 42 = .ok (.iastore, 1) := by decide +kernel
theorem dX4_lookAt_43 : decode cX4_lookAt 43 = .ok (.aload_n 0, 1) := by decide +kernel
theorem dX4_lookAt_44 : decode cX4_lookAt 44 = .ok (.getfield 12, 3) := by decide +kernel
theorem dX4_lookAt_47 : decode cX4_lookAt 47 = .ok (.getfield 107, 3) := by decide +kernel
theorem dX4_lookAt_50 : decode cX4_lookAt 50 = .ok (.iconst 4, 1) := by decide +kernel
theorem dX4_lookAt_51 : decode cX4_lookAt 51 = .ok (.aload_n 2, 1) := by decide +kernel
theorem dX4_lookAt_52 : decode cX4_lookAt 52 = .ok (.getfield 42, 3) := by decide +kernel
theorem dX4_lookAt_55 : decode cX4_lookAt 55 = .ok (.iastore, 1) := by decide +kernel
theorem dX4_lookAt_56 : decode cX4_lookAt 56 = .ok (.aload_n 0, 1) := by decide +kernel
theorem dX4_lookAt_57 : decode cX4_lookAt 57 = .ok (.getfield 12, 3) := by decide +kernel
theorem dX4_lookAt_60 : decode cX4_lookAt 60 = .ok (.getfield 107, 3) := by decide +kernel
theorem dX4_lookAt_63 : decode cX4_lookAt 63 = .ok (.iconst 5, 1) := by decide +kernel
theorem dX4_lookAt_64 : decode cX4_lookAt 64 = .ok (.iload 4, 2) := by decide +kernel
theorem dX4_lookAt_66 : decode cX4_lookAt 66 = .ok (.iastore, 1) := by decide +kernel
theorem dX4_lookAt_67 : decode cX4_lookAt 67 = .ok (.aload_n 0, 1) := by decide +kernel
theorem dX4_lookAt_68 : decode cX4_lookAt 68 = .ok (.getfield 12, 3) := by decide +kernel
theorem dX4_lookAt_71 : decode cX4_lookAt 71 = .ok (.getfield 107, 3) := by decide +kernel
theorem dX4_lookAt_74 : decode cX4_lookAt 74 = .ok (.bipush 6, 2) := by decide +kernel
theorem dX4_lookAt_76 : decode cX4_lookAt 76 = .ok (.iload_n 3, 1) := by decide +kernel
theorem dX4_lookAt_77 : decode cX4_lookAt 77 = .ok (.iastore, 1) := by decide +kernel
theorem dX4_lookAt_78 : decode cX4_lookAt 78 = .ok (.aload_n 0, 1) := by decide +kernel
theorem dX4_lookAt_79 : decode cX4_lookAt 79 = .ok (.getfield 12, 3) := by decide +kernel
theorem dX4_lookAt_82 : decode cX4_lookAt 82 = .ok (.getfield 107, 3) := by decide +kernel
theorem dX4_lookAt_85 : decode cX4_lookAt 85 = .ok (.bipush 7, 2) := by decide +kernel
theorem dX4_lookAt_87 : decode cX4_lookAt 87 = .ok (.aload_n 2, 1) := by decide +kernel
theorem dX4_lookAt_88 : decode cX4_lookAt 88 = .ok (.getfield 98, 3) := by decide +kernel
theorem dX4_lookAt_91 : decode cX4_lookAt 91 = .ok (.iastore, 1) := by decide +kernel
theorem dX4_lookAt_92 : decode cX4_lookAt 92 = .ok (.aload_n 0, 1) := by decide +kernel
theorem dX4_lookAt_93 : decode cX4_lookAt 93 = .ok (.getfield 12, 3) := by decide +kernel
theorem dX4_lookAt_96 : decode cX4_lookAt 96 = .ok (.getfield 107, 3) := by decide +kernel
theorem dX4_lookAt_99 : decode cX4_lookAt 99 = .ok (.bipush 8, 2) := by decide +kernel
theorem dX4_lookAt_101 : decode cX4_lookAt 101 = .ok (.aload_n 2, 1) := by decide +kernel
theorem dX4_lookAt_102 : decode cX4_lookAt 102 = .ok (.getfield 78, 3) := by decide +kernel
theorem dX4_lookAt_105 : decode cX4_lookAt 105 = .ok (.iconst 1, 1) := by decide +kernel
theorem dX4_lookAt_106 : decode cX4_lookAt 106 = .ok (.iand, 1) := by decide +kernel
theorem dX4_lookAt_107 : decode cX4_lookAt 107 = .ok (.iastore, 1) := by decide +kernel
theorem dX4_lookAt_108 : decode cX4_lookAt 108 = .ok (.return_, 1) := by decide +kernel
theorem dX4_catchOne_0 : decode cX4_catchOne 0 = .ok (.aload_n 2, 1) := by decide +kernel
theorem dX4_catchOne_1 : decode cX4_catchOne 1 = .ok (.aload_n 1, 1) := by decide +kernel
theorem dX4_catchOne_2 : decode cX4_catchOne 2 = .ok (.invokevirtual 84, 3) := by decide +kernel
theorem dX4_catchOne_5 : decode cX4_catchOne 5 = .ok (.istore 5, 2) := by decide +kernel
theorem dX4_catchOne_7 : decode cX4_catchOne 7 = .ok (.iload 4, 2) := by decide +kernel
theorem dX4_catchOne_9 : decode cX4_catchOne 9 = .ok (.iconst (-1), 1) := by decide +kernel
theorem dX4_catchOne_10 : decode cX4_catchOne 10 = .ok (.if_icmp .eq 33, 3) := by decide +kernel
theorem dX4_catchOne_13 : decode cX4_catchOne 13 = .ok (.bipush 100, 2) := by decide +kernel
theorem dX4_catchOne_15 : decode cX4_catchOne 15 = .ok (.iload 4, 2) := by decide +kernel
theorem dX4_catchOne_17 : decode cX4_catchOne 17 = .ok (.iconst 4, 1) := by decide +kernel
theorem dX4_catchOne_18 : decode cX4_catchOne 18 = .ok (.aload_n 2, 1) := by decide +kernel
theorem dX4_catchOne_19 : decode cX4_catchOne 19 = .ok (.getfield 78, 3) := by decide +kernel
theorem dX4_catchOne_22 : decode cX4_catchOne 22 = .ok (.imul, 1) := by decide +kernel
theorem dX4_catchOne_23 : decode cX4_catchOne 23 = .ok (.invokestatic 88, 3) := by decide +kernel
theorem dX4_catchOne_26 : decode cX4_catchOne 26 = .ok (.aload_n 0, 1) := by decide +kernel
theorem dX4_catchOne_27 : decode cX4_catchOne 27 = .ok (.aload_n 1, 1) := by decide +kernel
theorem dX4_catchOne_28 : decode cX4_catchOne 28 = .ok (.iconst 1, 1) := by decide +kernel
theorem dX4_catchOne_29 : decode cX4_catchOne 29 = .ok (.iload 5, 2) := by decide +kernel
theorem dX4_catchOne_31 : decode cX4_catchOne 31 = .ok (.invokevirtual 38, 3) := by decide +kernel
theorem dX4_catchOne_34 : decode cX4_catchOne 34 = .ok (.if_icmp .ge 9, 3) := by decide +kernel
theorem dX4_catchOne_37 : decode cX4_catchOne 37 = .ok (.aload_n 2, 1) := by decide +kernel
theorem dX4_catchOne_38 : decode cX4_catchOne 38 = .ok (.iload_n 3, 1) := by decide +kernel
theorem dX4_catchOne_39 : decode cX4_catchOne 39 = .ok (.invokevirtual 64, 3) := by decide +kernel
theorem dX4_catchOne_42 : decode cX4_catchOne 42 = .ok (.return_, 1) := by decide +kernel
theorem dX4_catchOne_43 : decode cX4_catchOne 43 = .ok (.aload_n 2, 1) := by decide +kernel
theorem dX4_catchOne_44 : decode cX4_catchOne 44 = .ok (.dup, 1) := by decide +kernel
theorem dX4_catchOne_45 : decode cX4_catchOne 45 = .ok (.getfield 92, 3) := by decide +kernel
theorem dX4_catchOne_48 : decode cX4_catchOne 48 = .ok (.aload_n 0, 1) := by decide +kernel
theorem dX4_catchOne_49 : decode cX4_catchOne 49 = .ok (.aload_n 1, 1) := by decide +kernel
theorem dX4_catchOne_50 : decode cX4_catchOne 50 = .ok (.iconst 3, 1) := by decide +kernel
theorem dX4_catchOne_51 : decode cX4_catchOne 51 = .ok (.iconst 0, 1) := by decide +kernel
theorem dX4_catchOne_52 : decode cX4_catchOne 52 = .ok (.invokevirtual 38, 3) := by decide +kernel
theorem dX4_catchOne_55 : decode cX4_catchOne 55 = .ok (.iadd, 1) := by decide +kernel
theorem dX4_catchOne_56 : decode cX4_catchOne 56 = .ok (.putfield 92, 3) := by decide +kernel
theorem dX4_catchOne_59 : decode cX4_catchOne 59 = .ok (.aload_n 2, 1) := by decide +kernel
theorem dX4_catchOne_60 : decode cX4_catchOne 60 = .ok (.sipush 999, 3) := by decide +kernel
theorem dX4_catchOne_63 : decode cX4_catchOne 63 = .ok (.aload_n 2, 1) := by decide +kernel
theorem dX4_catchOne_64 : decode cX4_catchOne 64 = .ok (.getfield 42, 3) := by decide +kernel
theorem dX4_catchOne_67 : decode cX4_catchOne 67 = .ok (.aload_n 0, 1) := by decide +kernel
theorem dX4_catchOne_68 : decode cX4_catchOne 68 = .ok (.aload_n 1, 1) := by decide +kernel
theorem dX4_catchOne_69 : decode cX4_catchOne 69 = .ok (.iconst 0, 1) := by decide +kernel
theorem dX4_catchOne_70 : decode cX4_catchOne 70 = .ok (.iload 5, 2) := by decide +kernel
theorem dX4_catchOne_72 : decode cX4_catchOne 72 = .ok (.invokevirtual 38, 3) := by decide +kernel
theorem dX4_catchOne_75 : decode cX4_catchOne 75 = .ok (.iadd, 1) := by decide +kernel
theorem dX4_catchOne_76 : decode cX4_catchOne 76 = .ok (.invokestatic 95, 3) := by decide +kernel
theorem dX4_catchOne_79 : decode cX4_catchOne 79 = .ok (.putfield 42, 3) := by decide +kernel
theorem dX4_catchOne_82 : decode cX4_catchOne 82 = .ok (.aload_n 2, 1) := by decide +kernel
theorem dX4_catchOne_83 : decode cX4_catchOne 83 = .ok (.dup, 1) := by decide +kernel
theorem dX4_catchOne_84 : decode cX4_catchOne 84 = .ok (.getfield 98, 3) := by decide +kernel
theorem dX4_catchOne_87 : decode cX4_catchOne 87 = .ok (.iconst 1, 1) := by decide +kernel
theorem dX4_catchOne_88 : decode cX4_catchOne 88 = .ok (.iadd, 1) := by decide +kernel
theorem dX4_catchOne_89 : decode cX4_catchOne 89 = .ok (.putfield 98, 3) := by decide +kernel
theorem dX4_catchOne_92 : decode cX4_catchOne 92 = .ok (.aload_n 2, 1) := by decide +kernel
theorem dX4_catchOne_93 : decode cX4_catchOne 93 = .ok (.getfield 101, 3) := by decide +kernel
theorem dX4_catchOne_96 : decode cX4_catchOne 96 = .ok (.iload_n 3, 1) := by decide +kernel
theorem dX4_catchOne_97 : decode cX4_catchOne 97 = .ok (.dup2, 1) := by decide +kernel
theorem dX4_catchOne_98 : decode cX4_catchOne 98 = .ok (.iaload, 1) := by decide +kernel
theorem dX4_catchOne_99 : decode cX4_catchOne 99 = .ok (.iconst 1, 1) := by decide +kernel
theorem dX4_catchOne_100 : decode cX4_catchOne 100 = .ok (.iadd, 1) := by decide +kernel
theorem dX4_catchOne_101 : decode cX4_catchOne 101 = .ok (.iastore, 1) := by decide +kernel
theorem dX4_catchOne_102 : decode cX4_catchOne 102 = .ok (.aload_n 2, 1) := by decide +kernel
theorem dX4_catchOne_103 : decode cX4_catchOne 103 = .ok (.getfield 74, 3) := by decide +kernel
theorem dX4_catchOne_106 : decode cX4_catchOne 106 = .ok (.iload_n 3, 1) := by decide +kernel
theorem dX4_catchOne_107 : decode cX4_catchOne 107 = .ok (.iload 5, 2) := by decide +kernel
theorem dX4_catchOne_109 : decode cX4_catchOne 109 = .ok (.iastore, 1) := by decide +kernel
theorem dX4_catchOne_110 : decode cX4_catchOne 110 = .ok (.iload 5, 2) := by decide +kernel
theorem dX4_catchOne_112 : decode cX4_catchOne 112 = .ok (.ifCond .ne 10, 3) := by decide +kernel
theorem dX4_catchOne_115 : decode cX4_catchOne 115 = .ok (.aload_n 2, 1) := by decide +kernel
theorem dX4_catchOne_116 : decode cX4_catchOne 116 = .ok (.getfield 104, 3) := by decide +kernel
theorem dX4_catchOne_119 : decode cX4_catchOne 119 = .ok (.iload_n 3, 1) := by decide +kernel
theorem dX4_catchOne_120 : decode cX4_catchOne 120 = .ok (.iconst 1, 1) := by decide +kernel
theorem dX4_catchOne_121 : decode cX4_catchOne 121 = .ok (.iastore, 1) := by decide +kernel
theorem dX4_catchOne_122 : decode cX4_catchOne 122 = .ok (.return_, 1) := by decide +kernel
theorem dX4_oneBeat_32 : decode cX4_oneBeat 32 = .ok (.iload 4, 2) := by decide +kernel
theorem dX4_oneBeat_34 : decode cX4_oneBeat 34 = .ok (.iconst 1, 1) := by decide +kernel
theorem dX4_oneBeat_35 : decode cX4_oneBeat 35 = .ok (.iadd, 1) := by decide +kernel
theorem dX4_oneBeat_36 : decode cX4_oneBeat 36 = .ok (.istore 5, 2) := by decide +kernel
theorem dX4_oneBeat_38 : decode cX4_oneBeat 38 = .ok (.iload 5, 2) := by decide +kernel
theorem dX4_oneBeat_40 : decode cX4_oneBeat 40 = .ok (.aload_n 2, 1) := by decide +kernel
theorem dX4_oneBeat_41 : decode cX4_oneBeat 41 = .ok (.getfield 57, 3) := by decide +kernel
theorem dX4_oneBeat_44 : decode cX4_oneBeat 44 = .ok (.if_icmp .ge 24, 3) := by decide +kernel
theorem dX4_oneBeat_47 : decode cX4_oneBeat 47 = .ok (.aload_n 2, 1) := by decide +kernel
theorem dX4_oneBeat_48 : decode cX4_oneBeat 48 = .ok (.iload 5, 2) := by decide +kernel
theorem dX4_oneBeat_50 : decode cX4_oneBeat 50 = .ok (.invokevirtual 60, 3) := by decide +kernel
theorem dX4_oneBeat_53 : decode cX4_oneBeat 53 = .ok (.ifCond .eq 9, 3) := by decide +kernel
theorem dX4_oneBeat_56 : decode cX4_oneBeat 56 = .ok (.aload_n 2, 1) := by decide +kernel
theorem dX4_oneBeat_57 : decode cX4_oneBeat 57 = .ok (.iload 5, 2) := by decide +kernel
theorem dX4_oneBeat_59 : decode cX4_oneBeat 59 = .ok (.invokevirtual 64, 3) := by decide +kernel
theorem dX4_oneBeat_62 : decode cX4_oneBeat 62 = .ok (.iinc 5 1, 3) := by decide +kernel
theorem dX4_oneBeat_65 : decode cX4_oneBeat 65 = .ok (.goto (-27), 3) := by decide +kernel
theorem dX4_oneBeat_68 : decode cX4_oneBeat 68 = .ok (.aload_n 0, 1) := by decide +kernel
theorem dX4_oneBeat_69 : decode cX4_oneBeat 69 = .ok (.aload_n 1, 1) := by decide +kernel
theorem dX4_oneBeat_70 : decode cX4_oneBeat 70 = .ok (.aload_n 2, 1) := by decide +kernel
theorem dX4_oneBeat_71 : decode cX4_oneBeat 71 = .ok (.iload 4, 2) := by decide +kernel
theorem dX4_oneBeat_73 : decode cX4_oneBeat 73 = .ok (.aload_n 2, 1) := by decide +kernel
theorem dX4_oneBeat_74 : decode cX4_oneBeat 74 = .ok (.invokevirtual 28, 3) := by decide +kernel
theorem dX4_oneBeat_77 : decode cX4_oneBeat 77 = .ok (.invokevirtual 34, 3) := by decide +kernel
theorem dX4_oneBeat_80 : decode cX4_oneBeat 80 = .ok (.aload_n 0, 1) := by decide +kernel
theorem dX4_oneBeat_81 : decode cX4_oneBeat 81 = .ok (.aload_n 1, 1) := by decide +kernel
theorem dX4_oneBeat_82 : decode cX4_oneBeat 82 = .ok (.aload_n 2, 1) := by decide +kernel
theorem dX4_oneBeat_83 : decode cX4_oneBeat 83 = .ok (.iload 4, 2) := by decide +kernel
theorem dX4_oneBeat_85 : decode cX4_oneBeat 85 = .ok (.iload_n 3, 1) := by decide +kernel
theorem dX4_oneBeat_86 : decode cX4_oneBeat 86 = .ok (.invokevirtual 68, 3) := by decide +kernel
theorem dX4_oneBeat_101 : decode cX4_oneBeat 101 = .ok (.aload_n 2, 1) := by decide +kernel
theorem dX4_oneBeat_102 : decode cX4_oneBeat 102 = .ok (.iload 5, 2) := by decide +kernel
theorem dX4_oneBeat_104 : decode cX4_oneBeat 104 = .ok (.invokevirtual 71, 3) := by decide +kernel
theorem dX4_oneBeat_107 : decode cX4_oneBeat 107 = .ok (.ifCond .eq 14, 3) := by decide +kernel
theorem dX4_oneBeat_110 : decode cX4_oneBeat 110 = .ok (.aload_n 2, 1) := by decide +kernel
theorem dX4_oneBeat_111 : decode cX4_oneBeat 111 = .ok (.getfield 74, 3) := by decide +kernel
theorem dX4_oneBeat_114 : decode cX4_oneBeat 114 = .ok (.iload 5, 2) := by decide +kernel
theorem dX4_oneBeat_116 : decode cX4_oneBeat 116 = .ok (.dup2, 1) := by decide +kernel
theorem dX4_oneBeat_117 : decode cX4_oneBeat 117 = .ok (.iaload, 1) := by decide +kernel
theorem dX4_oneBeat_118 : decode cX4_oneBeat 118 = .ok (.iconst 1, 1) := by decide +kernel
theorem dX4_oneBeat_119 : decode cX4_oneBeat 119 = .ok (.isub, 1) := by decide +kernel
theorem dX4_oneBeat_120 : decode cX4_oneBeat 120 = .ok (.iastore, 1) := by decide +kernel
theorem dX4_oneBeat_121 : decode cX4_oneBeat 121 = .ok (.iinc 5 1, 3) := by decide +kernel
theorem dX4_oneBeat_124 : decode cX4_oneBeat 124 = .ok (.goto (-32), 3) := by decide +kernel
theorem dX4_inForce_12 : decode cX4_inForce 12 = .ok (.aload_n 0, 1) := by decide +kernel
theorem dX4_inForce_13 : decode cX4_inForce 13 = .ok (.aload_n 1, 1) := by decide +kernel
theorem dX4_inForce_14 : decode cX4_inForce 14 = .ok (.aload_n 2, 1) := by decide +kernel
theorem dX4_inForce_15 : decode cX4_inForce 15 = .ok (.iload_n 3, 1) := by decide +kernel
theorem dX4_inForce_16 : decode cX4_inForce 16 = .ok (.aload_n 2, 1) := by decide +kernel
theorem dX4_inForce_17 : decode cX4_inForce 17 = .ok (.invokevirtual 28, 3) := by decide +kernel
theorem dX4_inForce_20 : decode cX4_inForce 20 = .ok (.aload_n 2, 1) := by decide +kernel
theorem dX4_inForce_21 : decode cX4_inForce 21 = .ok (.invokevirtual 31, 3) := by decide +kernel
theorem dX4_inForce_24 : decode cX4_inForce 24 = .ok (.iconst 1, 1) := by decide +kernel
theorem dX4_inForce_25 : decode cX4_inForce 25 = .ok (.isub, 1) := by decide +kernel
theorem dX4_inForce_26 : decode cX4_inForce 26 = .ok (.isub, 1) := by decide +kernel
theorem dX4_inForce_27 : decode cX4_inForce 27 = .ok (.invokevirtual 34, 3) := by decide +kernel
theorem dX4_inForce_30 : decode cX4_inForce 30 = .ok (.aload_n 0, 1) := by decide +kernel
theorem dX4_inForce_31 : decode cX4_inForce 31 = .ok (.aload_n 1, 1) := by decide +kernel
theorem dX4_inForce_32 : decode cX4_inForce 32 = .ok (.iconst 2, 1) := by decide +kernel
theorem dX4_inForce_33 : decode cX4_inForce 33 = .ok (.iconst 0, 1) := by decide +kernel
theorem dX4_inForce_34 : decode cX4_inForce 34 = .ok (.invokevirtual 38, 3) := by decide +kernel
theorem dX4_inForce_37 : decode cX4_inForce 37 = .ok (.ireturn, 1) := by decide +kernel
