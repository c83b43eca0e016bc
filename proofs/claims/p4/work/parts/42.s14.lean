theorem dX11_restore_20 : decode cX11_restore 20 = .ok (.aload_n 0, 1) := by decide +kernel
theorem dX11_restore_21 : decode cX11_restore 21 = .ok (.getfield 54, 3) := by decide +kernel
theorem dX11_restore_24 : decode cX11_restore 24 = .ok (.aload_n 0, 1) := by decide +kernel
theorem dX11_restore_25 : decode cX11_restore 25 = .ok (.getfield 61, 3) := by decide +kernel
theorem dX11_restore_28 : decode cX11_restore 28 = .ok (.iload_n 1, 1) := by decide +kernel
theorem dX11_restore_29 : decode cX11_restore 29 = .ok (.aaload, 1) := by decide +kernel
theorem dX11_restore_30 : decode cX11_restore 30 = .ok (.invokevirtual 230, 3) := by decide +kernel
theorem dX11_restore_33 : decode cX11_restore 33 = .ok (.aload_n 0, 1) := by decide +kernel
theorem dX11_restore_34 : decode cX11_restore 34 = .ok (.getfield 26, 3) := by decide +kernel
theorem dX11_restore_37 : decode cX11_restore 37 = .ok (.invokevirtual 114, 3) := by decide +kernel
theorem dX11_restore_40 : decode cX11_restore 40 = .ok (.iconst 1, 1) := by decide +kernel
theorem dX11_restore_41 : decode cX11_restore 41 = .ok (.ireturn, 1) := by decide +kernel
theorem dX11_thing_13 : decode cX11_thing 13 = .ok (.iload_n 2, 1) := by decide +kernel
theorem dX11_thing_14 : decode cX11_thing 14 = .ok (.tableswitch 100 0 4 #[34, 44, 54, 64, 90], 34) := by decide +kernel
theorem dX11_thing_48 : decode cX11_thing 48 = .ok (.aload_n 0, 1) := by decide +kernel
theorem dX11_thing_49 : decode cX11_thing 49 = .ok (.getfield 82, 3) := by decide +kernel
theorem dX11_thing_52 : decode cX11_thing 52 = .ok (.getfield 125, 3) := by decide +kernel
theorem dX11_thing_55 : decode cX11_thing 55 = .ok (.iload_n 1, 1) := by decide +kernel
theorem dX11_thing_56 : decode cX11_thing 56 = .ok (.iaload, 1) := by decide +kernel
theorem dX11_thing_57 : decode cX11_thing 57 = .ok (.ireturn, 1) := by decide +kernel
theorem dX11_thing_58 : decode cX11_thing 58 = .ok (.aload_n 0, 1) := by decide +kernel
theorem dX11_thing_59 : decode cX11_thing 59 = .ok (.getfield 82, 3) := by decide +kernel
theorem dX11_thing_62 : decode cX11_thing 62 = .ok (.getfield 128, 3) := by decide +kernel
theorem dX11_thing_65 : decode cX11_thing 65 = .ok (.iload_n 1, 1) := by decide +kernel
theorem dX11_thing_66 : decode cX11_thing 66 = .ok (.iaload, 1) := by decide +kernel
theorem dX11_thing_67 : decode cX11_thing 67 = .ok (.ireturn, 1) := by decide +kernel
theorem dX11_thing_68 : decode cX11_thing 68 = .ok (.aload_n 0, 1) := by decide +kernel
theorem dX11_thing_69 : decode cX11_thing 69 = .ok (.getfield 54, 3) := by decide +kernel
theorem dX11_thing_72 : decode cX11_thing 72 = .ok (.getfield 131, 3) := by decide +kernel
theorem dX11_thing_75 : decode cX11_thing 75 = .ok (.iload_n 1, 1) := by decide +kernel
theorem dX11_thing_76 : decode cX11_thing 76 = .ok (.iaload, 1) := by decide +kernel
theorem dX11_thing_77 : decode cX11_thing 77 = .ok (.ireturn, 1) := by decide +kernel
theorem dX11_thing_78 : decode cX11_thing 78 = .ok (.aload_n 0, 1) := by decide +kernel
theorem dX11_thing_79 : decode cX11_thing 79 = .ok (.getfield 54, 3) := by decide +kernel
theorem dX11_thing_82 : decode cX11_thing 82 = .ok (.iload_n 1, 1) := by decide +kernel
theorem dX11_thing_83 : decode cX11_thing 83 = .ok (.invokevirtual 134, 3) := by decide +kernel
theorem dX11_thing_86 : decode cX11_thing 86 = .ok (.ifCond .eq 15, 3) := by decide +kernel
theorem dX11_thing_89 : decode cX11_thing 89 = .ok (.aload_n 0, 1) := by decide +kernel
theorem dX11_thing_90 : decode cX11_thing 90 = .ok (.getfield 54, 3) := by decide +kernel
theorem dX11_thing_93 : decode cX11_thing 93 = .ok (.getfield 137, 3) := by decide +kernel
theorem dX11_thing_96 : decode cX11_thing 96 = .ok (.iload_n 1, 1) := by decide +kernel
theorem dX11_thing_97 : decode cX11_thing 97 = .ok (.iaload, 1) := by decide +kernel
theorem dX11_thing_98 : decode cX11_thing 98 = .ok (.goto 5, 3) := by decide +kernel
theorem dX11_thing_101 : decode cX11_thing 101 = .ok (.bipush (-2), 2) := by decide +kernel
theorem dX11_thing_103 : decode cX11_thing 103 = .ok (.ireturn, 1) := by decide +kernel
theorem dX11_thing_104 : decode cX11_thing 104 = .ok (.aload_n 0, 1) := by decide +kernel
theorem dX11_thing_105 : decode cX11_thing 105 = .ok (.getfield 54, 3) := by decide +kernel
theorem dX11_thing_108 : decode cX11_thing 108 = .ok (.getfield 140, 3) := by decide +kernel
theorem dX11_thing_111 : decode cX11_thing 111 = .ok (.iload_n 1, 1) := by decide +kernel
theorem dX11_thing_112 : decode cX11_thing 112 = .ok (.iaload, 1) := by decide +kernel
theorem dX11_thing_113 : decode cX11_thing 113 = .ok (.ireturn, 1) := by decide +kernel
theorem dX11_thing_114 : decode cX11_thing 114 = .ok (.iconst (-1), 1) := by decide +kernel
theorem dX11_thing_115 : decode cX11_thing 115 = .ok (.ireturn, 1) := by decide +kernel
theorem dX11_pattern_13 : decode cX11_pattern 13 = .ok (.iload_n 2, 1) := by decide +kernel
theorem dX11_pattern_14 : decode cX11_pattern 14 = .ok (.iconst (-1), 1) := by decide +kernel
theorem dX11_pattern_15 : decode cX11_pattern 15 = .ok (.if_icmp .ne 13, 3) := by decide +kernel
theorem dX11_pattern_18 : decode cX11_pattern 18 = .ok (.aload_n 0, 1) := by decide +kernel
theorem dX11_pattern_19 : decode cX11_pattern 19 = .ok (.getfield 82, 3) := by decide +kernel
theorem dX11_pattern_22 : decode cX11_pattern 22 = .ok (.getfield 146, 3) := by decide +kernel
theorem dX11_pattern_25 : decode cX11_pattern 25 = .ok (.iload_n 1, 1) := by decide +kernel
theorem dX11_pattern_26 : decode cX11_pattern 26 = .ok (.iaload, 1) := by decide +kernel
theorem dX11_pattern_27 : decode cX11_pattern 27 = .ok (.ireturn, 1) := by decide +kernel
theorem dX11_pattern_28 : decode cX11_pattern 28 = .ok (.iload_n 2, 1) := by decide +kernel
theorem dX11_pattern_29 : decode cX11_pattern 29 = .ok (.ifCond .lt 30, 3) := by decide +kernel
theorem dX11_pattern_32 : decode cX11_pattern 32 = .ok (.iload_n 2, 1) := by decide +kernel
theorem dX11_pattern_33 : decode cX11_pattern 33 = .ok (.aload_n 0, 1) := by decide +kernel
theorem dX11_pattern_34 : decode cX11_pattern 34 = .ok (.getfield 82, 3) := by decide +kernel
theorem dX11_pattern_37 : decode cX11_pattern 37 = .ok (.getfield 146, 3) := by decide +kernel
theorem dX11_pattern_40 : decode cX11_pattern 40 = .ok (.iload_n 1, 1) := by decide +kernel
theorem dX11_pattern_41 : decode cX11_pattern 41 = .ok (.iaload, 1) := by decide +kernel
theorem dX11_pattern_42 : decode cX11_pattern 42 = .ok (.if_icmp .ge 17, 3) := by decide +kernel
theorem dX11_pattern_45 : decode cX11_pattern 45 = .ok (.aload_n 0, 1) := by decide +kernel
theorem dX11_pattern_46 : decode cX11_pattern 46 = .ok (.getfield 82, 3) := by decide +kernel
theorem dX11_pattern_49 : decode cX11_pattern 49 = .ok (.getfield 149, 3) := by decide +kernel
theorem dX11_pattern_52 : decode cX11_pattern 52 = .ok (.iload_n 1, 1) := by decide +kernel
theorem dX11_pattern_53 : decode cX11_pattern 53 = .ok (.aaload, 1) := by decide +kernel
theorem dX11_pattern_54 : decode cX11_pattern 54 = .ok (.iload_n 2, 1) := by decide +kernel
theorem dX11_pattern_55 : decode cX11_pattern 55 = .ok (.iaload, 1) := by decide +kernel
theorem dX11_pattern_56 : decode cX11_pattern 56 = .ok (.goto 4, 3) := by decide +kernel
theorem dX11_pattern_59 : decode cX11_pattern 59 = .ok (.iconst (-1), 1) := by decide +kernel
theorem dX11_pattern_60 : decode cX11_pattern 60 = .ok (.ireturn, 1) := by decide +kernel
theorem dX11_tells_11 : decode cX11_tells 11 = .ok (.iload_n 3, 1) := by decide +kernel
theorem dX11_tells_12 : decode cX11_tells 12 = .ok (.ifCond .lt 8, 3) := by decide +kernel
theorem dX11_tells_15 : decode cX11_tells 15 = .ok (.iload_n 3, 1) := by decide +kernel
theorem dX11_tells_16 : decode cX11_tells 16 = .ok (.iconst 3, 1) := by decide +kernel
theorem dX11_tells_17 : decode cX11_tells 17 = .ok (.if_icmp .le 6, 3) := by decide +kernel
theorem dX11_tells_23 : decode cX11_tells 23 = .ok (.iload_n 3, 1) := by decide +kernel
theorem dX11_tells_24 : decode cX11_tells 24 = .ok (.ifCond .eq 8, 3) := by decide +kernel
theorem dX11_tells_27 : decode cX11_tells 27 = .ok (.iload_n 3, 1) := by decide +kernel
theorem dX11_tells_28 : decode cX11_tells 28 = .ok (.iconst 1, 1) := by decide +kernel
theorem dX11_tells_29 : decode cX11_tells 29 = .ok (.if_icmp .ne 7, 3) := by decide +kernel
theorem dX11_tells_32 : decode cX11_tells 32 = .ok (.iconst 1, 1) := by decide +kernel
theorem dX11_tells_33 : decode cX11_tells 33 = .ok (.goto 4, 3) := by decide +kernel
theorem dX11_tells_36 : decode cX11_tells 36 = .ok (.iconst 0, 1) := by decide +kernel
theorem dX11_tells_37 : decode cX11_tells 37 = .ok (.istore 4, 2) := by decide +kernel
theorem dX11_tells_39 : decode cX11_tells 39 = .ok (.iload 4, 2) := by decide +kernel
theorem dX11_tells_41 : decode cX11_tells 41 = .ok (.ifCond .eq 13, 3) := by decide +kernel
theorem dX11_tells_44 : decode cX11_tells 44 = .ok (.iload_n 2, 1) := by decide +kernel
theorem dX11_tells_45 : decode cX11_tells 45 = .ok (.invokestatic 153, 3) := by decide +kernel
theorem dX11_tells_48 : decode cX11_tells 48 = .ok (.ifCond .ne 6, 3) := by decide +kernel
theorem dX11_tells_51 : decode cX11_tells 51 = .ok (.bipush (-100), 2) := by decide +kernel
theorem dX11_tells_53 : decode cX11_tells 53 = .ok (.ireturn, 1) := by decide +kernel
theorem dX11_tells_54 : decode cX11_tells 54 = .ok (.aload_n 0, 1) := by decide +kernel
theorem dX11_tells_55 : decode cX11_tells 55 = .ok (.getfield 19, 3) := by decide +kernel
theorem dX11_tells_58 : decode cX11_tells 58 = .ok (.aload_n 0, 1) := by decide +kernel
theorem dX11_tells_59 : decode cX11_tells 59 = .ok (.getfield 82, 3) := by decide +kernel
theorem dX11_tells_62 : decode cX11_tells 62 = .ok (.aload_n 0, 1) := by decide +kernel
theorem dX11_tells_63 : decode cX11_tells 63 = .ok (.getfield 54, 3) := by decide +kernel
theorem dX11_tells_66 : decode cX11_tells 66 = .ok (.iload_n 1, 1) := by decide +kernel
theorem dX11_tells_67 : decode cX11_tells 67 = .ok (.aload_n 0, 1) := by decide +kernel
theorem dX11_tells_68 : decode cX11_tells 68 = .ok (.getfield 54, 3) := by decide +kernel
theorem dX11_tells_71 : decode cX11_tells 71 = .ok (.invokevirtual 156, 3) := by decide +kernel
theorem dX11_tells_74 : decode cX11_tells 74 = .ok (.invokevirtual 160, 3) := by decide +kernel
theorem dX11_tells_77 : decode cX11_tells 77 = .ok (.aload_n 0, 1) := by decide +kernel
theorem dX11_tells_78 : decode cX11_tells 78 = .ok (.getfield 19, 3) := by decide +kernel
theorem dX11_tells_81 : decode cX11_tells 81 = .ok (.aload_n 0, 1) := by decide +kernel
theorem dX11_tells_82 : decode cX11_tells 82 = .ok (.getfield 82, 3) := by decide +kernel
theorem dX11_tells_85 : decode cX11_tells 85 = .ok (.iload_n 3, 1) := by decide +kernel
theorem dX11_tells_86 : decode cX11_tells 86 = .ok (.iload 4, 2) := by decide +kernel
theorem dX11_tells_88 : decode cX11_tells 88 = .ok (.ifCond .eq 7, 3) := by decide +kernel
theorem dX11_tells_91 : decode cX11_tells 91 = .ok (.iload_n 2, 1) := by decide +kernel
theorem dX11_tells_92 : decode cX11_tells 92 = .ok (.goto 4, 3) := by decide +kernel
theorem dX11_tells_95 : decode cX11_tells 95 = .ok (.iconst 0, 1) := by decide +kernel
theorem dX11_tells_96 : decode cX11_tells 96 = .ok (.invokevirtual 164, 3) := by decide +kernel
theorem dX11_tells_99 : decode cX11_tells 99 = .ok (.ireturn, 1) := by decide +kernel
theorem dX11_slotsHeld_18 : decode cX11_slotsHeld 18 = .ok (.iinc 1 1, 3) := by decide +kernel
theorem dX11_weightsOf_15 : decode cX11_weightsOf 15 = .ok (.iload_n 1, 1) := by decide +kernel
theorem dX11_weightsOf_16 : decode cX11_weightsOf 16 = .ok (.iload_n 3, 1) := by decide +kernel
theorem dX11_weightsOf_17 : decode cX11_weightsOf 17 = .ok (.ishr, 1) := by decide +kernel
theorem dX11_weightsOf_18 : decode cX11_weightsOf 18 = .ok (.iconst 1, 1) := by decide +kernel
theorem dX11_weightsOf_19 : decode cX11_weightsOf 19 = .ok (.iand, 1) := by decide +kernel
theorem dX11_weightsOf_20 : decode cX11_weightsOf 20 = .ok (.iconst 1, 1) := by decide +kernel
theorem dX11_weightsOf_21 : decode cX11_weightsOf 21 = .ok (.if_icmp .ne 15, 3) := by decide +kernel
theorem dX11_weightsOf_24 : decode cX11_weightsOf 24 = .ok (.iload_n 2, 1) := by decide +kernel
theorem dX11_weightsOf_25 : decode cX11_weightsOf 25 = .ok (.aload_n 0, 1) := by decide +kernel
theorem dX11_weightsOf_26 : decode cX11_weightsOf 26 = .ok (.getfield 82, 3) := by decide +kernel
theorem dX11_weightsOf_29 : decode cX11_weightsOf 29 = .ok (.getfield 125, 3) := by decide +kernel
theorem dX11_weightsOf_32 : decode cX11_weightsOf 32 = .ok (.iload_n 3, 1) := by decide +kernel
theorem dX11_weightsOf_33 : decode cX11_weightsOf 33 = .ok (.iaload, 1) := by decide +kernel
theorem dX11_weightsOf_34 : decode cX11_weightsOf 34 = .ok (.iadd, 1) := by decide +kernel
theorem dX11_weightsOf_35 : decode cX11_weightsOf 35 = .ok (.istore_n 2, 1) := by decide +kernel
theorem dX11_weightsOf_36 : decode cX11_weightsOf 36 = .ok (.iinc 3 1, 3) := by decide +kernel
theorem dX11_weightsOf_39 : decode cX11_weightsOf 39 = .ok (.goto (-35), 3) := by decide +kernel
theorem dX11_count_178 : decode cX11_count 178 = .ok (.aload_n 0, 1) := by decide +kernel
theorem dX11_count_179 : decode cX11_count 179 = .ok (.getfield 54, 3) := by decide +kernel
theorem dX11_count_182 : decode cX11_count 182 = .ok (.getfield 193, 3) := by decide +kernel
