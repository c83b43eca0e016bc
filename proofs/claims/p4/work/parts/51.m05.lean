theorem dX12_load_33 : decode cX12_load 33 = .ok (.iload_n 2, 1) := by decide +kernel
theorem dX12_load_34 : decode cX12_load 34 = .ok (.aload_n 0, 1) := by decide +kernel
theorem dX12_load_35 : decode cX12_load 35 = .ok (.getfield 46, 3) := by decide +kernel
theorem dX12_load_38 : decode cX12_load 38 = .ok (.bipush 7, 2) := by decide +kernel
theorem dX12_load_40 : decode cX12_load 40 = .ok (.aload_n 0, 1) := by decide +kernel
theorem dX12_load_41 : decode cX12_load 41 = .ok (.getfield 221, 3) := by decide +kernel
theorem dX12_load_44 : decode cX12_load 44 = .ok (.imul, 1) := by decide +kernel
theorem dX12_load_45 : decode cX12_load 45 = .ok (.aload_n 0, 1) := by decide +kernel
theorem dX12_load_46 : decode cX12_load 46 = .ok (.getfield 341, 3) := by decide +kernel
theorem dX12_load_49 : decode cX12_load 49 = .ok (.iadd, 1) := by decide +kernel
theorem dX12_load_50 : decode cX12_load 50 = .ok (.iaload, 1) := by decide +kernel
theorem dX12_load_51 : decode cX12_load 51 = .ok (.iadd, 1) := by decide +kernel
theorem dX12_load_52 : decode cX12_load 52 = .ok (.istore_n 2, 1) := by decide +kernel
theorem dX12_gap_25 : decode cX12_gap 25 = .ok (.iinc 1 1, 3) := by decide +kernel
theorem dX12_gap_28 : decode cX12_gap 28 = .ok (.goto (-22), 3) := by decide +kernel
theorem dX12_gap_31 : decode cX12_gap 31 = .ok (.bipush (-2), 2) := by decide +kernel
theorem dX12_gap_33 : decode cX12_gap 33 = .ok (.ireturn, 1) := by decide +kernel
theorem dX12_takesPattern_0 : decode cX12_takesPattern 0 = .ok (.iconst 0, 1) := by decide +kernel
theorem dX12_takesPattern_1 : decode cX12_takesPattern 1 = .ok (.istore_n 3, 1) := by decide +kernel
theorem dX12_takesPattern_2 : decode cX12_takesPattern 2 = .ok (.iload_n 3, 1) := by decide +kernel
theorem dX12_takesPattern_3 : decode cX12_takesPattern 3 = .ok (.aload_n 0, 1) := by decide +kernel
theorem dX12_takesPattern_4 : decode cX12_takesPattern 4 = .ok (.iload_n 1, 1) := by decide +kernel
theorem dX12_takesPattern_5 : decode cX12_takesPattern 5 = .ok (.invokevirtual 318, 3) := by decide +kernel
theorem dX12_takesPattern_8 : decode cX12_takesPattern 8 = .ok (.if_icmp .ge 23, 3) := by decide +kernel
theorem dX12_takesPattern_11 : decode cX12_takesPattern 11 = .ok (.aload_n 0, 1) := by decide +kernel
theorem dX12_takesPattern_12 : decode cX12_takesPattern 12 = .ok (.getfield 116, 3) := by decide +kernel
theorem dX12_takesPattern_15 : decode cX12_takesPattern 15 = .ok (.iload_n 2, 1) := by decide +kernel
theorem dX12_takesPattern_16 : decode cX12_takesPattern 16 = .ok (.iload_n 3, 1) := by decide +kernel
theorem dX12_takesPattern_17 : decode cX12_takesPattern 17 = .ok (.iadd, 1) := by decide +kernel
theorem dX12_takesPattern_18 : decode cX12_takesPattern 18 = .ok (.aload_n 0, 1) := by decide +kernel
theorem dX12_takesPattern_19 : decode cX12_takesPattern 19 = .ok (.iload_n 1, 1) := by decide +kernel
theorem dX12_takesPattern_20 : decode cX12_takesPattern 20 = .ok (.iload_n 3, 1) := by decide +kernel
theorem dX12_takesPattern_21 : decode cX12_takesPattern 21 = .ok (.invokevirtual 321, 3) := by decide +kernel
theorem dX12_takesPattern_24 : decode cX12_takesPattern 24 = .ok (.iastore, 1) := by decide +kernel
theorem dX12_takesPattern_25 : decode cX12_takesPattern 25 = .ok (.iinc 3 1, 3) := by decide +kernel
theorem dX12_takesPattern_28 : decode cX12_takesPattern 28 = .ok (.goto (-26), 3) := by decide +kernel
theorem dX12_takesPattern_31 : decode cX12_takesPattern 31 = .ok (.aload_n 0, 1) := by decide +kernel
theorem dX12_takesPattern_32 : decode cX12_takesPattern 32 = .ok (.iload_n 2, 1) := by decide +kernel
theorem dX12_takesPattern_33 : decode cX12_takesPattern 33 = .ok (.aload_n 0, 1) := by decide +kernel
theorem dX12_takesPattern_34 : decode cX12_takesPattern 34 = .ok (.iload_n 1, 1) := by decide +kernel
theorem dX12_takesPattern_35 : decode cX12_takesPattern 35 = .ok (.invokevirtual 318, 3) := by decide +kernel
theorem dX12_takesPattern_38 : decode cX12_takesPattern 38 = .ok (.iadd, 1) := by decide +kernel
theorem dX12_takesPattern_39 : decode cX12_takesPattern 39 = .ok (.putfield 408, 3) := by decide +kernel
theorem dX12_takesPattern_42 : decode cX12_takesPattern 42 = .ok (.return_, 1) := by decide +kernel
theorem dX12_keepsOf_0 : decode cX12_keepsOf 0 = .ok (.aload_n 0, 1) := by decide +kernel
theorem dX12_keepsOf_1 : decode cX12_keepsOf 1 = .ok (.iload_n 1, 1) := by decide +kernel
theorem dX12_keepsOf_2 : decode cX12_keepsOf 2 = .ok (.iconst 0, 1) := by decide +kernel
theorem dX12_keepsOf_3 : decode cX12_keepsOf 3 = .ok (.invokevirtual 411, 3) := by decide +kernel
theorem dX12_keepsOf_6 : decode cX12_keepsOf 6 = .ok (.aload_n 0, 1) := by decide +kernel
theorem dX12_keepsOf_7 : decode cX12_keepsOf 7 = .ok (.invokevirtual 414, 3) := by decide +kernel
theorem dX12_keepsOf_10 : decode cX12_keepsOf 10 = .ok (.ireturn, 1) := by decide +kernel
theorem dX12_light_42 : decode cX12_light 42 = .ok (.aload_n 0, 1) := by decide +kernel
theorem dX12_light_43 : decode cX12_light 43 = .ok (.invokevirtual 429, 3) := by decide +kernel
theorem dX12_light_46 : decode cX12_light 46 = .ok (.aload_n 0, 1) := by decide +kernel
theorem dX12_light_47 : decode cX12_light 47 = .ok (.iload 5, 2) := by decide +kernel
theorem dX12_light_49 : decode cX12_light 49 = .ok (.invokevirtual 417, 3) := by decide +kernel
theorem dX12_light_52 : decode cX12_light 52 = .ok (.aload_n 0, 1) := by decide +kernel
theorem dX12_light_53 : decode cX12_light 53 = .ok (.iconst 0, 1) := by decide +kernel
theorem dX12_light_54 : decode cX12_light 54 = .ok (.invokevirtual 350, 3) := by decide +kernel
theorem dX12_light_57 : decode cX12_light 57 = .ok (.invokestatic 353, 3) := by decide +kernel
theorem dX12_light_60 : decode cX12_light 60 = .ok (.if_icmp .eq 6, 3) := by decide +kernel
theorem dX12_light_63 : decode cX12_light 63 = .ok (.goto 45, 3) := by decide +kernel
theorem dX12_light_66 : decode cX12_light 66 = .ok (.aload_n 0, 1) := by decide +kernel
theorem dX12_light_67 : decode cX12_light 67 = .ok (.iload 5, 2) := by decide +kernel
theorem dX12_light_69 : decode cX12_light 69 = .ok (.invokevirtual 399, 3) := by decide +kernel
theorem dX12_light_72 : decode cX12_light 72 = .ok (.aload_n 0, 1) := by decide +kernel
theorem dX12_light_73 : decode cX12_light 73 = .ok (.iload_n 1, 1) := by decide +kernel
theorem dX12_light_74 : decode cX12_light 74 = .ok (.invokevirtual 405, 3) := by decide +kernel
theorem dX12_light_77 : decode cX12_light 77 = .ok (.iload_n 3, 1) := by decide +kernel
theorem dX12_light_78 : decode cX12_light 78 = .ok (.ifCond .lt 18, 3) := by decide +kernel
theorem dX12_light_81 : decode cX12_light 81 = .ok (.aload_n 0, 1) := by decide +kernel
theorem dX12_light_82 : decode cX12_light 82 = .ok (.getfield 110, 3) := by decide +kernel
theorem dX12_light_85 : decode cX12_light 85 = .ok (.bipush 22, 2) := by decide +kernel
theorem dX12_light_87 : decode cX12_light 87 = .ok (.iaload, 1) := by decide +kernel
theorem dX12_light_88 : decode cX12_light 88 = .ok (.iload 4, 2) := by decide +kernel
theorem dX12_light_90 : decode cX12_light 90 = .ok (.if_icmp .lt 6, 3) := by decide +kernel
theorem dX12_light_93 : decode cX12_light 93 = .ok (.goto 15, 3) := by decide +kernel
theorem dX12_light_96 : decode cX12_light 96 = .ok (.iload 5, 2) := by decide +kernel
theorem dX12_light_98 : decode cX12_light 98 = .ok (.istore_n 3, 1) := by decide +kernel
theorem dX12_light_99 : decode cX12_light 99 = .ok (.aload_n 0, 1) := by decide +kernel
theorem dX12_light_100 : decode cX12_light 100 = .ok (.getfield 110, 3) := by decide +kernel
theorem dX12_light_103 : decode cX12_light 103 = .ok (.bipush 22, 2) := by decide +kernel
theorem dX12_light_105 : decode cX12_light 105 = .ok (.iaload, 1) := by decide +kernel
theorem dX12_light_106 : decode cX12_light 106 = .ok (.istore 4, 2) := by decide +kernel
theorem dX12_light_108 : decode cX12_light 108 = .ok (.iinc 5 1, 3) := by decide +kernel
theorem dX12_light_111 : decode cX12_light 111 = .ok (.goto (-83), 3) := by decide +kernel
theorem dX12_down_23 : decode cX12_down 23 = .ok (.aload_n 0, 1) := by decide +kernel
theorem dX12_down_24 : decode cX12_down 24 = .ok (.invokevirtual 387, 3) := by decide +kernel
theorem dX12_down_27 : decode cX12_down 27 = .ok (.iinc 1 1, 3) := by decide +kernel
theorem dX12_down_30 : decode cX12_down 30 = .ok (.goto (-24), 3) := by decide +kernel
theorem dX12_down_33 : decode cX12_down 33 = .ok (.bipush (-2), 2) := by decide +kernel
theorem dX12_down_35 : decode cX12_down 35 = .ok (.ireturn, 1) := by decide +kernel
