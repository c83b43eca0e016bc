theorem dX12_tiresBy_0 : decode cX12_tiresBy 0 = .ok (.aload_n 0, 1) := by decide +kernel
theorem dX12_tiresBy_1 : decode cX12_tiresBy 1 = .ok (.iload_n 1, 1) := by decide +kernel
theorem dX12_tiresBy_2 : decode cX12_tiresBy 2 = .ok (.iload_n 2, 1) := by decide +kernel
theorem dX12_tiresBy_3 : decode cX12_tiresBy 3 = .ok (.iload_n 3, 1) := by decide +kernel
theorem dX12_tiresBy_4 : decode cX12_tiresBy 4 = .ok (.invokevirtual 331, 3) := by decide +kernel
theorem dX12_tiresBy_7 : decode cX12_tiresBy 7 = .ok (.aload_n 0, 1) := by decide +kernel
theorem dX12_tiresBy_8 : decode cX12_tiresBy 8 = .ok (.iconst 0, 1) := by decide +kernel
theorem dX12_tiresBy_9 : decode cX12_tiresBy 9 = .ok (.iconst 0, 1) := by decide +kernel
theorem dX12_tiresBy_10 : decode cX12_tiresBy 10 = .ok (.invokevirtual 335, 3) := by decide +kernel
theorem dX12_tiresBy_13 : decode cX12_tiresBy 13 = .ok (.iconst 0, 1) := by decide +kernel
theorem dX12_tiresBy_14 : decode cX12_tiresBy 14 = .ok (.bipush 99, 2) := by decide +kernel
theorem dX12_tiresBy_16 : decode cX12_tiresBy 16 = .ok (.invokestatic 338, 3) := by decide +kernel
theorem dX12_tiresBy_19 : decode cX12_tiresBy 19 = .ok (.ireturn, 1) := by decide +kernel
theorem dX12_dropsBy_0 : decode cX12_dropsBy 0 = .ok (.aload_n 0, 1) := by decide +kernel
theorem dX12_dropsBy_1 : decode cX12_dropsBy 1 = .ok (.iload_n 1, 1) := by decide +kernel
theorem dX12_dropsBy_2 : decode cX12_dropsBy 2 = .ok (.iload_n 2, 1) := by decide +kernel
theorem dX12_dropsBy_3 : decode cX12_dropsBy 3 = .ok (.iload_n 3, 1) := by decide +kernel
theorem dX12_dropsBy_4 : decode cX12_dropsBy 4 = .ok (.invokevirtual 331, 3) := by decide +kernel
theorem dX12_dropsBy_7 : decode cX12_dropsBy 7 = .ok (.aload_n 0, 1) := by decide +kernel
theorem dX12_dropsBy_8 : decode cX12_dropsBy 8 = .ok (.iconst 1, 1) := by decide +kernel
theorem dX12_dropsBy_9 : decode cX12_dropsBy 9 = .ok (.iconst 0, 1) := by decide +kernel
theorem dX12_dropsBy_10 : decode cX12_dropsBy 10 = .ok (.invokevirtual 335, 3) := by decide +kernel
theorem dX12_dropsBy_13 : decode cX12_dropsBy 13 = .ok (.iconst 0, 1) := by decide +kernel
theorem dX12_dropsBy_14 : decode cX12_dropsBy 14 = .ok (.bipush 100, 2) := by decide +kernel
theorem dX12_dropsBy_16 : decode cX12_dropsBy 16 = .ok (.invokestatic 338, 3) := by decide +kernel
theorem dX12_dropsBy_19 : decode cX12_dropsBy 19 = .ok (.ireturn, 1) := by decide +kernel
theorem dX12_forceOf_0 : decode cX12_forceOf 0 = .ok (.aload_n 0, 1) := by decide +kernel
theorem dX12_forceOf_1 : decode cX12_forceOf 1 = .ok (.iload_n 1, 1) := by decide +kernel
theorem dX12_forceOf_2 : decode cX12_forceOf 2 = .ok (.iconst 0, 1) := by decide +kernel
theorem dX12_forceOf_3 : decode cX12_forceOf 3 = .ok (.iload_n 2, 1) := by decide +kernel
theorem dX12_forceOf_4 : decode cX12_forceOf 4 = .ok (.invokevirtual 331, 3) := by decide +kernel
theorem dX12_forceOf_7 : decode cX12_forceOf 7 = .ok (.aload_n 0, 1) := by decide +kernel
theorem dX12_forceOf_8 : decode cX12_forceOf 8 = .ok (.iconst 2, 1) := by decide +kernel
theorem dX12_forceOf_9 : decode cX12_forceOf 9 = .ok (.aload_n 0, 1) := by decide +kernel
theorem dX12_forceOf_10 : decode cX12_forceOf 10 = .ok (.getfield 101, 3) := by decide +kernel
theorem dX12_forceOf_13 : decode cX12_forceOf 13 = .ok (.iconst 1, 1) := by decide +kernel
theorem dX12_forceOf_14 : decode cX12_forceOf 14 = .ok (.iaload, 1) := by decide +kernel
theorem dX12_forceOf_15 : decode cX12_forceOf 15 = .ok (.invokevirtual 335, 3) := by decide +kernel
theorem dX12_forceOf_18 : decode cX12_forceOf 18 = .ok (.bipush (-99), 2) := by decide +kernel
theorem dX12_forceOf_20 : decode cX12_forceOf 20 = .ok (.bipush 99, 2) := by decide +kernel
theorem dX12_forceOf_22 : decode cX12_forceOf 22 = .ok (.invokestatic 338, 3) := by decide +kernel
theorem dX12_forceOf_25 : decode cX12_forceOf 25 = .ok (.ireturn, 1) := by decide +kernel
theorem dX12_paysOf_0 : decode cX12_paysOf 0 = .ok (.aload_n 0, 1) := by decide +kernel
theorem dX12_paysOf_1 : decode cX12_paysOf 1 = .ok (.iload_n 1, 1) := by decide +kernel
theorem dX12_paysOf_2 : decode cX12_paysOf 2 = .ok (.iconst 0, 1) := by decide +kernel
theorem dX12_paysOf_3 : decode cX12_paysOf 3 = .ok (.iload_n 2, 1) := by decide +kernel
theorem dX12_paysOf_4 : decode cX12_paysOf 4 = .ok (.invokevirtual 331, 3) := by decide +kernel
theorem dX12_paysOf_7 : decode cX12_paysOf 7 = .ok (.aload_n 0, 1) := by decide +kernel
theorem dX12_paysOf_8 : decode cX12_paysOf 8 = .ok (.iconst 3, 1) := by decide +kernel
theorem dX12_paysOf_9 : decode cX12_paysOf 9 = .ok (.iconst 0, 1) := by decide +kernel
theorem dX12_paysOf_10 : decode cX12_paysOf 10 = .ok (.invokevirtual 335, 3) := by decide +kernel
theorem dX12_paysOf_13 : decode cX12_paysOf 13 = .ok (.iconst 0, 1) := by decide +kernel
theorem dX12_paysOf_14 : decode cX12_paysOf 14 = .ok (.bipush 99, 2) := by decide +kernel
theorem dX12_paysOf_16 : decode cX12_paysOf 16 = .ok (.invokestatic 338, 3) := by decide +kernel
theorem dX12_paysOf_19 : decode cX12_paysOf 19 = .ok (.ireturn, 1) := by decide +kernel
theorem dX12_dropsOthers_0 : decode cX12_dropsOthers 0 = .ok (.iconst 0, 1) := by decide +kernel
theorem dX12_dropsOthers_1 : decode cX12_dropsOthers 1 = .ok (.istore_n 1, 1) := by decide +kernel
theorem dX12_dropsOthers_2 : decode cX12_dropsOthers 2 = .ok (.iload_n 1, 1) := by decide +kernel
theorem dX12_dropsOthers_3 : decode cX12_dropsOthers 3 = .ok (.aload_n 0, 1) := by decide +kernel
theorem dX12_dropsOthers_4 : decode cX12_dropsOthers 4 = .ok (.getfield 43, 3) := by decide +kernel
theorem dX12_dropsOthers_7 : decode cX12_dropsOthers 7 = .ok (.aload_n 0, 1) := by decide +kernel
theorem dX12_dropsOthers_8 : decode cX12_dropsOthers 8 = .ok (.getfield 221, 3) := by decide +kernel
theorem dX12_dropsOthers_11 : decode cX12_dropsOthers 11 = .ok (.iaload, 1) := by decide +kernel
theorem dX12_dropsOthers_12 : decode cX12_dropsOthers 12 = .ok (.if_icmp .ge 52, 3) := by decide +kernel
theorem dX12_dropsOthers_15 : decode cX12_dropsOthers 15 = .ok (.iload_n 1, 1) := by decide +kernel
theorem dX12_dropsOthers_16 : decode cX12_dropsOthers 16 = .ok (.aload_n 0, 1) := by decide +kernel
theorem dX12_dropsOthers_17 : decode cX12_dropsOthers 17 = .ok (.getfield 341, 3) := by decide +kernel
theorem dX12_dropsOthers_20 : decode cX12_dropsOthers 20 = .ok (.if_icmp .eq 38, 3) := by decide +kernel
theorem dX12_dropsOthers_23 : decode cX12_dropsOthers 23 = .ok (.aload_n 0, 1) := by decide +kernel
theorem dX12_dropsOthers_24 : decode cX12_dropsOthers 24 = .ok (.iload_n 1, 1) := by decide +kernel
theorem dX12_dropsOthers_25 : decode cX12_dropsOthers 25 = .ok (.iconst 0, 1) := by decide +kernel
theorem dX12_dropsOthers_26 : decode cX12_dropsOthers 26 = .ok (.invokevirtual 324, 3) := by decide +kernel
theorem dX12_dropsOthers_29 : decode cX12_dropsOthers 29 = .ok (.ifCond .ne 6, 3) := by decide +kernel
theorem dX12_dropsOthers_32 : decode cX12_dropsOthers 32 = .ok (.goto 26, 3) := by decide +kernel
theorem dX12_dropsOthers_35 : decode cX12_dropsOthers 35 = .ok (.aload_n 0, 1) := by decide +kernel
theorem dX12_dropsOthers_36 : decode cX12_dropsOthers 36 = .ok (.getfield 110, 3) := by decide +kernel
theorem dX12_dropsOthers_39 : decode cX12_dropsOthers 39 = .ok (.iload_n 1, 1) := by decide +kernel
theorem dX12_dropsOthers_40 : decode cX12_dropsOthers 40 = .ok (.iconst 2, 1) := by decide +kernel
theorem dX12_dropsOthers_41 : decode cX12_dropsOthers 41 = .ok (.iastore, 1) := by decide +kernel
theorem dX12_dropsOthers_42 : decode cX12_dropsOthers 42 = .ok (.aload_n 0, 1) := by decide +kernel
theorem dX12_dropsOthers_43 : decode cX12_dropsOthers 43 = .ok (.getfield 110, 3) := by decide +kernel
theorem dX12_dropsOthers_46 : decode cX12_dropsOthers 46 = .ok (.bipush 23, 2) := by decide +kernel
theorem dX12_dropsOthers_48 : decode cX12_dropsOthers 48 = .ok (.dup2, 1) := by decide +kernel
theorem dX12_dropsOthers_49 : decode cX12_dropsOthers 49 = .ok (.iaload, 1) := by decide +kernel
theorem dX12_dropsOthers_50 : decode cX12_dropsOthers 50 = .ok (.iconst 1, 1) := by decide +kernel
theorem dX12_dropsOthers_51 : decode cX12_dropsOthers 51 = .ok (.iadd, 1) := by decide +kernel
theorem dX12_dropsOthers_52 : decode cX12_dropsOthers 52 = .ok (.iastore, 1) := by decide +kernel
theorem dX12_dropsOthers_53 : decode cX12_dropsOthers 53 = .ok (.aload_n 0, 1) := by decide +kernel
theorem dX12_dropsOthers_54 : decode cX12_dropsOthers 54 = .ok (.iconst 1, 1) := by decide +kernel
theorem dX12_dropsOthers_55 : decode cX12_dropsOthers 55 = .ok (.putfield 344, 3) := by decide +kernel
theorem dX12_dropsOthers_58 : decode cX12_dropsOthers 58 = .ok (.iinc 1 1, 3) := by decide +kernel
theorem dX12_dropsOthers_61 : decode cX12_dropsOthers 61 = .ok (.goto (-59), 3) := by decide +kernel
theorem dX12_dropsOthers_64 : decode cX12_dropsOthers 64 = .ok (.return_, 1) := by decide +kernel
theorem dX12_isThrown_0 : decode cX12_isThrown 0 = .ok (.aload_n 0, 1) := by decide +kernel
theorem dX12_isThrown_1 : decode cX12_isThrown 1 = .ok (.getfield 110, 3) := by decide +kernel
theorem dX12_isThrown_4 : decode cX12_isThrown 4 = .ok (.bipush 25, 2) := by decide +kernel
theorem dX12_isThrown_6 : decode cX12_isThrown 6 = .ok (.dup2, 1) := by decide +kernel
theorem dX12_isThrown_7 : decode cX12_isThrown 7 = .ok (.iaload, 1) := by decide +kernel
theorem dX12_isThrown_8 : decode cX12_isThrown 8 = .ok (.iload 4, 2) := by decide +kernel
theorem dX12_isThrown_10 : decode cX12_isThrown 10 = .ok (.iadd, 1) := by decide +kernel
theorem dX12_isThrown_11 : decode cX12_isThrown 11 = .ok (.iastore, 1) := by decide +kernel
theorem dX12_isThrown_12 : decode cX12_isThrown 12 = .ok (.aload_n 0, 1) := by decide +kernel
theorem dX12_isThrown_13 : decode cX12_isThrown 13 = .ok (.getfield 110, 3) := by decide +kernel
theorem dX12_isThrown_16 : decode cX12_isThrown 16 = .ok (.bipush 24, 2) := by decide +kernel
theorem dX12_isThrown_18 : decode cX12_isThrown 18 = .ok (.dup2, 1) := by decide +kernel
theorem dX12_isThrown_19 : decode cX12_isThrown 19 = .ok (.iaload, 1) := by decide +kernel
theorem dX12_isThrown_20 : decode cX12_isThrown 20 = .ok (.iconst 1, 1) := by decide +kernel
theorem dX12_isThrown_21 : decode cX12_isThrown 21 = .ok (.iadd, 1) := by decide +kernel
theorem dX12_isThrown_22 : decode cX12_isThrown 22 = .ok (.iastore, 1) := by decide +kernel
theorem dX12_isThrown_23 : decode cX12_isThrown 23 = .ok (.aload_n 0, 1) := by decide +kernel
theorem dX12_isThrown_24 : decode cX12_isThrown 24 = .ok (.getfield 110, 3) := by decide +kernel
theorem dX12_isThrown_27 : decode cX12_isThrown 27 = .ok (.bipush 14, 2) := by decide +kernel
theorem dX12_isThrown_29 : decode cX12_isThrown 29 = .ok (.iload_n 1, 1) := by decide +kernel
theorem dX12_isThrown_30 : decode cX12_isThrown 30 = .ok (.iadd, 1) := by decide +kernel
theorem dX12_isThrown_31 : decode cX12_isThrown 31 = .ok (.dup2, 1) := by decide +kernel
theorem dX12_isThrown_32 : decode cX12_isThrown 32 = .ok (.iaload, 1) := by decide +kernel
theorem dX12_isThrown_33 : decode cX12_isThrown 33 = .ok (.iconst 1, 1) := by decide +kernel
theorem dX12_isThrown_34 : decode cX12_isThrown 34 = .ok (.iadd, 1) := by decide +kernel
theorem dX12_isThrown_35 : decode cX12_isThrown 35 = .ok (.iastore, 1) := by decide +kernel
theorem dX12_isThrown_36 : decode cX12_isThrown 36 = .ok (.aload_n 0, 1) := by decide +kernel
theorem dX12_isThrown_37 : decode cX12_isThrown 37 = .ok (.getfield 110, 3) := by decide +kernel
theorem dX12_isThrown_40 : decode cX12_isThrown 40 = .ok (.bipush 22, 2) := by decide +kernel
theorem dX12_isThrown_42 : decode cX12_isThrown 42 = .ok (.aload_n 0, 1) := by decide +kernel
theorem dX12_isThrown_43 : decode cX12_isThrown 43 = .ok (.getfield 110, 3) := by decide +kernel
theorem dX12_isThrown_46 : decode cX12_isThrown 46 = .ok (.bipush 22, 2) := by decide +kernel
theorem dX12_isThrown_48 : decode cX12_isThrown 48 = .ok (.iaload, 1) := by decide +kernel
theorem dX12_isThrown_49 : decode cX12_isThrown 49 = .ok (.iload_n 3, 1) := by decide +kernel
theorem dX12_isThrown_50 : decode cX12_isThrown 50 = .ok (.iadd, 1) := by decide +kernel
theorem dX12_isThrown_51 : decode cX12_isThrown 51 = .ok (.iconst 0, 1) := by decide +kernel
theorem dX12_isThrown_52 : decode cX12_isThrown 52 = .ok (.sipush 999, 3) := by decide +kernel
theorem dX12_isThrown_55 : decode cX12_isThrown 55 = .ok (.invokestatic 338, 3) := by decide +kernel
theorem dX12_isThrown_58 : decode cX12_isThrown 58 = .ok (.iastore, 1) := by decide +kernel
theorem dX12_isThrown_59 : decode cX12_isThrown 59 = .ok (.iload_n 2, 1) := by decide +kernel
theorem dX12_isThrown_60 : decode cX12_isThrown 60 = .ok (.ifCond .ne 10, 3) := by decide +kernel
theorem dX12_isThrown_63 : decode cX12_isThrown 63 = .ok (.aload_n 0, 1) := by decide +kernel
theorem dX12_isThrown_64 : decode cX12_isThrown 64 = .ok (.getfield 110, 3) := by decide +kernel
theorem dX12_isThrown_67 : decode cX12_isThrown 67 = .ok (.iload_n 1, 1) := by decide +kernel
theorem dX12_isThrown_68 : decode cX12_isThrown 68 = .ok (.iconst 1, 1) := by decide +kernel
theorem dX12_isThrown_69 : decode cX12_isThrown 69 = .ok (.iastore, 1) := by decide +kernel
theorem dX12_isThrown_70 : decode cX12_isThrown 70 = .ok (.aload_n 0, 1) := by decide +kernel
theorem dX12_isThrown_71 : decode cX12_isThrown 71 = .ok (.getfield 110, 3) := by decide +kernel
theorem dX12_isThrown_74 : decode cX12_isThrown 74 = .ok (.bipush 7, 2) := by decide +kernel
theorem dX12_isThrown_76 : decode cX12_isThrown 76 = .ok (.iload_n 1, 1) := by decide +kernel
theorem dX12_isThrown_77 : decode cX12_isThrown 77 = .ok (.iadd, 1) := by decide +kernel
theorem dX12_isThrown_78 : decode cX12_isThrown 78 = .ok (.iload_n 2, 1) := by decide +kernel
theorem dX12_isThrown_79 : decode cX12_isThrown 79 = .ok (.iastore, 1) := by decide +kernel
theorem dX12_isThrown_80 : decode cX12_isThrown 80 = .ok (.return_, 1) := by decide +kernel
theorem dX12_catches_0 : decode cX12_catches 0 = .ok (.aload_n 0, 1) := by decide +kernel
theorem dX12_catches_1 : decode cX12_catches 1 = .ok (.invokevirtual 347, 3) := by decide +kernel
theorem dX12_catches_4 : decode cX12_catches 4 = .ok (.istore_n 2, 1) := by decide +kernel
theorem dX12_catches_5 : decode cX12_catches 5 = .ok (.aload_n 0, 1) := by decide +kernel
theorem dX12_catches_6 : decode cX12_catches 6 = .ok (.iconst 0, 1) := by decide +kernel
theorem dX12_catches_7 : decode cX12_catches 7 = .ok (.invokevirtual 350, 3) := by decide +kernel
theorem dX12_catches_10 : decode cX12_catches 10 = .ok (.invokestatic 353, 3) := by decide +kernel
theorem dX12_catches_13 : decode cX12_catches 13 = .ok (.istore_n 3, 1) := by decide +kernel
theorem dX12_catches_14 : decode cX12_catches 14 = .ok (.aload_n 0, 1) := by decide +kernel
theorem dX12_catches_15 : decode cX12_catches 15 = .ok (.iload_n 1, 1) := by decide +kernel
theorem dX12_catches_16 : decode cX12_catches 16 = .ok (.iload_n 2, 1) := by decide +kernel
theorem dX12_catches_17 : decode cX12_catches 17 = .ok (.iload_n 3, 1) := by decide +kernel
theorem dX12_catches_18 : decode cX12_catches 18 = .ok (.invokevirtual 356, 3) := by decide +kernel
theorem dX12_catches_21 : decode cX12_catches 21 = .ok (.istore 4, 2) := by decide +kernel
theorem dX12_catches_23 : decode cX12_catches 23 = .ok (.aload_n 0, 1) := by decide +kernel
theorem dX12_catches_24 : decode cX12_catches 24 = .ok (.iload_n 1, 1) := by decide +kernel
theorem dX12_catches_25 : decode cX12_catches 25 = .ok (.iload_n 3, 1) := by decide +kernel
theorem dX12_catches_26 : decode cX12_catches 26 = .ok (.invokevirtual 359, 3) := by decide +kernel
theorem dX12_catches_29 : decode cX12_catches 29 = .ok (.istore 5, 2) := by decide +kernel
theorem dX12_catches_31 : decode cX12_catches 31 = .ok (.aload_n 0, 1) := by decide +kernel
theorem dX12_catches_32 : decode cX12_catches 32 = .ok (.aload_n 0, 1) := by decide +kernel
theorem dX12_catches_33 : decode cX12_catches 33 = .ok (.iload_n 1, 1) := by decide +kernel
theorem dX12_catches_34 : decode cX12_catches 34 = .ok (.iload_n 3, 1) := by decide +kernel
theorem dX12_catches_35 : decode cX12_catches 35 = .ok (.invokevirtual 362, 3) := by decide +kernel
theorem dX12_catches_38 : decode cX12_catches 38 = .ok (.putfield 365, 3) := by decide +kernel
theorem dX12_catches_41 : decode cX12_catches 41 = .ok (.aload_n 0, 1) := by decide +kernel
theorem dX12_catches_42 : decode cX12_catches 42 = .ok (.getfield 308, 3) := by decide +kernel
theorem dX12_catches_45 : decode cX12_catches 45 = .ok (.ifCond .ne 36, 3) := by decide +kernel
theorem dX12_catches_48 : decode cX12_catches 48 = .ok (.aload_n 0, 1) := by decide +kernel
theorem dX12_catches_49 : decode cX12_catches 49 = .ok (.invokevirtual 368, 3) := by decide +kernel
theorem dX12_catches_52 : decode cX12_catches 52 = .ok (.aload_n 0, 1) := by decide +kernel
theorem dX12_catches_53 : decode cX12_catches 53 = .ok (.iload_n 1, 1) := by decide +kernel
theorem dX12_catches_54 : decode cX12_catches 54 = .ok (.iload_n 2, 1) := by decide +kernel
theorem dX12_catches_55 : decode cX12_catches 55 = .ok (.iload_n 3, 1) := by decide +kernel
theorem dX12_catches_56 : decode cX12_catches 56 = .ok (.invokevirtual 371, 3) := by decide +kernel
theorem dX12_catches_59 : decode cX12_catches 59 = .ok (.if_icmp .ge 22, 3) := by decide +kernel
theorem dX12_catches_62 : decode cX12_catches 62 = .ok (.aload_n 0, 1) := by decide +kernel
theorem dX12_catches_63 : decode cX12_catches 63 = .ok (.getfield 110, 3) := by decide +kernel
theorem dX12_catches_66 : decode cX12_catches 66 = .ok (.iload_n 1, 1) := by decide +kernel
theorem dX12_catches_67 : decode cX12_catches 67 = .ok (.iconst 2, 1) := by decide +kernel
theorem dX12_catches_68 : decode cX12_catches 68 = .ok (.iastore, 1) := by decide +kernel
theorem dX12_catches_69 : decode cX12_catches 69 = .ok (.aload_n 0, 1) := by decide +kernel
theorem dX12_catches_70 : decode cX12_catches 70 = .ok (.getfield 110, 3) := by decide +kernel
theorem dX12_catches_73 : decode cX12_catches 73 = .ok (.bipush 23, 2) := by decide +kernel
theorem dX12_catches_75 : decode cX12_catches 75 = .ok (.dup2, 1) := by decide +kernel
theorem dX12_catches_76 : decode cX12_catches 76 = .ok (.iaload, 1) := by decide +kernel
theorem dX12_catches_77 : decode cX12_catches 77 = .ok (.iconst 1, 1) := by decide +kernel
theorem dX12_catches_78 : decode cX12_catches 78 = .ok (.iadd, 1) := by decide +kernel
theorem dX12_catches_79 : decode cX12_catches 79 = .ok (.iastore, 1) := by decide +kernel
theorem dX12_catches_80 : decode cX12_catches 80 = .ok (.return_, 1) := by decide +kernel
theorem dX12_catches_81 : decode cX12_catches 81 = .ok (.aload_n 0, 1) := by decide +kernel
theorem dX12_catches_82 : decode cX12_catches 82 = .ok (.iload_n 1, 1) := by decide +kernel
theorem dX12_catches_83 : decode cX12_catches 83 = .ok (.iload_n 2, 1) := by decide +kernel
theorem dX12_catches_84 : decode cX12_catches 84 = .ok (.iload 4, 2) := by decide +kernel
theorem dX12_catches_86 : decode cX12_catches 86 = .ok (.iload 5, 2) := by decide +kernel
theorem dX12_catches_88 : decode cX12_catches 88 = .ok (.invokevirtual 374, 3) := by decide +kernel
theorem dX12_catches_91 : decode cX12_catches 91 = .ok (.return_, 1) := by decide +kernel
theorem dX12_beatGoes_59 : decode cX12_beatGoes 59 = .ok (.aload_n 0, 1) := by decide +kernel
theorem dX12_beatGoes_60 : decode cX12_beatGoes 60 = .ok (.invokevirtual 381, 3) := by decide +kernel
theorem dX12_beatGoes_63 : decode cX12_beatGoes 63 = .ok (.aload_n 0, 1) := by decide +kernel
theorem dX12_beatGoes_64 : decode cX12_beatGoes 64 = .ok (.aload_n 0, 1) := by decide +kernel
theorem dX12_beatGoes_65 : decode cX12_beatGoes 65 = .ok (.getfield 341, 3) := by decide +kernel
theorem dX12_beatGoes_68 : decode cX12_beatGoes 68 = .ok (.invokevirtual 384, 3) := by decide +kernel
theorem dX12_beatGoes_86 : decode cX12_beatGoes 86 = .ok (.aload_n 0, 1) := by decide +kernel
theorem dX12_beatGoes_87 : decode cX12_beatGoes 87 = .ok (.getfield 110, 3) := by decide +kernel
theorem dX12_beatGoes_90 : decode cX12_beatGoes 90 = .ok (.iload_n 1, 1) := by decide +kernel
theorem dX12_beatGoes_91 : decode cX12_beatGoes 91 = .ok (.iaload, 1) := by decide +kernel
theorem dX12_beatGoes_92 : decode cX12_beatGoes 92 = .ok (.ifCond .ne 16, 3) := by decide +kernel
theorem dX12_beatGoes_95 : decode cX12_beatGoes 95 = .ok (.aload_n 0, 1) := by decide +kernel
theorem dX12_beatGoes_96 : decode cX12_beatGoes 96 = .ok (.getfield 110, 3) := by decide +kernel
theorem dX12_beatGoes_99 : decode cX12_beatGoes 99 = .ok (.bipush 7, 2) := by decide +kernel
theorem dX12_beatGoes_101 : decode cX12_beatGoes 101 = .ok (.iload_n 1, 1) := by decide +kernel
theorem dX12_beatGoes_102 : decode cX12_beatGoes 102 = .ok (.iadd, 1) := by decide +kernel
theorem dX12_beatGoes_103 : decode cX12_beatGoes 103 = .ok (.dup2, 1) := by decide +kernel
theorem dX12_beatGoes_104 : decode cX12_beatGoes 104 = .ok (.iaload, 1) := by decide +kernel
theorem dX12_beatGoes_105 : decode cX12_beatGoes 105 = .ok (.iconst 1, 1) := by decide +kernel
theorem dX12_beatGoes_106 : decode cX12_beatGoes 106 = .ok (.isub, 1) := by decide +kernel
theorem dX12_beatGoes_107 : decode cX12_beatGoes 107 = .ok (.iastore, 1) := by decide +kernel
theorem dX12_beatGoes_108 : decode cX12_beatGoes 108 = .ok (.iinc 1 1, 3) := by decide +kernel
theorem dX12_beatGoes_111 : decode cX12_beatGoes 111 = .ok (.goto (-38), 3) := by decide +kernel
