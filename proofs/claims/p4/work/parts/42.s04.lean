theorem dX3_highest_0 : decode cX3_highest 0 = .ok (.iconst 0, 1) := by decide +kernel
theorem dX3_highest_1 : decode cX3_highest 1 = .ok (.istore_n 2, 1) := by decide +kernel
theorem dX3_highest_2 : decode cX3_highest 2 = .ok (.iconst 0, 1) := by decide +kernel
theorem dX3_highest_3 : decode cX3_highest 3 = .ok (.istore_n 3, 1) := by decide +kernel
theorem dX3_highest_4 : decode cX3_highest 4 = .ok (.iload_n 3, 1) := by decide +kernel
theorem dX3_highest_5 : decode cX3_highest 5 = .ok (.iload_n 1, 1) := by decide +kernel
theorem dX3_highest_6 : decode cX3_highest 6 = .ok (.if_icmp .ge 17, 3) := by decide +kernel
theorem dX3_highest_9 : decode cX3_highest 9 = .ok (.iload_n 2, 1) := by decide +kernel
theorem dX3_highest_10 : decode cX3_highest 10 = .ok (.aload_n 0, 1) := by decide +kernel
theorem dX3_highest_11 : decode cX3_highest 11 = .ok (.iload_n 3, 1) := by decide +kernel
theorem dX3_highest_12 : decode cX3_highest 12 = .ok (.iaload, 1) := by decide +kernel
theorem dX3_highest_13 : decode cX3_highest 13 = .ok (.invokestatic 9, 3) := by decide +kernel
theorem dX3_highest_16 : decode cX3_highest 16 = .ok (.istore_n 2, 1) := by decide +kernel
theorem dX3_highest_17 : decode cX3_highest 17 = .ok (.iinc 3 1, 3) := by decide +kernel
theorem dX3_highest_20 : decode cX3_highest 20 = .ok (.goto (-16), 3) := by decide +kernel
theorem dX3_highest_23 : decode cX3_highest 23 = .ok (.iload_n 2, 1) := by decide +kernel
theorem dX3_highest_24 : decode cX3_highest 24 = .ok (.ireturn, 1) := by decide +kernel
theorem dX3_rounds_0 : decode cX3_rounds 0 = .ok (.iconst 0, 1) := by decide +kernel
theorem dX3_rounds_1 : decode cX3_rounds 1 = .ok (.istore_n 2, 1) := by decide +kernel
theorem dX3_rounds_2 : decode cX3_rounds 2 = .ok (.iconst 0, 1) := by decide +kernel
theorem dX3_rounds_3 : decode cX3_rounds 3 = .ok (.istore_n 3, 1) := by decide +kernel
theorem dX3_rounds_4 : decode cX3_rounds 4 = .ok (.iconst 0, 1) := by decide +kernel
theorem dX3_rounds_5 : decode cX3_rounds 5 = .ok (.istore 4, 2) := by decide +kernel
theorem dX3_rounds_7 : decode cX3_rounds 7 = .ok (.iload 4, 2) := by decide +kernel
theorem dX3_rounds_9 : decode cX3_rounds 9 = .ok (.iload_n 1, 1) := by decide +kernel
theorem dX3_rounds_10 : decode cX3_rounds 10 = .ok (.if_icmp .ge 58, 3) := by decide +kernel
theorem dX3_rounds_13 : decode cX3_rounds 13 = .ok (.iload_n 2, 1) := by decide +kernel
theorem dX3_rounds_14 : decode cX3_rounds 14 = .ok (.iload 4, 2) := by decide +kernel
theorem dX3_rounds_16 : decode cX3_rounds 16 = .ok (.ishr, 1) := by decide +kernel
theorem dX3_rounds_17 : decode cX3_rounds 17 = .ok (.iconst 1, 1) := by decide +kernel
theorem dX3_rounds_18 : decode cX3_rounds 18 = .ok (.iand, 1) := by decide +kernel
theorem dX3_rounds_19 : decode cX3_rounds 19 = .ok (.ifCond .ne 43, 3) := by decide +kernel
theorem dX3_rounds_22 : decode cX3_rounds 22 = .ok (.iinc 3 1, 3) := by decide +kernel
theorem dX3_rounds_25 : decode cX3_rounds 25 = .ok (.iload 4, 2) := by decide +kernel
theorem dX3_rounds_27 : decode cX3_rounds 27 = .ok (.istore 5, 2) := by decide +kernel
theorem dX3_rounds_29 : decode cX3_rounds 29 = .ok (.iconst 0, 1) := by decide +kernel
theorem dX3_rounds_30 : decode cX3_rounds 30 = .ok (.istore 6, 2) := by decide +kernel
theorem dX3_rounds_32 : decode cX3_rounds 32 = .ok (.iload 6, 2) := by decide +kernel
theorem dX3_rounds_34 : decode cX3_rounds 34 = .ok (.iload_n 1, 1) := by decide +kernel
theorem dX3_rounds_35 : decode cX3_rounds 35 = .ok (.if_icmp .ge 27, 3) := by decide +kernel
theorem dX3_rounds_38 : decode cX3_rounds 38 = .ok (.iload_n 2, 1) := by decide +kernel
theorem dX3_rounds_39 : decode cX3_rounds 39 = .ok (.iconst 1, 1) := by decide +kernel
theorem dX3_rounds_40 : decode cX3_rounds 40 = .ok (.iload 5, 2) := by decide +kernel
theorem dX3_rounds_42 : decode cX3_rounds 42 = .ok (.ishl, 1) := by decide +kernel
theorem dX3_rounds_43 : decode cX3_rounds 43 = .ok (.ior, 1) := by decide +kernel
theorem dX3_rounds_44 : decode cX3_rounds 44 = .ok (.istore_n 2, 1) := by decide +kernel
theorem dX3_rounds_45 : decode cX3_rounds 45 = .ok (.iload 5, 2) := by decide +kernel
theorem dX3_rounds_47 : decode cX3_rounds 47 = .ok (.aload_n 0, 1) := by decide +kernel
theorem dX3_rounds_48 : decode cX3_rounds 48 = .ok (.iload 5, 2) := by decide +kernel
theorem dX3_rounds_50 : decode cX3_rounds 50 = .ok (.iaload, 1) := by decide +kernel
theorem dX3_rounds_51 : decode cX3_rounds 51 = .ok (.iadd, 1) := by decide +kernel
theorem dX3_rounds_52 : decode cX3_rounds 52 = .ok (.iload_n 1, 1) := by decide +kernel
theorem dX3_rounds_53 : decode cX3_rounds 53 = .ok (.irem, 1) := by decide +kernel
theorem dX3_rounds_54 : decode cX3_rounds 54 = .ok (.istore 5, 2) := by decide +kernel
theorem dX3_rounds_56 : decode cX3_rounds 56 = .ok (.iinc 6 1, 3) := by decide +kernel
theorem dX3_rounds_59 : decode cX3_rounds 59 = .ok (.goto (-27), 3) := by decide +kernel
theorem dX3_rounds_62 : decode cX3_rounds 62 = .ok (.iinc 4 1, 3) := by decide +kernel
theorem dX3_rounds_65 : decode cX3_rounds 65 = .ok (.goto (-58), 3) := by decide +kernel
theorem dX3_rounds_68 : decode cX3_rounds 68 = .ok (.iload_n 3, 1) := by decide +kernel
theorem dX3_rounds_69 : decode cX3_rounds 69 = .ok (.ireturn, 1) := by decide +kernel
theorem dX3_pairsToSwap_0 : decode cX3_pairsToSwap 0 = .ok (.iconst 0, 1) := by decide +kernel
theorem dX3_pairsToSwap_1 : decode cX3_pairsToSwap 1 = .ok (.istore_n 2, 1) := by decide +kernel
theorem dX3_pairsToSwap_2 : decode cX3_pairsToSwap 2 = .ok (.iconst 1, 1) := by decide +kernel
theorem dX3_pairsToSwap_3 : decode cX3_pairsToSwap 3 = .ok (.istore_n 3, 1) := by decide +kernel
theorem dX3_pairsToSwap_4 : decode cX3_pairsToSwap 4 = .ok (.iload_n 3, 1) := by decide +kernel
theorem dX3_pairsToSwap_5 : decode cX3_pairsToSwap 5 = .ok (.iload_n 1, 1) := by decide +kernel
theorem dX3_pairsToSwap_6 : decode cX3_pairsToSwap 6 = .ok (.if_icmp .ge 56, 3) := by decide +kernel
theorem dX3_pairsToSwap_9 : decode cX3_pairsToSwap 9 = .ok (.iconst 0, 1) := by decide +kernel
theorem dX3_pairsToSwap_10 : decode cX3_pairsToSwap 10 = .ok (.istore 4, 2) := by decide +kernel
theorem dX3_pairsToSwap_12 : decode cX3_pairsToSwap 12 = .ok (.iload 4, 2) := by decide +kernel
theorem dX3_pairsToSwap_14 : decode cX3_pairsToSwap 14 = .ok (.iload_n 3, 1) := by decide +kernel
theorem dX3_pairsToSwap_15 : decode cX3_pairsToSwap 15 = .ok (.if_icmp .ge 41, 3) := by decide +kernel
theorem dX3_pairsToSwap_18 : decode cX3_pairsToSwap 18 = .ok (.aload_n 0, 1) := by decide +kernel
theorem dX3_pairsToSwap_19 : decode cX3_pairsToSwap 19 = .ok (.iload_n 3, 1) := by decide +kernel
theorem dX3_pairsToSwap_20 : decode cX3_pairsToSwap 20 = .ok (.iaload, 1) := by decide +kernel
theorem dX3_pairsToSwap_21 : decode cX3_pairsToSwap 21 = .ok (.iload_n 3, 1) := by decide +kernel
theorem dX3_pairsToSwap_22 : decode cX3_pairsToSwap 22 = .ok (.iadd, 1) := by decide +kernel
theorem dX3_pairsToSwap_23 : decode cX3_pairsToSwap 23 = .ok (.iload 4, 2) := by decide +kernel
theorem dX3_pairsToSwap_25 : decode cX3_pairsToSwap 25 = .ok (.isub, 1) := by decide +kernel
theorem dX3_pairsToSwap_26 : decode cX3_pairsToSwap 26 = .ok (.invokestatic 15, 3) := by decide +kernel
theorem dX3_pairsToSwap_29 : decode cX3_pairsToSwap 29 = .ok (.ifCond .eq 21, 3) := by decide +kernel
theorem dX3_pairsToSwap_32 : decode cX3_pairsToSwap 32 = .ok (.aload_n 0, 1) := by decide +kernel
theorem dX3_pairsToSwap_33 : decode cX3_pairsToSwap 33 = .ok (.iload 4, 2) := by decide +kernel
theorem dX3_pairsToSwap_35 : decode cX3_pairsToSwap 35 = .ok (.iaload, 1) := by decide +kernel
theorem dX3_pairsToSwap_36 : decode cX3_pairsToSwap 36 = .ok (.iload_n 3, 1) := by decide +kernel
theorem dX3_pairsToSwap_37 : decode cX3_pairsToSwap 37 = .ok (.iload 4, 2) := by decide +kernel
theorem dX3_pairsToSwap_39 : decode cX3_pairsToSwap 39 = .ok (.isub, 1) := by decide +kernel
theorem dX3_pairsToSwap_40 : decode cX3_pairsToSwap 40 = .ok (.isub, 1) := by decide +kernel
theorem dX3_pairsToSwap_41 : decode cX3_pairsToSwap 41 = .ok (.invokestatic 15, 3) := by decide +kernel
theorem dX3_pairsToSwap_44 : decode cX3_pairsToSwap 44 = .ok (.ifCond .eq 6, 3) := by decide +kernel
theorem dX3_pairsToSwap_47 : decode cX3_pairsToSwap 47 = .ok (.iinc 2 1, 3) := by decide +kernel
theorem dX3_pairsToSwap_50 : decode cX3_pairsToSwap 50 = .ok (.iinc 4 1, 3) := by decide +kernel
theorem dX3_pairsToSwap_53 : decode cX3_pairsToSwap 53 = .ok (.goto (-41), 3) := by decide +kernel
theorem dX3_pairsToSwap_56 : decode cX3_pairsToSwap 56 = .ok (.iinc 3 1, 3) := by decide +kernel
theorem dX3_pairsToSwap_59 : decode cX3_pairsToSwap 59 = .ok (.goto (-55), 3) := by decide +kernel
theorem dX3_pairsToSwap_62 : decode cX3_pairsToSwap 62 = .ok (.iload_n 2, 1) := by decide +kernel
theorem dX3_pairsToSwap_63 : decode cX3_pairsToSwap 63 = .ok (.ireturn, 1) := by decide +kernel
theorem dX3_landingBits_0 : decode cX3_landingBits 0 = .ok (.iconst 0, 1) := by decide +kernel
theorem dX3_landingBits_1 : decode cX3_landingBits 1 = .ok (.istore_n 2, 1) := by decide +kernel
theorem dX3_landingBits_2 : decode cX3_landingBits 2 = .ok (.iconst 1, 1) := by decide +kernel
theorem dX3_landingBits_3 : decode cX3_landingBits 3 = .ok (.istore_n 3, 1) := by decide +kernel
theorem dX3_landingBits_4 : decode cX3_landingBits 4 = .ok (.iload_n 3, 1) := by decide +kernel
theorem dX3_landingBits_5 : decode cX3_landingBits 5 = .ok (.bipush 9, 2) := by decide +kernel
theorem dX3_landingBits_7 : decode cX3_landingBits 7 = .ok (.if_icmp .gt 37, 3) := by decide +kernel
theorem dX3_landingBits_10 : decode cX3_landingBits 10 = .ok (.iload_n 1, 1) := by decide +kernel
theorem dX3_landingBits_11 : decode cX3_landingBits 11 = .ok (.ifCond .le 33, 3) := by decide +kernel
theorem dX3_landingBits_14 : decode cX3_landingBits 14 = .ok (.aload_n 0, 1) := by decide +kernel
theorem dX3_landingBits_15 : decode cX3_landingBits 15 = .ok (.iload_n 3, 1) := by decide +kernel
theorem dX3_landingBits_16 : decode cX3_landingBits 16 = .ok (.ineg, 1) := by decide +kernel
theorem dX3_landingBits_17 : decode cX3_landingBits 17 = .ok (.iload_n 1, 1) := by decide +kernel
theorem dX3_landingBits_18 : decode cX3_landingBits 18 = .ok (.invokestatic 19, 3) := by decide +kernel
theorem dX3_landingBits_21 : decode cX3_landingBits 21 = .ok (.iaload, 1) := by decide +kernel
theorem dX3_landingBits_22 : decode cX3_landingBits 22 = .ok (.iload_n 3, 1) := by decide +kernel
theorem dX3_landingBits_23 : decode cX3_landingBits 23 = .ok (.isub, 1) := by decide +kernel
theorem dX3_landingBits_24 : decode cX3_landingBits 24 = .ok (.istore 4, 2) := by decide +kernel
theorem dX3_landingBits_26 : decode cX3_landingBits 26 = .ok (.iload 4, 2) := by decide +kernel
theorem dX3_landingBits_28 : decode cX3_landingBits 28 = .ok (.ifCond .lt 10, 3) := by decide +kernel
theorem dX3_landingBits_31 : decode cX3_landingBits 31 = .ok (.iload_n 2, 1) := by decide +kernel
theorem dX3_landingBits_32 : decode cX3_landingBits 32 = .ok (.iconst 1, 1) := by decide +kernel
theorem dX3_landingBits_33 : decode cX3_landingBits 33 = .ok (.iload 4, 2) := by decide +kernel
theorem dX3_landingBits_35 : decode cX3_landingBits 35 = .ok (.ishl, 1) := by decide +kernel
theorem dX3_landingBits_36 : decode cX3_landingBits 36 = .ok (.ior, 1) := by decide +kernel
theorem dX3_landingBits_37 : decode cX3_landingBits 37 = .ok (.istore_n 2, 1) := by decide +kernel
theorem dX3_landingBits_38 : decode cX3_landingBits 38 = .ok (.iinc 3 1, 3) := by decide +kernel
theorem dX3_landingBits_41 : decode cX3_landingBits 41 = .ok (.goto (-37), 3) := by decide +kernel
theorem dX3_landingBits_44 : decode cX3_landingBits 44 = .ok (.iload_n 2, 1) := by decide +kernel
theorem dX3_landingBits_45 : decode cX3_landingBits 45 = .ok (.ireturn, 1) := by decide +kernel
theorem dX3_turns_0 : decode cX3_turns 0 = .ok (.iconst 0, 1) := by decide +kernel
theorem dX3_turns_1 : decode cX3_turns 1 = .ok (.istore_n 3, 1) := by decide +kernel
theorem dX3_turns_2 : decode cX3_turns 2 = .ok (.iload_n 3, 1) := by decide +kernel
theorem dX3_turns_3 : decode cX3_turns 3 = .ok (.iload_n 2, 1) := by decide +kernel
theorem dX3_turns_4 : decode cX3_turns 4 = .ok (.if_icmp .ge 61, 3) := by decide +kernel
theorem dX3_turns_7 : decode cX3_turns 7 = .ok (.iconst 1, 1) := by decide +kernel
theorem dX3_turns_8 : decode cX3_turns 8 = .ok (.istore 4, 2) := by decide +kernel
theorem dX3_turns_10 : decode cX3_turns 10 = .ok (.iconst 0, 1) := by decide +kernel
theorem dX3_turns_11 : decode cX3_turns 11 = .ok (.istore 5, 2) := by decide +kernel
theorem dX3_turns_13 : decode cX3_turns 13 = .ok (.iload 5, 2) := by decide +kernel
theorem dX3_turns_15 : decode cX3_turns 15 = .ok (.iload_n 2, 1) := by decide +kernel
theorem dX3_turns_16 : decode cX3_turns 16 = .ok (.if_icmp .ge 36, 3) := by decide +kernel
theorem dX3_turns_19 : decode cX3_turns 19 = .ok (.iload 4, 2) := by decide +kernel
theorem dX3_turns_21 : decode cX3_turns 21 = .ok (.ifCond .eq 22, 3) := by decide +kernel
theorem dX3_turns_24 : decode cX3_turns 24 = .ok (.aload_n 0, 1) := by decide +kernel
theorem dX3_turns_25 : decode cX3_turns 25 = .ok (.iload 5, 2) := by decide +kernel
theorem dX3_turns_27 : decode cX3_turns 27 = .ok (.iload_n 3, 1) := by decide +kernel
theorem dX3_turns_28 : decode cX3_turns 28 = .ok (.iadd, 1) := by decide +kernel
theorem dX3_turns_29 : decode cX3_turns 29 = .ok (.iload_n 2, 1) := by decide +kernel
theorem dX3_turns_30 : decode cX3_turns 30 = .ok (.irem, 1) := by decide +kernel
theorem dX3_turns_31 : decode cX3_turns 31 = .ok (.iaload, 1) := by decide +kernel
theorem dX3_turns_32 : decode cX3_turns 32 = .ok (.aload_n 1, 1) := by decide +kernel
theorem dX3_turns_33 : decode cX3_turns 33 = .ok (.iload 5, 2) := by decide +kernel
theorem dX3_turns_35 : decode cX3_turns 35 = .ok (.iaload, 1) := by decide +kernel
theorem dX3_turns_36 : decode cX3_turns 36 = .ok (.if_icmp .ne 7, 3) := by decide +kernel
theorem dX3_turns_39 : decode cX3_turns 39 = .ok (.iconst 1, 1) := by decide +kernel
theorem dX3_turns_40 : decode cX3_turns 40 = .ok (.goto 4, 3) := by decide +kernel
theorem dX3_turns_43 : decode cX3_turns 43 = .ok (.iconst 0, 1) := by decide +kernel
theorem dX3_turns_44 : decode cX3_turns 44 = .ok (.istore 4, 2) := by decide +kernel
theorem dX3_turns_46 : decode cX3_turns 46 = .ok (.iinc 5 1, 3) := by decide +kernel
theorem dX3_turns_49 : decode cX3_turns 49 = .ok (.goto (-36), 3) := by decide +kernel
theorem dX3_turns_52 : decode cX3_turns 52 = .ok (.iload 4, 2) := by decide +kernel
theorem dX3_turns_54 : decode cX3_turns 54 = .ok (.ifCond .eq 5, 3) := by decide +kernel
theorem dX3_turns_57 : decode cX3_turns 57 = .ok (.iload_n 3, 1) := by decide +kernel
theorem dX3_turns_58 : decode cX3_turns 58 = .ok (.ireturn, 1) := by decide +kernel
theorem dX3_turns_59 : decode cX3_turns 59 = .ok (.iinc 3 1, 3) := by decide +kernel
theorem dX3_turns_62 : decode cX3_turns 62 = .ok (.goto (-60), 3) := by decide +kernel
theorem dX3_turns_65 : decode cX3_turns 65 = .ok (.bipush (-2), 2) := by decide +kernel
theorem dX3_turns_67 : decode cX3_turns 67 = .ok (.ireturn, 1) := by decide +kernel
theorem dX4_stir_0 : decode cX4_stir 0 = .ok (.iload_n 0, 1) := by decide +kernel
theorem dX4_stir_1 : decode cX4_stir 1 = .ok (.iload_n 1, 1) := by decide +kernel
theorem dX4_stir_2 : decode cX4_stir 2 = .ok (.ixor, 1) := by decide +kernel
theorem dX4_stir_3 : decode cX4_stir 3 = .ok (.ldc 129, 2) := by decide +kernel
theorem dX4_stir_5 : decode cX4_stir 5 = .ok (.imul, 1) := by decide +kernel
theorem dX4_stir_6 : decode cX4_stir 6 = .ok (.sipush 12345, 3) := by decide +kernel
theorem dX4_stir_9 : decode cX4_stir 9 = .ok (.iadd, 1) := by decide +kernel
theorem dX4_stir_10 : decode cX4_stir 10 = .ok (.istore_n 2, 1) := by decide +kernel
theorem dX4_stir_11 : decode cX4_stir 11 = .ok (.iload_n 2, 1) := by decide +kernel
theorem dX4_stir_12 : decode cX4_stir 12 = .ok (.iload_n 2, 1) := by decide +kernel
theorem dX4_stir_13 : decode cX4_stir 13 = .ok (.bipush 15, 2) := by decide +kernel
theorem dX4_stir_15 : decode cX4_stir 15 = .ok (.iushr, 1) := by decide +kernel
theorem dX4_stir_16 : decode cX4_stir 16 = .ok (.ixor, 1) := by decide +kernel
theorem dX4_stir_17 : decode cX4_stir 17 = .ok (.ireturn, 1) := by decide +kernel
theorem dX4_lot_0 : decode cX4_lot 0 = .ok (.iload_n 1, 1) := by decide +kernel
theorem dX4_lot_1 : decode cX4_lot 1 = .ok (.bipush 125, 2) := by decide +kernel
theorem dX4_lot_3 : decode cX4_lot 3 = .ok (.invokestatic 126, 3) := by decide +kernel
theorem dX4_lot_6 : decode cX4_lot 6 = .ok (.iload_n 2, 1) := by decide +kernel
theorem dX4_lot_7 : decode cX4_lot 7 = .ok (.invokestatic 126, 3) := by decide +kernel
theorem dX4_lot_10 : decode cX4_lot 10 = .ok (.istore_n 3, 1) := by decide +kernel
theorem dX4_lot_11 : decode cX4_lot 11 = .ok (.iload_n 0, 1) := by decide +kernel
theorem dX4_lot_12 : decode cX4_lot 12 = .ok (.iconst 1, 1) := by decide +kernel
theorem dX4_lot_13 : decode cX4_lot 13 = .ok (.if_icmp .ge 7, 3) := by decide +kernel
theorem dX4_lot_16 : decode cX4_lot 16 = .ok (.iconst 0, 1) := by decide +kernel
theorem dX4_lot_17 : decode cX4_lot 17 = .ok (.goto 8, 3) := by decide +kernel
theorem dX4_lot_20 : decode cX4_lot 20 = .ok (.iload_n 3, 1) := by decide +kernel
theorem dX4_lot_21 : decode cX4_lot 21 = .ok (.iconst 1, 1) := by decide +kernel
theorem dX4_lot_22 : decode cX4_lot 22 = .ok (.iushr, 1) := by decide +kernel
theorem dX4_lot_23 : decode cX4_lot 23 = .ok (.iload_n 0, 1) := by decide +kernel
theorem dX4_lot_24 : decode cX4_lot 24 = .ok (.irem, 1) := by decide +kernel
theorem dX4_lot_25 : decode cX4_lot 25 = .ok (.ireturn, 1) := by decide +kernel
theorem dX5_giveBack_9 : decode cX5_giveBack 9 = .ok (.aload_n 0, 1) := by decide +kernel
theorem dX5_giveBack_10 : decode cX5_giveBack 10 = .ok (.aload_n 0, 1) := by decide +kernel
theorem dX5_giveBack_11 : decode cX5_giveBack 11 = .ok (.getfield 22, 3) := by decide +kernel
theorem dX5_giveBack_14 : decode cX5_giveBack 14 = .ok (.bipush 40, 2) := by decide +kernel
theorem dX5_giveBack_16 : decode cX5_giveBack 16 = .ok (.iadd, 1) := by decide +kernel
theorem dX5_giveBack_17 : decode cX5_giveBack 17 = .ok (.iconst 1, 1) := by decide +kernel
theorem dX5_giveBack_18 : decode cX5_giveBack 18 = .ok (.isub, 1) := by decide +kernel
theorem dX5_giveBack_19 : decode cX5_giveBack 19 = .ok (.bipush 40, 2) := by decide +kernel
theorem dX5_giveBack_21 : decode cX5_giveBack 21 = .ok (.irem, 1) := by decide +kernel
theorem dX5_giveBack_22 : decode cX5_giveBack 22 = .ok (.putfield 22, 3) := by decide +kernel
theorem dX5_giveBack_25 : decode cX5_giveBack 25 = .ok (.aload_n 1, 1) := by decide +kernel
theorem dX5_giveBack_26 : decode cX5_giveBack 26 = .ok (.aload_n 0, 1) := by decide +kernel
theorem dX5_giveBack_27 : decode cX5_giveBack 27 = .ok (.getfield 11, 3) := by decide +kernel
theorem dX5_giveBack_30 : decode cX5_giveBack 30 = .ok (.aload_n 0, 1) := by decide +kernel
theorem dX5_giveBack_31 : decode cX5_giveBack 31 = .ok (.getfield 22, 3) := by decide +kernel
theorem dX5_giveBack_34 : decode cX5_giveBack 34 = .ok (.aaload, 1) := by decide +kernel
theorem dX5_giveBack_35 : decode cX5_giveBack 35 = .ok (.invokevirtual 25, 3) := by decide +kernel
theorem dX5_giveBack_38 : decode cX5_giveBack 38 = .ok (.aload_n 0, 1) := by decide +kernel
theorem dX5_giveBack_39 : decode cX5_giveBack 39 = .ok (.dup, 1) := by decide +kernel
theorem dX5_giveBack_40 : decode cX5_giveBack 40 = .ok (.getfield 18, 3) := by decide +kernel
theorem dX5_giveBack_43 : decode cX5_giveBack 43 = .ok (.iconst 1, 1) := by decide +kernel
theorem dX5_giveBack_44 : decode cX5_giveBack 44 = .ok (.isub, 1) := by decide +kernel
theorem dX5_giveBack_45 : decode cX5_giveBack 45 = .ok (.putfield 18, 3) := by decide +kernel
theorem dX5_giveBack_48 : decode cX5_giveBack 48 = .ok (.iconst 1, 1) := by decide +kernel
theorem dX5_giveBack_49 : decode cX5_giveBack 49 = .ok (.ireturn, 1) := by decide +kernel
theorem dX6_refuse_0 : decode cX6_refuse 0 = .ok (.aload_n 0, 1) := by decide +kernel
theorem dX6_refuse_1 : decode cX6_refuse 1 = .ok (.iload_n 1, 1) := by decide +kernel
theorem dX6_refuse_2 : decode cX6_refuse 2 = .ok (.putfield 34, 3) := by decide +kernel
theorem dX6_refuse_5 : decode cX6_refuse 5 = .ok (.aload_n 0, 1) := by decide +kernel
theorem dX6_refuse_6 : decode cX6_refuse 6 = .ok (.aload_n 0, 1) := by decide +kernel
theorem dX6_refuse_7 : decode cX6_refuse 7 = .ok (.getfield 12, 3) := by decide +kernel
theorem dX6_refuse_10 : decode cX6_refuse 10 = .ok (.getfield 70, 3) := by decide +kernel
theorem dX6_refuse_13 : decode cX6_refuse 13 = .ok (.aload_n 0, 1) := by decide +kernel
theorem dX6_refuse_14 : decode cX6_refuse 14 = .ok (.getfield 46, 3) := by decide +kernel
theorem dX6_refuse_17 : decode cX6_refuse 17 = .ok (.iaload, 1) := by decide +kernel
theorem dX6_refuse_18 : decode cX6_refuse 18 = .ok (.putfield 18, 3) := by decide +kernel
theorem dX6_refuse_21 : decode cX6_refuse 21 = .ok (.iconst 0, 1) := by decide +kernel
theorem dX6_refuse_22 : decode cX6_refuse 22 = .ok (.ireturn, 1) := by decide +kernel
theorem dX6_noteLater_0 : decode cX6_noteLater 0 = .ok (.aload_n 0, 1) := by decide +kernel
theorem dX6_noteLater_1 : decode cX6_noteLater 1 = .ok (.getfield 37, 3) := by decide +kernel
theorem dX6_noteLater_4 : decode cX6_noteLater 4 = .ok (.ifCond .ne 24, 3) := by decide +kernel
theorem dX6_noteLater_7 : decode cX6_noteLater 7 = .ok (.aload_n 0, 1) := by decide +kernel
theorem dX6_noteLater_8 : decode cX6_noteLater 8 = .ok (.iload_n 1, 1) := by decide +kernel
theorem dX6_noteLater_9 : decode cX6_noteLater 9 = .ok (.putfield 37, 3) := by decide +kernel
theorem dX6_noteLater_12 : decode cX6_noteLater 12 = .ok (.aload_n 0, 1) := by decide +kernel
theorem dX6_noteLater_13 : decode cX6_noteLater 13 = .ok (.aload_n 0, 1) := by decide +kernel
theorem dX6_noteLater_14 : decode cX6_noteLater 14 = .ok (.getfield 12, 3) := by decide +kernel
theorem dX6_noteLater_17 : decode cX6_noteLater 17 = .ok (.getfield 70, 3) := by decide +kernel
theorem dX6_noteLater_20 : decode cX6_noteLater 20 = .ok (.aload_n 0, 1) := by decide +kernel
theorem dX6_noteLater_21 : decode cX6_noteLater 21 = .ok (.getfield 46, 3) := by decide +kernel
theorem dX6_noteLater_24 : decode cX6_noteLater 24 = .ok (.iaload, 1) := by decide +kernel
theorem dX6_noteLater_25 : decode cX6_noteLater 25 = .ok (.putfield 40, 3) := by decide +kernel
theorem dX6_noteLater_28 : decode cX6_noteLater 28 = .ok (.return_, 1) := by decide +kernel
theorem dX6_take_0 : decode cX6_take 0 = .ok (.aload_n 0, 1) := by decide +kernel
theorem dX6_take_1 : decode cX6_take 1 = .ok (.getfield 53, 3) := by decide +kernel
theorem dX6_take_4 : decode cX6_take 4 = .ok (.iload_n 1, 1) := by decide +kernel
theorem dX6_take_5 : decode cX6_take 5 = .ok (.if_icmp .eq 9, 3) := by decide +kernel
theorem dX6_take_8 : decode cX6_take 8 = .ok (.aload_n 0, 1) := by decide +kernel
theorem dX6_take_9 : decode cX6_take 9 = .ok (.iconst 1, 1) := by decide +kernel
theorem dX6_take_10 : decode cX6_take 10 = .ok (.invokevirtual 60, 3) := by decide +kernel
theorem dX6_take_13 : decode cX6_take 13 = .ok (.ireturn, 1) := by decide +kernel
theorem dX6_take_14 : decode cX6_take 14 = .ok (.aload_n 0, 1) := by decide +kernel
theorem dX6_take_15 : decode cX6_take 15 = .ok (.getfield 46, 3) := by decide +kernel
theorem dX6_take_18 : decode cX6_take 18 = .ok (.ifCond .lt 13, 3) := by decide +kernel
theorem dX6_take_21 : decode cX6_take 21 = .ok (.aload_n 0, 1) := by decide +kernel
theorem dX6_take_22 : decode cX6_take 22 = .ok (.getfield 46, 3) := by decide +kernel
theorem dX6_take_25 : decode cX6_take 25 = .ok (.sipush 400, 3) := by decide +kernel
theorem dX6_take_28 : decode cX6_take 28 = .ok (.if_icmp .lt 9, 3) := by decide +kernel
theorem dX6_take_31 : decode cX6_take 31 = .ok (.aload_n 0, 1) := by decide +kernel
theorem dX6_take_32 : decode cX6_take 32 = .ok (.iconst 2, 1) := by decide +kernel
theorem dX6_take_33 : decode cX6_take 33 = .ok (.invokevirtual 60, 3) := by decide +kernel
theorem dX6_take_36 : decode cX6_take 36 = .ok (.ireturn, 1) := by decide +kernel
theorem dX6_take_37 : decode cX6_take 37 = .ok (.aload_n 0, 1) := by decide +kernel
theorem dX6_take_38 : decode cX6_take 38 = .ok (.aload_n 0, 1) := by decide +kernel
theorem dX6_take_39 : decode cX6_take 39 = .ok (.getfield 12, 3) := by decide +kernel
theorem dX6_take_42 : decode cX6_take 42 = .ok (.getfield 64, 3) := by decide +kernel
theorem dX6_take_45 : decode cX6_take 45 = .ok (.aload_n 0, 1) := by decide +kernel
theorem dX6_take_46 : decode cX6_take 46 = .ok (.getfield 46, 3) := by decide +kernel
theorem dX6_take_49 : decode cX6_take 49 = .ok (.laload, 1) := by decide +kernel
theorem dX6_take_50 : decode cX6_take 50 = .ok (.l2i, 1) := by decide +kernel
theorem dX6_take_51 : decode cX6_take 51 = .ok (.putfield 67, 3) := by decide +kernel
theorem dX6_take_54 : decode cX6_take 54 = .ok (.aload_n 0, 1) := by decide +kernel
theorem dX6_take_55 : decode cX6_take 55 = .ok (.dup, 1) := by decide +kernel
theorem dX6_take_56 : decode cX6_take 56 = .ok (.getfield 46, 3) := by decide +kernel
theorem dX6_take_59 : decode cX6_take 59 = .ok (.iconst 1, 1) := by decide +kernel
theorem dX6_take_60 : decode cX6_take 60 = .ok (.iadd, 1) := by decide +kernel
theorem dX6_take_61 : decode cX6_take 61 = .ok (.putfield 46, 3) := by decide +kernel
theorem dX6_take_64 : decode cX6_take 64 = .ok (.aload_n 0, 1) := by decide +kernel
theorem dX6_take_65 : decode cX6_take 65 = .ok (.aload_n 0, 1) := by decide +kernel
theorem dX6_take_66 : decode cX6_take 66 = .ok (.getfield 12, 3) := by decide +kernel
theorem dX6_take_69 : decode cX6_take 69 = .ok (.getfield 49, 3) := by decide +kernel
theorem dX6_take_72 : decode cX6_take 72 = .ok (.aload_n 0, 1) := by decide +kernel
theorem dX6_take_73 : decode cX6_take 73 = .ok (.getfield 46, 3) := by decide +kernel
theorem dX6_take_76 : decode cX6_take 76 = .ok (.iaload, 1) := by decide +kernel
theorem dX6_take_77 : decode cX6_take 77 = .ok (.putfield 53, 3) := by decide +kernel
theorem dX6_take_80 : decode cX6_take 80 = .ok (.iconst 1, 1) := by decide +kernel
theorem dX6_take_81 : decode cX6_take 81 = .ok (.ireturn, 1) := by decide +kernel
