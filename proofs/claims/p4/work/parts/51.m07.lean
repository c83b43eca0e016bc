theorem dX12_pattern_8 : decode cX12_pattern 8 = .ok (.iload_n 2, 1) := by decide +kernel
theorem dX12_pattern_9 : decode cX12_pattern 9 = .ok (.iconst (-1), 1) := by decide +kernel
theorem dX12_pattern_10 : decode cX12_pattern 10 = .ok (.aload_n 0, 1) := by decide +kernel
theorem dX12_pattern_11 : decode cX12_pattern 11 = .ok (.iload_n 1, 1) := by decide +kernel
theorem dX12_pattern_12 : decode cX12_pattern 12 = .ok (.invokevirtual 318, 3) := by decide +kernel
theorem dX12_pattern_15 : decode cX12_pattern 15 = .ok (.iconst 1, 1) := by decide +kernel
theorem dX12_pattern_16 : decode cX12_pattern 16 = .ok (.isub, 1) := by decide +kernel
theorem dX12_pattern_17 : decode cX12_pattern 17 = .ok (.invokestatic 301, 3) := by decide +kernel
theorem dX12_pattern_20 : decode cX12_pattern 20 = .ok (.ifCond .ne 5, 3) := by decide +kernel
theorem dX12_pattern_25 : decode cX12_pattern 25 = .ok (.iload_n 2, 1) := by decide +kernel
theorem dX12_pattern_26 : decode cX12_pattern 26 = .ok (.iconst (-1), 1) := by decide +kernel
theorem dX12_pattern_27 : decode cX12_pattern 27 = .ok (.if_icmp .ne 11, 3) := by decide +kernel
theorem dX12_pattern_30 : decode cX12_pattern 30 = .ok (.aload_n 0, 1) := by decide +kernel
theorem dX12_pattern_31 : decode cX12_pattern 31 = .ok (.iload_n 1, 1) := by decide +kernel
theorem dX12_pattern_32 : decode cX12_pattern 32 = .ok (.invokevirtual 318, 3) := by decide +kernel
theorem dX12_pattern_35 : decode cX12_pattern 35 = .ok (.goto 9, 3) := by decide +kernel
theorem dX12_pattern_38 : decode cX12_pattern 38 = .ok (.aload_n 0, 1) := by decide +kernel
theorem dX12_pattern_39 : decode cX12_pattern 39 = .ok (.iload_n 1, 1) := by decide +kernel
theorem dX12_pattern_40 : decode cX12_pattern 40 = .ok (.iload_n 2, 1) := by decide +kernel
theorem dX12_pattern_41 : decode cX12_pattern 41 = .ok (.invokevirtual 321, 3) := by decide +kernel
theorem dX12_pattern_44 : decode cX12_pattern 44 = .ok (.ireturn, 1) := by decide +kernel
theorem dX12_tells_8 : decode cX12_tells 8 = .ok (.iload_n 3, 1) := by decide +kernel
theorem dX12_tells_9 : decode cX12_tells 9 = .ok (.iconst 0, 1) := by decide +kernel
theorem dX12_tells_10 : decode cX12_tells 10 = .ok (.iconst 3, 1) := by decide +kernel
theorem dX12_tells_11 : decode cX12_tells 11 = .ok (.invokestatic 301, 3) := by decide +kernel
theorem dX12_tells_14 : decode cX12_tells 14 = .ok (.ifCond .eq 18, 3) := by decide +kernel
theorem dX12_tells_17 : decode cX12_tells 17 = .ok (.iload_n 3, 1) := by decide +kernel
theorem dX12_tells_18 : decode cX12_tells 18 = .ok (.iconst 2, 1) := by decide +kernel
theorem dX12_tells_19 : decode cX12_tells 19 = .ok (.if_icmp .ge 16, 3) := by decide +kernel
theorem dX12_tells_22 : decode cX12_tells 22 = .ok (.iload_n 2, 1) := by decide +kernel
theorem dX12_tells_23 : decode cX12_tells 23 = .ok (.iconst 0, 1) := by decide +kernel
theorem dX12_tells_24 : decode cX12_tells 24 = .ok (.bipush 9, 2) := by decide +kernel
theorem dX12_tells_26 : decode cX12_tells 26 = .ok (.invokestatic 301, 3) := by decide +kernel
theorem dX12_tells_29 : decode cX12_tells 29 = .ok (.ifCond .ne 6, 3) := by decide +kernel
theorem dX12_tells_35 : decode cX12_tells 35 = .ok (.aload_n 0, 1) := by decide +kernel
theorem dX12_tells_36 : decode cX12_tells 36 = .ok (.invokevirtual 311, 3) := by decide +kernel
theorem dX12_tells_39 : decode cX12_tells 39 = .ok (.aload_n 0, 1) := by decide +kernel
theorem dX12_tells_40 : decode cX12_tells 40 = .ok (.iconst 0, 1) := by decide +kernel
theorem dX12_tells_41 : decode cX12_tells 41 = .ok (.invokevirtual 350, 3) := by decide +kernel
theorem dX12_tells_44 : decode cX12_tells 44 = .ok (.invokestatic 353, 3) := by decide +kernel
theorem dX12_tells_47 : decode cX12_tells 47 = .ok (.istore 4, 2) := by decide +kernel
theorem dX12_tells_49 : decode cX12_tells 49 = .ok (.iload_n 3, 1) := by decide +kernel
theorem dX12_tells_50 : decode cX12_tells 50 = .ok (.ifCond .ne 14, 3) := by decide +kernel
theorem dX12_tells_53 : decode cX12_tells 53 = .ok (.aload_n 0, 1) := by decide +kernel
theorem dX12_tells_54 : decode cX12_tells 54 = .ok (.iload_n 1, 1) := by decide +kernel
theorem dX12_tells_55 : decode cX12_tells 55 = .ok (.iload_n 2, 1) := by decide +kernel
theorem dX12_tells_56 : decode cX12_tells 56 = .ok (.iload 4, 2) := by decide +kernel
theorem dX12_tells_58 : decode cX12_tells 58 = .ok (.invokevirtual 356, 3) := by decide +kernel
theorem dX12_tells_61 : decode cX12_tells 61 = .ok (.goto 41, 3) := by decide +kernel
theorem dX12_tells_64 : decode cX12_tells 64 = .ok (.iload_n 3, 1) := by decide +kernel
theorem dX12_tells_65 : decode cX12_tells 65 = .ok (.iconst 1, 1) := by decide +kernel
theorem dX12_tells_66 : decode cX12_tells 66 = .ok (.if_icmp .ne 14, 3) := by decide +kernel
theorem dX12_tells_69 : decode cX12_tells 69 = .ok (.aload_n 0, 1) := by decide +kernel
theorem dX12_tells_70 : decode cX12_tells 70 = .ok (.iload_n 1, 1) := by decide +kernel
theorem dX12_tells_71 : decode cX12_tells 71 = .ok (.iload_n 2, 1) := by decide +kernel
theorem dX12_tells_72 : decode cX12_tells 72 = .ok (.iload 4, 2) := by decide +kernel
theorem dX12_tells_74 : decode cX12_tells 74 = .ok (.invokevirtual 371, 3) := by decide +kernel
theorem dX12_tells_77 : decode cX12_tells 77 = .ok (.goto 25, 3) := by decide +kernel
theorem dX12_tells_80 : decode cX12_tells 80 = .ok (.iload_n 3, 1) := by decide +kernel
theorem dX12_tells_81 : decode cX12_tells 81 = .ok (.iconst 2, 1) := by decide +kernel
theorem dX12_tells_82 : decode cX12_tells 82 = .ok (.if_icmp .ne 13, 3) := by decide +kernel
theorem dX12_tells_85 : decode cX12_tells 85 = .ok (.aload_n 0, 1) := by decide +kernel
theorem dX12_tells_86 : decode cX12_tells 86 = .ok (.iload_n 1, 1) := by decide +kernel
theorem dX12_tells_87 : decode cX12_tells 87 = .ok (.iload 4, 2) := by decide +kernel
theorem dX12_tells_89 : decode cX12_tells 89 = .ok (.invokevirtual 362, 3) := by decide +kernel
theorem dX12_tells_92 : decode cX12_tells 92 = .ok (.goto 10, 3) := by decide +kernel
theorem dX12_tells_95 : decode cX12_tells 95 = .ok (.aload_n 0, 1) := by decide +kernel
theorem dX12_tells_96 : decode cX12_tells 96 = .ok (.iload_n 1, 1) := by decide +kernel
theorem dX12_tells_97 : decode cX12_tells 97 = .ok (.iload 4, 2) := by decide +kernel
theorem dX12_tells_99 : decode cX12_tells 99 = .ok (.invokevirtual 359, 3) := by decide +kernel
theorem dX12_tells_102 : decode cX12_tells 102 = .ok (.ireturn, 1) := by decide +kernel
theorem dX12_closes_8 : decode cX12_closes 8 = .ok (.iload_n 2, 1) := by decide +kernel
theorem dX12_closes_9 : decode cX12_closes 9 = .ok (.iconst 0, 1) := by decide +kernel
theorem dX12_closes_10 : decode cX12_closes 10 = .ok (.iconst 1, 1) := by decide +kernel
theorem dX12_closes_11 : decode cX12_closes 11 = .ok (.invokestatic 301, 3) := by decide +kernel
theorem dX12_closes_14 : decode cX12_closes 14 = .ok (.ifCond .eq 15, 3) := by decide +kernel
theorem dX12_closes_17 : decode cX12_closes 17 = .ok (.aload_n 0, 1) := by decide +kernel
theorem dX12_closes_18 : decode cX12_closes 18 = .ok (.iload_n 1, 1) := by decide +kernel
theorem dX12_closes_19 : decode cX12_closes 19 = .ok (.invokevirtual 417, 3) := by decide +kernel
theorem dX12_closes_22 : decode cX12_closes 22 = .ok (.iload_n 2, 1) := by decide +kernel
theorem dX12_closes_23 : decode cX12_closes 23 = .ok (.invokestatic 420, 3) := by decide +kernel
theorem dX12_closes_26 : decode cX12_closes 26 = .ok (.goto 4, 3) := by decide +kernel
theorem dX12_joined_8 : decode cX12_joined 8 = .ok (.aload_n 0, 1) := by decide +kernel
theorem dX12_joined_9 : decode cX12_joined 9 = .ok (.iload_n 2, 1) := by decide +kernel
theorem dX12_joined_10 : decode cX12_joined 10 = .ok (.invokevirtual 393, 3) := by decide +kernel
theorem dX12_joined_13 : decode cX12_joined 13 = .ok (.ifCond .eq 12, 3) := by decide +kernel
theorem dX12_joined_16 : decode cX12_joined 16 = .ok (.iload_n 3, 1) := by decide +kernel
theorem dX12_joined_17 : decode cX12_joined 17 = .ok (.iconst 0, 1) := by decide +kernel
theorem dX12_joined_18 : decode cX12_joined 18 = .ok (.iconst 1, 1) := by decide +kernel
theorem dX12_joined_19 : decode cX12_joined 19 = .ok (.invokestatic 301, 3) := by decide +kernel
theorem dX12_joined_22 : decode cX12_joined 22 = .ok (.ifCond .ne 5, 3) := by decide +kernel
theorem dX12_joined_27 : decode cX12_joined 27 = .ok (.aload_n 0, 1) := by decide +kernel
theorem dX12_joined_28 : decode cX12_joined 28 = .ok (.iload_n 1, 1) := by decide +kernel
theorem dX12_joined_29 : decode cX12_joined 29 = .ok (.iconst 0, 1) := by decide +kernel
theorem dX12_joined_30 : decode cX12_joined 30 = .ok (.invokevirtual 411, 3) := by decide +kernel
theorem dX12_joined_33 : decode cX12_joined 33 = .ok (.aload_n 0, 1) := by decide +kernel
theorem dX12_joined_34 : decode cX12_joined 34 = .ok (.iload_n 2, 1) := by decide +kernel
theorem dX12_joined_35 : decode cX12_joined 35 = .ok (.aload_n 0, 1) := by decide +kernel
theorem dX12_joined_36 : decode cX12_joined 36 = .ok (.iload_n 1, 1) := by decide +kernel
theorem dX12_joined_37 : decode cX12_joined 37 = .ok (.invokevirtual 318, 3) := by decide +kernel
theorem dX12_joined_40 : decode cX12_joined 40 = .ok (.invokevirtual 411, 3) := by decide +kernel
theorem dX12_joined_43 : decode cX12_joined 43 = .ok (.aload_n 0, 1) := by decide +kernel
theorem dX12_joined_44 : decode cX12_joined 44 = .ok (.invokevirtual 414, 3) := by decide +kernel
theorem dX12_joined_47 : decode cX12_joined 47 = .ok (.iload_n 3, 1) := by decide +kernel
theorem dX12_joined_48 : decode cX12_joined 48 = .ok (.invokestatic 420, 3) := by decide +kernel
theorem dX12_joined_51 : decode cX12_joined 51 = .ok (.ireturn, 1) := by decide +kernel
theorem dX12_isTurned_0 : decode cX12_isTurned 0 = .ok (.iconst 0, 1) := by decide +kernel
theorem dX12_isTurned_1 : decode cX12_isTurned 1 = .ok (.istore 4, 2) := by decide +kernel
theorem dX12_isTurned_3 : decode cX12_isTurned 3 = .ok (.iload 4, 2) := by decide +kernel
theorem dX12_isTurned_5 : decode cX12_isTurned 5 = .ok (.aload_n 0, 1) := by decide +kernel
theorem dX12_isTurned_6 : decode cX12_isTurned 6 = .ok (.iload_n 1, 1) := by decide +kernel
theorem dX12_isTurned_7 : decode cX12_isTurned 7 = .ok (.invokevirtual 318, 3) := by decide +kernel
theorem dX12_isTurned_10 : decode cX12_isTurned 10 = .ok (.if_icmp .ge 30, 3) := by decide +kernel
theorem dX12_isTurned_13 : decode cX12_isTurned 13 = .ok (.aload_n 0, 1) := by decide +kernel
theorem dX12_isTurned_14 : decode cX12_isTurned 14 = .ok (.iload_n 1, 1) := by decide +kernel
theorem dX12_isTurned_15 : decode cX12_isTurned 15 = .ok (.iload 4, 2) := by decide +kernel
theorem dX12_isTurned_17 : decode cX12_isTurned 17 = .ok (.iload_n 3, 1) := by decide +kernel
theorem dX12_isTurned_18 : decode cX12_isTurned 18 = .ok (.iadd, 1) := by decide +kernel
theorem dX12_isTurned_19 : decode cX12_isTurned 19 = .ok (.invokevirtual 321, 3) := by decide +kernel
theorem dX12_isTurned_22 : decode cX12_isTurned 22 = .ok (.aload_n 0, 1) := by decide +kernel
theorem dX12_isTurned_23 : decode cX12_isTurned 23 = .ok (.iload_n 2, 1) := by decide +kernel
theorem dX12_isTurned_24 : decode cX12_isTurned 24 = .ok (.iload 4, 2) := by decide +kernel
theorem dX12_isTurned_26 : decode cX12_isTurned 26 = .ok (.invokevirtual 321, 3) := by decide +kernel
theorem dX12_isTurned_29 : decode cX12_isTurned 29 = .ok (.if_icmp .eq 5, 3) := by decide +kernel
theorem dX12_isTurned_32 : decode cX12_isTurned 32 = .ok (.iconst 0, 1) := by decide +kernel
theorem dX12_isTurned_33 : decode cX12_isTurned 33 = .ok (.ireturn, 1) := by decide +kernel
theorem dX12_isTurned_34 : decode cX12_isTurned 34 = .ok (.iinc 4 1, 3) := by decide +kernel
theorem dX12_isTurned_37 : decode cX12_isTurned 37 = .ok (.goto (-34), 3) := by decide +kernel
theorem dX12_isTurned_40 : decode cX12_isTurned 40 = .ok (.iconst 1, 1) := by decide +kernel
theorem dX12_isTurned_41 : decode cX12_isTurned 41 = .ok (.ireturn, 1) := by decide +kernel
theorem dX12_turned_8 : decode cX12_turned 8 = .ok (.aload_n 0, 1) := by decide +kernel
theorem dX12_turned_9 : decode cX12_turned 9 = .ok (.iload_n 2, 1) := by decide +kernel
theorem dX12_turned_10 : decode cX12_turned 10 = .ok (.invokevirtual 393, 3) := by decide +kernel
theorem dX12_turned_13 : decode cX12_turned 13 = .ok (.ifCond .ne 5, 3) := by decide +kernel
theorem dX12_turned_18 : decode cX12_turned 18 = .ok (.aload_n 0, 1) := by decide +kernel
theorem dX12_turned_19 : decode cX12_turned 19 = .ok (.iload_n 1, 1) := by decide +kernel
theorem dX12_turned_20 : decode cX12_turned 20 = .ok (.invokevirtual 318, 3) := by decide +kernel
theorem dX12_turned_23 : decode cX12_turned 23 = .ok (.aload_n 0, 1) := by decide +kernel
theorem dX12_turned_24 : decode cX12_turned 24 = .ok (.iload_n 2, 1) := by decide +kernel
theorem dX12_turned_25 : decode cX12_turned 25 = .ok (.invokevirtual 318, 3) := by decide +kernel
theorem dX12_turned_28 : decode cX12_turned 28 = .ok (.if_icmp .eq 6, 3) := by decide +kernel
theorem dX12_turned_31 : decode cX12_turned 31 = .ok (.bipush (-2), 2) := by decide +kernel
theorem dX12_turned_33 : decode cX12_turned 33 = .ok (.ireturn, 1) := by decide +kernel
theorem dX12_turned_34 : decode cX12_turned 34 = .ok (.iconst 0, 1) := by decide +kernel
theorem dX12_turned_35 : decode cX12_turned 35 = .ok (.istore_n 3, 1) := by decide +kernel
theorem dX12_turned_36 : decode cX12_turned 36 = .ok (.iload_n 3, 1) := by decide +kernel
theorem dX12_turned_37 : decode cX12_turned 37 = .ok (.aload_n 0, 1) := by decide +kernel
theorem dX12_turned_38 : decode cX12_turned 38 = .ok (.iload_n 1, 1) := by decide +kernel
theorem dX12_turned_39 : decode cX12_turned 39 = .ok (.invokevirtual 318, 3) := by decide +kernel
theorem dX12_turned_42 : decode cX12_turned 42 = .ok (.if_icmp .ge 21, 3) := by decide +kernel
theorem dX12_turned_45 : decode cX12_turned 45 = .ok (.aload_n 0, 1) := by decide +kernel
theorem dX12_turned_46 : decode cX12_turned 46 = .ok (.iload_n 1, 1) := by decide +kernel
theorem dX12_turned_47 : decode cX12_turned 47 = .ok (.iload_n 2, 1) := by decide +kernel
theorem dX12_turned_48 : decode cX12_turned 48 = .ok (.iload_n 3, 1) := by decide +kernel
theorem dX12_turned_49 : decode cX12_turned 49 = .ok (.invokevirtual 423, 3) := by decide +kernel
theorem dX12_turned_52 : decode cX12_turned 52 = .ok (.ifCond .eq 5, 3) := by decide +kernel
theorem dX12_turned_55 : decode cX12_turned 55 = .ok (.iload_n 3, 1) := by decide +kernel
theorem dX12_turned_56 : decode cX12_turned 56 = .ok (.ireturn, 1) := by decide +kernel
theorem dX12_turned_57 : decode cX12_turned 57 = .ok (.iinc 3 1, 3) := by decide +kernel
theorem dX12_turned_60 : decode cX12_turned 60 = .ok (.goto (-24), 3) := by decide +kernel
theorem dX12_turned_63 : decode cX12_turned 63 = .ok (.bipush (-2), 2) := by decide +kernel
theorem dX12_turned_65 : decode cX12_turned 65 = .ok (.ireturn, 1) := by decide +kernel
theorem dX12_span_10 : decode cX12_span 10 = .ok (.iconst 0, 1) := by decide +kernel
theorem dX12_span_11 : decode cX12_span 11 = .ok (.istore_n 2, 1) := by decide +kernel
theorem dX12_span_12 : decode cX12_span 12 = .ok (.iconst 0, 1) := by decide +kernel
theorem dX12_span_13 : decode cX12_span 13 = .ok (.istore_n 3, 1) := by decide +kernel
theorem dX12_span_14 : decode cX12_span 14 = .ok (.iload_n 3, 1) := by decide +kernel
theorem dX12_span_15 : decode cX12_span 15 = .ok (.aload_n 0, 1) := by decide +kernel
theorem dX12_span_16 : decode cX12_span 16 = .ok (.iload_n 1, 1) := by decide +kernel
theorem dX12_span_17 : decode cX12_span 17 = .ok (.invokevirtual 318, 3) := by decide +kernel
theorem dX12_span_20 : decode cX12_span 20 = .ok (.if_icmp .ge 26, 3) := by decide +kernel
theorem dX12_span_23 : decode cX12_span 23 = .ok (.aload_n 0, 1) := by decide +kernel
theorem dX12_span_24 : decode cX12_span 24 = .ok (.iload_n 1, 1) := by decide +kernel
theorem dX12_span_25 : decode cX12_span 25 = .ok (.iload_n 3, 1) := by decide +kernel
theorem dX12_span_26 : decode cX12_span 26 = .ok (.invokevirtual 321, 3) := by decide +kernel
theorem dX12_span_29 : decode cX12_span 29 = .ok (.iload_n 2, 1) := by decide +kernel
theorem dX12_span_30 : decode cX12_span 30 = .ok (.if_icmp .le 10, 3) := by decide +kernel
theorem dX12_span_33 : decode cX12_span 33 = .ok (.aload_n 0, 1) := by decide +kernel
theorem dX12_span_34 : decode cX12_span 34 = .ok (.iload_n 1, 1) := by decide +kernel
theorem dX12_span_35 : decode cX12_span 35 = .ok (.iload_n 3, 1) := by decide +kernel
theorem dX12_span_36 : decode cX12_span 36 = .ok (.invokevirtual 321, 3) := by decide +kernel
theorem dX12_span_39 : decode cX12_span 39 = .ok (.istore_n 2, 1) := by decide +kernel
theorem dX12_span_40 : decode cX12_span 40 = .ok (.iinc 3 1, 3) := by decide +kernel
theorem dX12_span_43 : decode cX12_span 43 = .ok (.goto (-29), 3) := by decide +kernel
theorem dX12_span_46 : decode cX12_span 46 = .ok (.iload_n 2, 1) := by decide +kernel
theorem dX12_span_47 : decode cX12_span 47 = .ok (.ireturn, 1) := by decide +kernel
theorem dX12_swaps_10 : decode cX12_swaps 10 = .ok (.iconst 0, 1) := by decide +kernel
theorem dX12_swaps_11 : decode cX12_swaps 11 = .ok (.istore_n 2, 1) := by decide +kernel
theorem dX12_swaps_12 : decode cX12_swaps 12 = .ok (.iconst 0, 1) := by decide +kernel
theorem dX12_swaps_13 : decode cX12_swaps 13 = .ok (.istore_n 3, 1) := by decide +kernel
theorem dX12_swaps_14 : decode cX12_swaps 14 = .ok (.iload_n 3, 1) := by decide +kernel
theorem dX12_swaps_15 : decode cX12_swaps 15 = .ok (.aload_n 0, 1) := by decide +kernel
theorem dX12_swaps_16 : decode cX12_swaps 16 = .ok (.iload_n 1, 1) := by decide +kernel
theorem dX12_swaps_17 : decode cX12_swaps 17 = .ok (.invokevirtual 318, 3) := by decide +kernel
theorem dX12_swaps_20 : decode cX12_swaps 20 = .ok (.if_icmp .ge 74, 3) := by decide +kernel
theorem dX12_swaps_23 : decode cX12_swaps 23 = .ok (.iload_n 3, 1) := by decide +kernel
theorem dX12_swaps_24 : decode cX12_swaps 24 = .ok (.iconst 1, 1) := by decide +kernel
theorem dX12_swaps_25 : decode cX12_swaps 25 = .ok (.iadd, 1) := by decide +kernel
theorem dX12_swaps_26 : decode cX12_swaps 26 = .ok (.istore 4, 2) := by decide +kernel
theorem dX12_swaps_28 : decode cX12_swaps 28 = .ok (.iload 4, 2) := by decide +kernel
theorem dX12_swaps_30 : decode cX12_swaps 30 = .ok (.aload_n 0, 1) := by decide +kernel
theorem dX12_swaps_31 : decode cX12_swaps 31 = .ok (.iload_n 1, 1) := by decide +kernel
theorem dX12_swaps_32 : decode cX12_swaps 32 = .ok (.invokevirtual 318, 3) := by decide +kernel
theorem dX12_swaps_35 : decode cX12_swaps 35 = .ok (.if_icmp .ge 53, 3) := by decide +kernel
theorem dX12_swaps_38 : decode cX12_swaps 38 = .ok (.aload_n 0, 1) := by decide +kernel
theorem dX12_swaps_39 : decode cX12_swaps 39 = .ok (.iload_n 1, 1) := by decide +kernel
theorem dX12_swaps_40 : decode cX12_swaps 40 = .ok (.iload 4, 2) := by decide +kernel
theorem dX12_swaps_42 : decode cX12_swaps 42 = .ok (.invokevirtual 321, 3) := by decide +kernel
theorem dX12_swaps_45 : decode cX12_swaps 45 = .ok (.iload 4, 2) := by decide +kernel
theorem dX12_swaps_47 : decode cX12_swaps 47 = .ok (.iadd, 1) := by decide +kernel
theorem dX12_swaps_48 : decode cX12_swaps 48 = .ok (.iload_n 3, 1) := by decide +kernel
theorem dX12_swaps_49 : decode cX12_swaps 49 = .ok (.isub, 1) := by decide +kernel
theorem dX12_swaps_50 : decode cX12_swaps 50 = .ok (.iconst 0, 1) := by decide +kernel
theorem dX12_swaps_51 : decode cX12_swaps 51 = .ok (.bipush 9, 2) := by decide +kernel
theorem dX12_swaps_53 : decode cX12_swaps 53 = .ok (.invokestatic 301, 3) := by decide +kernel
theorem dX12_swaps_56 : decode cX12_swaps 56 = .ok (.ifCond .eq 26, 3) := by decide +kernel
theorem dX12_swaps_59 : decode cX12_swaps 59 = .ok (.aload_n 0, 1) := by decide +kernel
theorem dX12_swaps_60 : decode cX12_swaps 60 = .ok (.iload_n 1, 1) := by decide +kernel
theorem dX12_swaps_61 : decode cX12_swaps 61 = .ok (.iload_n 3, 1) := by decide +kernel
theorem dX12_swaps_62 : decode cX12_swaps 62 = .ok (.invokevirtual 321, 3) := by decide +kernel
theorem dX12_swaps_65 : decode cX12_swaps 65 = .ok (.iload 4, 2) := by decide +kernel
theorem dX12_swaps_67 : decode cX12_swaps 67 = .ok (.isub, 1) := by decide +kernel
theorem dX12_swaps_68 : decode cX12_swaps 68 = .ok (.iload_n 3, 1) := by decide +kernel
theorem dX12_swaps_69 : decode cX12_swaps 69 = .ok (.iadd, 1) := by decide +kernel
theorem dX12_swaps_70 : decode cX12_swaps 70 = .ok (.iconst 0, 1) := by decide +kernel
theorem dX12_swaps_71 : decode cX12_swaps 71 = .ok (.bipush 9, 2) := by decide +kernel
theorem dX12_swaps_73 : decode cX12_swaps 73 = .ok (.invokestatic 301, 3) := by decide +kernel
theorem dX12_swaps_76 : decode cX12_swaps 76 = .ok (.ifCond .eq 6, 3) := by decide +kernel
theorem dX12_swaps_79 : decode cX12_swaps 79 = .ok (.iinc 2 1, 3) := by decide +kernel
theorem dX12_swaps_82 : decode cX12_swaps 82 = .ok (.iinc 4 1, 3) := by decide +kernel
theorem dX12_swaps_85 : decode cX12_swaps 85 = .ok (.goto (-57), 3) := by decide +kernel
theorem dX12_swaps_88 : decode cX12_swaps 88 = .ok (.iinc 3 1, 3) := by decide +kernel
theorem dX12_swaps_91 : decode cX12_swaps 91 = .ok (.goto (-77), 3) := by decide +kernel
theorem dX12_swaps_94 : decode cX12_swaps 94 = .ok (.iload_n 2, 1) := by decide +kernel
theorem dX12_swaps_95 : decode cX12_swaps 95 = .ok (.ireturn, 1) := by decide +kernel
