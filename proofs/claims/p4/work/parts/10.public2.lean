theorem dX11_findHands_0 : decode cX11_findHands 0 = .ok (.aload_n 0, 1) := by decide +kernel
theorem dX11_findHands_1 : decode cX11_findHands 1 = .ok (.getfield 58, 3) := by decide +kernel
theorem dX11_findHands_4 : decode cX11_findHands 4 = .ok (.aload_n 0, 1) := by decide +kernel
theorem dX11_findHands_5 : decode cX11_findHands 5 = .ok (.getfield 54, 3) := by decide +kernel
theorem dX11_findHands_8 : decode cX11_findHands 8 = .ok (.invokevirtual 230, 3) := by decide +kernel
theorem dX11_findHands_11 : decode cX11_findHands 11 = .ok (.iconst 0, 1) := by decide +kernel
theorem dX11_findHands_12 : decode cX11_findHands 12 = .ok (.istore_n 2, 1) := by decide +kernel
theorem dX11_findHands_13 : decode cX11_findHands 13 = .ok (.iload_n 2, 1) := by decide +kernel
theorem dX11_findHands_14 : decode cX11_findHands 14 = .ok (.iload_n 1, 1) := by decide +kernel
theorem dX11_findHands_15 : decode cX11_findHands 15 = .ok (.if_icmp .ge 46, 3) := by decide +kernel
theorem dX11_findHands_18 : decode cX11_findHands 18 = .ok (.iload_n 2, 1) := by decide +kernel
theorem dX11_findHands_19 : decode cX11_findHands 19 = .ok (.aload_n 0, 1) := by decide +kernel
theorem dX11_findHands_20 : decode cX11_findHands 20 = .ok (.getfield 69, 3) := by decide +kernel
theorem dX11_findHands_23 : decode cX11_findHands 23 = .ok (.arraylength, 1) := by decide +kernel
theorem dX11_findHands_24 : decode cX11_findHands 24 = .ok (.if_icmp .ge 37, 3) := by decide +kernel
theorem dX11_findHands_27 : decode cX11_findHands 27 = .ok (.aload_n 0, 1) := by decide +kernel
theorem dX11_findHands_28 : decode cX11_findHands 28 = .ok (.getfield 69, 3) := by decide +kernel
theorem dX11_findHands_31 : decode cX11_findHands 31 = .ok (.iload_n 2, 1) := by decide +kernel
theorem dX11_findHands_32 : decode cX11_findHands 32 = .ok (.aload_n 0, 1) := by decide +kernel
theorem dX11_findHands_33 : decode cX11_findHands 33 = .ok (.getfield 58, 3) := by decide +kernel
theorem dX11_findHands_36 : decode cX11_findHands 36 = .ok (.invokevirtual 282, 3) := by decide +kernel
theorem dX11_findHands_39 : decode cX11_findHands 39 = .ok (.iastore, 1) := by decide +kernel
theorem dX11_findHands_40 : decode cX11_findHands 40 = .ok (.aload_n 0, 1) := by decide +kernel
theorem dX11_findHands_41 : decode cX11_findHands 41 = .ok (.getfield 19, 3) := by decide +kernel
theorem dX11_findHands_44 : decode cX11_findHands 44 = .ok (.aload_n 0, 1) := by decide +kernel
theorem dX11_findHands_45 : decode cX11_findHands 45 = .ok (.getfield 82, 3) := by decide +kernel
theorem dX11_findHands_48 : decode cX11_findHands 48 = .ok (.aload_n 0, 1) := by decide +kernel
theorem dX11_findHands_49 : decode cX11_findHands 49 = .ok (.getfield 58, 3) := by decide +kernel
theorem dX11_findHands_52 : decode cX11_findHands 52 = .ok (.invokevirtual 285, 3) := by decide +kernel
theorem dX11_findHands_55 : decode cX11_findHands 55 = .ok (.iinc 2 1, 3) := by decide +kernel
theorem dX11_findHands_58 : decode cX11_findHands 58 = .ok (.goto (-45), 3) := by decide +kernel
theorem dX11_findHands_61 : decode cX11_findHands 61 = .ok (.return_, 1) := by decide +kernel
theorem dX11_inHand_0 : decode cX11_inHand 0 = .ok (.iload_n 1, 1) := by decide +kernel
theorem dX11_inHand_1 : decode cX11_inHand 1 = .ok (.ifCond .lt 9, 3) := by decide +kernel
theorem dX11_inHand_4 : decode cX11_inHand 4 = .ok (.iload_n 1, 1) := by decide +kernel
theorem dX11_inHand_5 : decode cX11_inHand 5 = .ok (.bipush 60, 2) := by decide +kernel
theorem dX11_inHand_7 : decode cX11_inHand 7 = .ok (.if_icmp .le 5, 3) := by decide +kernel
theorem dX11_inHand_12 : decode cX11_inHand 12 = .ok (.aload_n 0, 1) := by decide +kernel
theorem dX11_inHand_13 : decode cX11_inHand 13 = .ok (.iload_n 1, 1) := by decide +kernel
theorem dX11_inHand_14 : decode cX11_inHand 14 = .ok (.iconst 1, 1) := by decide +kernel
theorem dX11_inHand_15 : decode cX11_inHand 15 = .ok (.iadd, 1) := by decide +kernel
theorem dX11_inHand_16 : decode cX11_inHand 16 = .ok (.invokevirtual 279, 3) := by decide +kernel
theorem dX11_inHand_19 : decode cX11_inHand 19 = .ok (.aload_n 0, 1) := by decide +kernel
theorem dX11_inHand_20 : decode cX11_inHand 20 = .ok (.getfield 69, 3) := by decide +kernel
theorem dX11_inHand_23 : decode cX11_inHand 23 = .ok (.iload_n 1, 1) := by decide +kernel
theorem dX11_inHand_24 : decode cX11_inHand 24 = .ok (.iaload, 1) := by decide +kernel
theorem dX11_inHand_25 : decode cX11_inHand 25 = .ok (.iconst (-1), 1) := by decide +kernel
theorem dX11_inHand_26 : decode cX11_inHand 26 = .ok (.if_icmp .ne 8, 3) := by decide +kernel
theorem dX11_inHand_29 : decode cX11_inHand 29 = .ok (.bipush (-2), 2) := by decide +kernel
theorem dX11_inHand_31 : decode cX11_inHand 31 = .ok (.goto 9, 3) := by decide +kernel
theorem dX11_inHand_40 : decode cX11_inHand 40 = .ok (.ireturn, 1) := by decide +kernel
theorem dX11_inHand_10 : decode cX11_inHand 10 = .ok (.iconst (-1), 1) := by decide +kernel
theorem dX11_inHand_11 : decode cX11_inHand 11 = .ok (.ireturn, 1) := by decide +kernel
theorem dX11_firstClash_0 : decode cX11_firstClash 0 = .ok (.iconst 0, 1) := by decide +kernel
theorem dX11_firstClash_1 : decode cX11_firstClash 1 = .ok (.istore_n 2, 1) := by decide +kernel
theorem dX11_firstClash_2 : decode cX11_firstClash 2 = .ok (.iload_n 2, 1) := by decide +kernel
theorem dX11_firstClash_3 : decode cX11_firstClash 3 = .ok (.iload_n 1, 1) := by decide +kernel
theorem dX11_firstClash_4 : decode cX11_firstClash 4 = .ok (.if_icmp .gt 37, 3) := by decide +kernel
theorem dX11_firstClash_7 : decode cX11_firstClash 7 = .ok (.aload_n 0, 1) := by decide +kernel
theorem dX11_firstClash_8 : decode cX11_firstClash 8 = .ok (.getfield 58, 3) := by decide +kernel
theorem dX11_firstClash_11 : decode cX11_firstClash 11 = .ok (.invokevirtual 292, 3) := by decide +kernel
theorem dX11_firstClash_14 : decode cX11_firstClash 14 = .ok (.iconst 1, 1) := by decide +kernel
theorem dX11_firstClash_15 : decode cX11_firstClash 15 = .ok (.if_icmp .le 5, 3) := by decide +kernel
theorem dX11_firstClash_20 : decode cX11_firstClash 20 = .ok (.aload_n 0, 1) := by decide +kernel
theorem dX11_firstClash_21 : decode cX11_firstClash 21 = .ok (.getfield 19, 3) := by decide +kernel
theorem dX11_firstClash_24 : decode cX11_firstClash 24 = .ok (.aload_n 0, 1) := by decide +kernel
theorem dX11_firstClash_25 : decode cX11_firstClash 25 = .ok (.getfield 82, 3) := by decide +kernel
theorem dX11_firstClash_28 : decode cX11_firstClash 28 = .ok (.aload_n 0, 1) := by decide +kernel
theorem dX11_firstClash_29 : decode cX11_firstClash 29 = .ok (.getfield 58, 3) := by decide +kernel
theorem dX11_firstClash_32 : decode cX11_firstClash 32 = .ok (.invokevirtual 285, 3) := by decide +kernel
theorem dX11_firstClash_35 : decode cX11_firstClash 35 = .ok (.iinc 2 1, 3) := by decide +kernel
theorem dX11_firstClash_38 : decode cX11_firstClash 38 = .ok (.goto (-36), 3) := by decide +kernel
theorem dX11_firstClash_41 : decode cX11_firstClash 41 = .ok (.bipush (-2), 2) := by decide +kernel
theorem dX11_firstClash_43 : decode cX11_firstClash 43 = .ok (.ireturn, 1) := by decide +kernel
theorem dX11_clash_0 : decode cX11_clash 0 = .ok (.aload_n 0, 1) := by decide +kernel
theorem dX11_clash_1 : decode cX11_clash 1 = .ok (.getfield 58, 3) := by decide +kernel
theorem dX11_clash_4 : decode cX11_clash 4 = .ok (.aload_n 0, 1) := by decide +kernel
theorem dX11_clash_5 : decode cX11_clash 5 = .ok (.getfield 54, 3) := by decide +kernel
theorem dX11_clash_8 : decode cX11_clash 8 = .ok (.invokevirtual 230, 3) := by decide +kernel
theorem dX11_clash_11 : decode cX11_clash 11 = .ok (.aload_n 0, 1) := by decide +kernel
theorem dX11_clash_12 : decode cX11_clash 12 = .ok (.bipush 60, 2) := by decide +kernel
theorem dX11_clash_14 : decode cX11_clash 14 = .ok (.invokevirtual 289, 3) := by decide +kernel
theorem dX11_clash_17 : decode cX11_clash 17 = .ok (.ireturn, 1) := by decide +kernel
theorem dX11_limit_0 : decode cX11_limit 0 = .ok (.iload_n 1, 1) := by decide +kernel
theorem dX11_limit_1 : decode cX11_limit 1 = .ok (.ifCond .lt 10, 3) := by decide +kernel
theorem dX11_limit_4 : decode cX11_limit 4 = .ok (.iload_n 1, 1) := by decide +kernel
theorem dX11_limit_5 : decode cX11_limit 5 = .ok (.sipush 999, 3) := by decide +kernel
theorem dX11_limit_8 : decode cX11_limit 8 = .ok (.if_icmp .le 5, 3) := by decide +kernel
theorem dX11_limit_13 : decode cX11_limit 13 = .ok (.aload_n 0, 1) := by decide +kernel
theorem dX11_limit_14 : decode cX11_limit 14 = .ok (.getfield 58, 3) := by decide +kernel
theorem dX11_limit_17 : decode cX11_limit 17 = .ok (.aload_n 0, 1) := by decide +kernel
theorem dX11_limit_18 : decode cX11_limit 18 = .ok (.getfield 54, 3) := by decide +kernel
theorem dX11_limit_21 : decode cX11_limit 21 = .ok (.invokevirtual 230, 3) := by decide +kernel
theorem dX11_limit_24 : decode cX11_limit 24 = .ok (.iconst 0, 1) := by decide +kernel
theorem dX11_limit_25 : decode cX11_limit 25 = .ok (.istore_n 2, 1) := by decide +kernel
theorem dX11_limit_26 : decode cX11_limit 26 = .ok (.iload_n 2, 1) := by decide +kernel
theorem dX11_limit_27 : decode cX11_limit 27 = .ok (.sipush 200, 3) := by decide +kernel
theorem dX11_limit_30 : decode cX11_limit 30 = .ok (.if_icmp .gt 45, 3) := by decide +kernel
theorem dX11_limit_33 : decode cX11_limit 33 = .ok (.aload_n 0, 1) := by decide +kernel
theorem dX11_limit_34 : decode cX11_limit 34 = .ok (.getfield 58, 3) := by decide +kernel
theorem dX11_limit_37 : decode cX11_limit 37 = .ok (.getfield 177, 3) := by decide +kernel
theorem dX11_limit_40 : decode cX11_limit 40 = .ok (.iload_n 1, 1) := by decide +kernel
theorem dX11_limit_41 : decode cX11_limit 41 = .ok (.if_icmp .lt 5, 3) := by decide +kernel
theorem dX11_limit_44 : decode cX11_limit 44 = .ok (.iload_n 2, 1) := by decide +kernel
theorem dX11_limit_45 : decode cX11_limit 45 = .ok (.ireturn, 1) := by decide +kernel
theorem dX11_limit_46 : decode cX11_limit 46 = .ok (.aload_n 0, 1) := by decide +kernel
theorem dX11_limit_47 : decode cX11_limit 47 = .ok (.getfield 19, 3) := by decide +kernel
theorem dX11_limit_50 : decode cX11_limit 50 = .ok (.aload_n 0, 1) := by decide +kernel
theorem dX11_limit_51 : decode cX11_limit 51 = .ok (.getfield 82, 3) := by decide +kernel
theorem dX11_limit_54 : decode cX11_limit 54 = .ok (.aload_n 0, 1) := by decide +kernel
theorem dX11_limit_55 : decode cX11_limit 55 = .ok (.getfield 58, 3) := by decide +kernel
theorem dX11_limit_58 : decode cX11_limit 58 = .ok (.iconst 1, 1) := by decide +kernel
theorem dX11_limit_59 : decode cX11_limit 59 = .ok (.aload_n 0, 1) := by decide +kernel
theorem dX11_limit_60 : decode cX11_limit 60 = .ok (.getfield 82, 3) := by decide +kernel
theorem dX11_limit_63 : decode cX11_limit 63 = .ok (.getfield 220, 3) := by decide +kernel
theorem dX11_limit_66 : decode cX11_limit 66 = .ok (.invokevirtual 223, 3) := by decide +kernel
theorem dX11_limit_69 : decode cX11_limit 69 = .ok (.iinc 2 1, 3) := by decide +kernel
theorem dX11_limit_72 : decode cX11_limit 72 = .ok (.goto (-46), 3) := by decide +kernel
theorem dX11_limit_75 : decode cX11_limit 75 = .ok (.bipush (-2), 2) := by decide +kernel
theorem dX11_limit_77 : decode cX11_limit 77 = .ok (.ireturn, 1) := by decide +kernel
theorem dX11_limit_11 : decode cX11_limit 11 = .ok (.iconst (-1), 1) := by decide +kernel
theorem dX11_limit_12 : decode cX11_limit 12 = .ok (.ireturn, 1) := by decide +kernel
theorem dX11_isSpan_0 : decode cX11_isSpan 0 = .ok (.iload_n 0, 1) := by decide +kernel
theorem dX11_isSpan_1 : decode cX11_isSpan 1 = .ok (.iconst 1, 1) := by decide +kernel
theorem dX11_isSpan_2 : decode cX11_isSpan 2 = .ok (.if_icmp .lt 13, 3) := by decide +kernel
theorem dX11_isSpan_5 : decode cX11_isSpan 5 = .ok (.iload_n 0, 1) := by decide +kernel
theorem dX11_isSpan_6 : decode cX11_isSpan 6 = .ok (.bipush 60, 2) := by decide +kernel
theorem dX11_isSpan_8 : decode cX11_isSpan 8 = .ok (.if_icmp .gt 7, 3) := by decide +kernel
theorem dX11_isSpan_11 : decode cX11_isSpan 11 = .ok (.iconst 1, 1) := by decide +kernel
theorem dX11_isSpan_12 : decode cX11_isSpan 12 = .ok (.goto 4, 3) := by decide +kernel
theorem dX11_isSpan_16 : decode cX11_isSpan 16 = .ok (.ireturn, 1) := by decide +kernel
theorem dX11_isSpan_15 : decode cX11_isSpan 15 = .ok (.iconst 0, 1) := by decide +kernel
theorem dJ7_fill_53178_0 : decode cJ7_fill_53178 0 = .ok (.iconst 0, 1) := by decide +kernel
theorem dJ7_fill_53178_1 : decode cJ7_fill_53178 1 = .ok (.istore_n 2, 1) := by decide +kernel
theorem dJ7_fill_53178_2 : decode cJ7_fill_53178 2 = .ok (.aload_n 0, 1) := by decide +kernel
theorem dJ7_fill_53178_3 : decode cJ7_fill_53178 3 = .ok (.arraylength, 1) := by decide +kernel
theorem dJ7_fill_53178_4 : decode cJ7_fill_53178 4 = .ok (.istore_n 3, 1) := by decide +kernel
theorem dJ7_fill_53178_5 : decode cJ7_fill_53178 5 = .ok (.iload_n 2, 1) := by decide +kernel
theorem dJ7_fill_53178_6 : decode cJ7_fill_53178 6 = .ok (.iload_n 3, 1) := by decide +kernel
theorem dJ7_fill_53178_7 : decode cJ7_fill_53178 7 = .ok (.if_icmp .ge 13, 3) := by decide +kernel
theorem dJ7_fill_53178_10 : decode cJ7_fill_53178 10 = .ok (.aload_n 0, 1) := by decide +kernel
theorem dJ7_fill_53178_11 : decode cJ7_fill_53178 11 = .ok (.iload_n 2, 1) := by decide +kernel
theorem dJ7_fill_53178_12 : decode cJ7_fill_53178 12 = .ok (.iload_n 1, 1) := by decide +kernel
theorem dJ7_fill_53178_13 : decode cJ7_fill_53178 13 = .ok (.iastore, 1) := by decide +kernel
theorem dJ7_fill_53178_14 : decode cJ7_fill_53178 14 = .ok (.iinc 2 1, 3) := by decide +kernel
theorem dJ7_fill_53178_17 : decode cJ7_fill_53178 17 = .ok (.goto (-12), 3) := by decide +kernel
theorem dJ7_fill_53178_20 : decode cJ7_fill_53178 20 = .ok (.return_, 1) := by decide +kernel
theorem dX11_busiest_0 : decode cX11_busiest 0 = .ok (.iload_n 1, 1) := by decide +kernel
theorem dX11_busiest_1 : decode cX11_busiest 1 = .ok (.invokestatic 307, 3) := by decide +kernel
theorem dX11_busiest_4 : decode cX11_busiest 4 = .ok (.ifCond .eq 12, 3) := by decide +kernel
theorem dX11_busiest_7 : decode cX11_busiest 7 = .ok (.iload_n 2, 1) := by decide +kernel
theorem dX11_busiest_8 : decode cX11_busiest 8 = .ok (.ifCond .lt 8, 3) := by decide +kernel
theorem dX11_busiest_11 : decode cX11_busiest 11 = .ok (.iload_n 2, 1) := by decide +kernel
theorem dX11_busiest_12 : decode cX11_busiest 12 = .ok (.iconst 1, 1) := by decide +kernel
theorem dX11_busiest_13 : decode cX11_busiest 13 = .ok (.if_icmp .le 5, 3) := by decide +kernel
theorem dX11_busiest_18 : decode cX11_busiest 18 = .ok (.aload_n 0, 1) := by decide +kernel
theorem dX11_busiest_19 : decode cX11_busiest 19 = .ok (.iload_n 1, 1) := by decide +kernel
theorem dX11_busiest_20 : decode cX11_busiest 20 = .ok (.invokevirtual 279, 3) := by decide +kernel
theorem dX11_busiest_23 : decode cX11_busiest 23 = .ok (.aload_n 0, 1) := by decide +kernel
theorem dX11_busiest_24 : decode cX11_busiest 24 = .ok (.getfield 73, 3) := by decide +kernel
theorem dX11_busiest_27 : decode cX11_busiest 27 = .ok (.iconst 0, 1) := by decide +kernel
theorem dX11_busiest_28 : decode cX11_busiest 28 = .ok (.invokestatic 310, 3) := by decide +kernel
theorem dX11_busiest_31 : decode cX11_busiest 31 = .ok (.iconst 0, 1) := by decide +kernel
theorem dX11_busiest_32 : decode cX11_busiest 32 = .ok (.istore_n 3, 1) := by decide +kernel
theorem dX11_busiest_33 : decode cX11_busiest 33 = .ok (.iload_n 3, 1) := by decide +kernel
theorem dX11_busiest_34 : decode cX11_busiest 34 = .ok (.iload_n 1, 1) := by decide +kernel
theorem dX11_busiest_35 : decode cX11_busiest 35 = .ok (.if_icmp .ge 40, 3) := by decide +kernel
theorem dX11_busiest_38 : decode cX11_busiest 38 = .ok (.aload_n 0, 1) := by decide +kernel
theorem dX11_busiest_39 : decode cX11_busiest 39 = .ok (.getfield 82, 3) := by decide +kernel
theorem dX11_busiest_42 : decode cX11_busiest 42 = .ok (.aload_n 0, 1) := by decide +kernel
theorem dX11_busiest_43 : decode cX11_busiest 43 = .ok (.getfield 69, 3) := by decide +kernel
theorem dX11_busiest_46 : decode cX11_busiest 46 = .ok (.iload_n 3, 1) := by decide +kernel
theorem dX11_busiest_47 : decode cX11_busiest 47 = .ok (.iaload, 1) := by decide +kernel
theorem dX11_busiest_48 : decode cX11_busiest 48 = .ok (.invokevirtual 121, 3) := by decide +kernel
theorem dX11_busiest_51 : decode cX11_busiest 51 = .ok (.ifCond .eq 18, 3) := by decide +kernel
theorem dX11_busiest_69 : decode cX11_busiest 69 = .ok (.iinc 3 1, 3) := by decide +kernel
theorem dX11_busiest_72 : decode cX11_busiest 72 = .ok (.goto (-39), 3) := by decide +kernel
theorem dX11_busiest_75 : decode cX11_busiest 75 = .ok (.iconst 0, 1) := by decide +kernel
theorem dX11_busiest_76 : decode cX11_busiest 76 = .ok (.istore_n 3, 1) := by decide +kernel
theorem dX11_busiest_77 : decode cX11_busiest 77 = .ok (.iconst 1, 1) := by decide +kernel
theorem dX11_busiest_78 : decode cX11_busiest 78 = .ok (.istore 4, 2) := by decide +kernel
theorem dX11_busiest_80 : decode cX11_busiest 80 = .ok (.iload 4, 2) := by decide +kernel
theorem dX11_busiest_82 : decode cX11_busiest 82 = .ok (.bipush 7, 2) := by decide +kernel
theorem dX11_busiest_84 : decode cX11_busiest 84 = .ok (.if_icmp .ge 28, 3) := by decide +kernel
theorem dX11_busiest_87 : decode cX11_busiest 87 = .ok (.aload_n 0, 1) := by decide +kernel
theorem dX11_busiest_88 : decode cX11_busiest 88 = .ok (.getfield 73, 3) := by decide +kernel
theorem dX11_busiest_91 : decode cX11_busiest 91 = .ok (.iload 4, 2) := by decide +kernel
theorem dX11_busiest_93 : decode cX11_busiest 93 = .ok (.iaload, 1) := by decide +kernel
theorem dX11_busiest_94 : decode cX11_busiest 94 = .ok (.aload_n 0, 1) := by decide +kernel
theorem dX11_busiest_95 : decode cX11_busiest 95 = .ok (.getfield 73, 3) := by decide +kernel
theorem dX11_busiest_98 : decode cX11_busiest 98 = .ok (.iload_n 3, 1) := by decide +kernel
theorem dX11_busiest_99 : decode cX11_busiest 99 = .ok (.iaload, 1) := by decide +kernel
theorem dX11_busiest_100 : decode cX11_busiest 100 = .ok (.if_icmp .le 6, 3) := by decide +kernel
theorem dX11_busiest_106 : decode cX11_busiest 106 = .ok (.iinc 4 1, 3) := by decide +kernel
theorem dX11_busiest_109 : decode cX11_busiest 109 = .ok (.goto (-29), 3) := by decide +kernel
theorem dX11_busiest_112 : decode cX11_busiest 112 = .ok (.aload_n 0, 1) := by decide +kernel
theorem dX11_busiest_113 : decode cX11_busiest 113 = .ok (.getfield 73, 3) := by decide +kernel
theorem dX11_busiest_116 : decode cX11_busiest 116 = .ok (.iload_n 3, 1) := by decide +kernel
theorem dX11_busiest_117 : decode cX11_busiest 117 = .ok (.iaload, 1) := by decide +kernel
theorem dX11_busiest_118 : decode cX11_busiest 118 = .ok (.ifCond .ne 6, 3) := by decide +kernel
theorem dX11_busiest_121 : decode cX11_busiest 121 = .ok (.bipush (-2), 2) := by decide +kernel
theorem dX11_busiest_123 : decode cX11_busiest 123 = .ok (.ireturn, 1) := by decide +kernel
theorem dX11_busiest_16 : decode cX11_busiest 16 = .ok (.iconst (-1), 1) := by decide +kernel
theorem dX11_busiest_17 : decode cX11_busiest 17 = .ok (.ireturn, 1) := by decide +kernel
theorem dX11_load_0 : decode cX11_load 0 = .ok (.iload_n 1, 1) := by decide +kernel
theorem dX11_load_1 : decode cX11_load 1 = .ok (.invokestatic 307, 3) := by decide +kernel
theorem dX11_load_4 : decode cX11_load 4 = .ok (.ifCond .ne 5, 3) := by decide +kernel
theorem dX11_load_9 : decode cX11_load 9 = .ok (.aload_n 0, 1) := by decide +kernel
theorem dX11_load_10 : decode cX11_load 10 = .ok (.iload_n 1, 1) := by decide +kernel
theorem dX11_load_11 : decode cX11_load 11 = .ok (.invokevirtual 279, 3) := by decide +kernel
theorem dX11_load_14 : decode cX11_load 14 = .ok (.iconst 0, 1) := by decide +kernel
theorem dX11_load_15 : decode cX11_load 15 = .ok (.istore_n 2, 1) := by decide +kernel
theorem dX11_load_16 : decode cX11_load 16 = .ok (.iconst 0, 1) := by decide +kernel
theorem dX11_load_17 : decode cX11_load 17 = .ok (.istore_n 3, 1) := by decide +kernel
theorem dX11_load_18 : decode cX11_load 18 = .ok (.iload_n 3, 1) := by decide +kernel
theorem dX11_load_19 : decode cX11_load 19 = .ok (.iload_n 1, 1) := by decide +kernel
theorem dX11_load_20 : decode cX11_load 20 = .ok (.if_icmp .ge 42, 3) := by decide +kernel
theorem dX11_load_23 : decode cX11_load 23 = .ok (.aload_n 0, 1) := by decide +kernel
theorem dX11_load_24 : decode cX11_load 24 = .ok (.getfield 82, 3) := by decide +kernel
theorem dX11_load_27 : decode cX11_load 27 = .ok (.aload_n 0, 1) := by decide +kernel
theorem dX11_load_28 : decode cX11_load 28 = .ok (.getfield 69, 3) := by decide +kernel
theorem dX11_load_31 : decode cX11_load 31 = .ok (.iload_n 3, 1) := by decide +kernel
theorem dX11_load_32 : decode cX11_load 32 = .ok (.iaload, 1) := by decide +kernel
theorem dX11_load_33 : decode cX11_load 33 = .ok (.invokevirtual 121, 3) := by decide +kernel
theorem dX11_load_36 : decode cX11_load 36 = .ok (.ifCond .eq 20, 3) := by decide +kernel
theorem dX11_load_56 : decode cX11_load 56 = .ok (.iinc 3 1, 3) := by decide +kernel
theorem dX11_load_59 : decode cX11_load 59 = .ok (.goto (-41), 3) := by decide +kernel
theorem dX11_load_62 : decode cX11_load 62 = .ok (.iload_n 2, 1) := by decide +kernel
theorem dX11_load_63 : decode cX11_load 63 = .ok (.ireturn, 1) := by decide +kernel
theorem dX11_rule_0 : decode cX11_rule 0 = .ok (.iload_n 1, 1) := by decide +kernel
theorem dX11_rule_1 : decode cX11_rule 1 = .ok (.invokestatic 307, 3) := by decide +kernel
theorem dX11_rule_4 : decode cX11_rule 4 = .ok (.ifCond .ne 7, 3) := by decide +kernel
theorem dX11_rule_11 : decode cX11_rule 11 = .ok (.aload_n 0, 1) := by decide +kernel
theorem dX11_rule_12 : decode cX11_rule 12 = .ok (.getfield 58, 3) := by decide +kernel
theorem dX11_rule_15 : decode cX11_rule 15 = .ok (.aload_n 0, 1) := by decide +kernel
theorem dX11_rule_16 : decode cX11_rule 16 = .ok (.getfield 54, 3) := by decide +kernel
theorem dX11_rule_19 : decode cX11_rule 19 = .ok (.invokevirtual 230, 3) := by decide +kernel
theorem dX11_rule_22 : decode cX11_rule 22 = .ok (.iconst 0, 1) := by decide +kernel
theorem dX11_rule_23 : decode cX11_rule 23 = .ok (.istore_n 2, 1) := by decide +kernel
theorem dX11_rule_24 : decode cX11_rule 24 = .ok (.iconst 0, 1) := by decide +kernel
theorem dX11_rule_25 : decode cX11_rule 25 = .ok (.istore_n 3, 1) := by decide +kernel
theorem dX11_rule_26 : decode cX11_rule 26 = .ok (.iload_n 3, 1) := by decide +kernel
theorem dX11_rule_27 : decode cX11_rule 27 = .ok (.iload_n 1, 1) := by decide +kernel
theorem dX11_rule_28 : decode cX11_rule 28 = .ok (.if_icmp .ge 42, 3) := by decide +kernel
theorem dX11_rule_31 : decode cX11_rule 31 = .ok (.iload_n 2, 1) := by decide +kernel
theorem dX11_rule_32 : decode cX11_rule 32 = .ok (.aload_n 0, 1) := by decide +kernel
theorem dX11_rule_33 : decode cX11_rule 33 = .ok (.getfield 19, 3) := by decide +kernel
theorem dX11_rule_36 : decode cX11_rule 36 = .ok (.aload_n 0, 1) := by decide +kernel
theorem dX11_rule_37 : decode cX11_rule 37 = .ok (.getfield 82, 3) := by decide +kernel
theorem dX11_rule_40 : decode cX11_rule 40 = .ok (.aload_n 0, 1) := by decide +kernel
theorem dX11_rule_41 : decode cX11_rule 41 = .ok (.getfield 58, 3) := by decide +kernel
theorem dX11_rule_44 : decode cX11_rule 44 = .ok (.invokevirtual 317, 3) := by decide +kernel
theorem dX11_rule_47 : decode cX11_rule 47 = .ok (.iadd, 1) := by decide +kernel
theorem dX11_rule_48 : decode cX11_rule 48 = .ok (.istore_n 2, 1) := by decide +kernel
theorem dX11_rule_49 : decode cX11_rule 49 = .ok (.aload_n 0, 1) := by decide +kernel
theorem dX11_rule_50 : decode cX11_rule 50 = .ok (.getfield 19, 3) := by decide +kernel
theorem dX11_rule_53 : decode cX11_rule 53 = .ok (.aload_n 0, 1) := by decide +kernel
theorem dX11_rule_54 : decode cX11_rule 54 = .ok (.getfield 82, 3) := by decide +kernel
theorem dX11_rule_57 : decode cX11_rule 57 = .ok (.aload_n 0, 1) := by decide +kernel
theorem dX11_rule_58 : decode cX11_rule 58 = .ok (.getfield 58, 3) := by decide +kernel
theorem dX11_rule_61 : decode cX11_rule 61 = .ok (.invokevirtual 285, 3) := by decide +kernel
theorem dX11_rule_64 : decode cX11_rule 64 = .ok (.iinc 3 1, 3) := by decide +kernel
theorem dX11_rule_67 : decode cX11_rule 67 = .ok (.goto (-41), 3) := by decide +kernel
theorem dX11_rule_70 : decode cX11_rule 70 = .ok (.iload_n 2, 1) := by decide +kernel
theorem dX11_rule_71 : decode cX11_rule 71 = .ok (.ireturn, 1) := by decide +kernel
theorem dX11_light_0 : decode cX11_light 0 = .ok (.iload_n 1, 1) := by decide +kernel
theorem dX11_light_1 : decode cX11_light 1 = .ok (.invokestatic 307, 3) := by decide +kernel
theorem dX11_light_4 : decode cX11_light 4 = .ok (.ifCond .eq 12, 3) := by decide +kernel
theorem dX11_light_7 : decode cX11_light 7 = .ok (.iload_n 2, 1) := by decide +kernel
theorem dX11_light_8 : decode cX11_light 8 = .ok (.ifCond .lt 8, 3) := by decide +kernel
theorem dX11_light_11 : decode cX11_light 11 = .ok (.iload_n 2, 1) := by decide +kernel
theorem dX11_light_12 : decode cX11_light 12 = .ok (.iconst 1, 1) := by decide +kernel
theorem dX11_light_13 : decode cX11_light 13 = .ok (.if_icmp .le 5, 3) := by decide +kernel
theorem dX11_light_18 : decode cX11_light 18 = .ok (.bipush (-2), 2) := by decide +kernel
theorem dX11_light_20 : decode cX11_light 20 = .ok (.istore_n 3, 1) := by decide +kernel
theorem dX11_light_21 : decode cX11_light 21 = .ok (.bipush (-2), 2) := by decide +kernel
theorem dX11_light_23 : decode cX11_light 23 = .ok (.istore 4, 2) := by decide +kernel
theorem dX11_light_25 : decode cX11_light 25 = .ok (.iconst 0, 1) := by decide +kernel
theorem dX11_light_26 : decode cX11_light 26 = .ok (.istore 5, 2) := by decide +kernel
theorem dX11_light_28 : decode cX11_light 28 = .ok (.iload 5, 2) := by decide +kernel
theorem dX11_light_30 : decode cX11_light 30 = .ok (.aload_n 0, 1) := by decide +kernel
theorem dX11_light_31 : decode cX11_light 31 = .ok (.getfield 82, 3) := by decide +kernel
theorem dX11_light_34 : decode cX11_light 34 = .ok (.getfield 171, 3) := by decide +kernel
theorem dX11_light_37 : decode cX11_light 37 = .ok (.if_icmp .ge 116, 3) := by decide +kernel
theorem dX11_light_153 : decode cX11_light 153 = .ok (.iload_n 2, 1) := by decide +kernel
theorem dX11_light_154 : decode cX11_light 154 = .ok (.ifCond .ne 7, 3) := by decide +kernel
theorem dX11_light_157 : decode cX11_light 157 = .ok (.iload_n 3, 1) := by decide +kernel
theorem dX11_light_158 : decode cX11_light 158 = .ok (.goto 5, 3) := by decide +kernel
theorem dX11_light_161 : decode cX11_light 161 = .ok (.iload 4, 2) := by decide +kernel
theorem dX11_light_163 : decode cX11_light 163 = .ok (.ireturn, 1) := by decide +kernel
theorem dX11_light_16 : decode cX11_light 16 = .ok (.iconst (-1), 1) := by decide +kernel
theorem dX11_light_17 : decode cX11_light 17 = .ok (.ireturn, 1) := by decide +kernel
theorem dX11_load_7 : decode cX11_load 7 = .ok (.iconst (-1), 1) := by decide +kernel
theorem dX11_load_8 : decode cX11_load 8 = .ok (.ireturn, 1) := by decide +kernel
theorem dX11_rule_7 : decode cX11_rule 7 = .ok (.ldc_w 316, 3) := by decide +kernel
theorem dX11_rule_10 : decode cX11_rule 10 = .ok (.ireturn, 1) := by decide +kernel
theorem dX11_order_0 : decode cX11_order 0 = .ok (.iload_n 1, 1) := by decide +kernel
theorem dX11_order_1 : decode cX11_order 1 = .ok (.ifCond .lt 9, 3) := by decide +kernel
theorem dX11_order_4 : decode cX11_order 4 = .ok (.iload_n 1, 1) := by decide +kernel
theorem dX11_order_5 : decode cX11_order 5 = .ok (.bipush 7, 2) := by decide +kernel
theorem dX11_order_7 : decode cX11_order 7 = .ok (.if_icmp .lt 5, 3) := by decide +kernel
theorem dX11_order_10 : decode cX11_order 10 = .ok (.iconst (-1), 1) := by decide +kernel
theorem dX11_order_11 : decode cX11_order 11 = .ok (.ireturn, 1) := by decide +kernel
theorem dX11_order_12 : decode cX11_order 12 = .ok (.iconst 0, 1) := by decide +kernel
theorem dX11_order_13 : decode cX11_order 13 = .ok (.istore_n 2, 1) := by decide +kernel
theorem dX11_order_14 : decode cX11_order 14 = .ok (.iconst 0, 1) := by decide +kernel
theorem dX11_order_15 : decode cX11_order 15 = .ok (.istore_n 3, 1) := by decide +kernel
theorem dX11_order_16 : decode cX11_order 16 = .ok (.iload_n 3, 1) := by decide +kernel
theorem dX11_order_17 : decode cX11_order 17 = .ok (.bipush 9, 2) := by decide +kernel
theorem dX11_order_19 : decode cX11_order 19 = .ok (.if_icmp .gt 67, 3) := by decide +kernel
theorem dX11_order_22 : decode cX11_order 22 = .ok (.iconst 0, 1) := by decide +kernel
theorem dX11_order_23 : decode cX11_order 23 = .ok (.istore 4, 2) := by decide +kernel
theorem dX11_order_25 : decode cX11_order 25 = .ok (.iload 4, 2) := by decide +kernel
theorem dX11_order_27 : decode cX11_order 27 = .ok (.aload_n 0, 1) := by decide +kernel
theorem dX11_order_28 : decode cX11_order 28 = .ok (.getfield 54, 3) := by decide +kernel
theorem dX11_order_31 : decode cX11_order 31 = .ok (.getfield 321, 3) := by decide +kernel
theorem dX11_order_34 : decode cX11_order 34 = .ok (.if_icmp .ge 46, 3) := by decide +kernel
theorem dX11_order_80 : decode cX11_order 80 = .ok (.iinc 3 1, 3) := by decide +kernel
theorem dX11_order_83 : decode cX11_order 83 = .ok (.goto (-67), 3) := by decide +kernel
theorem dX11_order_86 : decode cX11_order 86 = .ok (.iconst (-1), 1) := by decide +kernel
theorem dX11_order_87 : decode cX11_order 87 = .ok (.ireturn, 1) := by decide +kernel
theorem dX2_agreeing_0 : decode cX2_agreeing 0 = .ok (.iload_n 1, 1) := by decide +kernel
theorem dX2_agreeing_1 : decode cX2_agreeing 1 = .ok (.istore 4, 2) := by decide +kernel
theorem dX2_agreeing_3 : decode cX2_agreeing 3 = .ok (.iconst 0, 1) := by decide +kernel
theorem dX2_agreeing_4 : decode cX2_agreeing 4 = .ok (.istore 5, 2) := by decide +kernel
theorem dX2_agreeing_6 : decode cX2_agreeing 6 = .ok (.iload 5, 2) := by decide +kernel
theorem dX2_agreeing_8 : decode cX2_agreeing 8 = .ok (.iload_n 2, 1) := by decide +kernel
theorem dX2_agreeing_9 : decode cX2_agreeing 9 = .ok (.if_icmp .ge 85, 3) := by decide +kernel
theorem dX2_agreeing_94 : decode cX2_agreeing 94 = .ok (.iload 4, 2) := by decide +kernel
theorem dX2_agreeing_96 : decode cX2_agreeing 96 = .ok (.ireturn, 1) := by decide +kernel
theorem dX11_watch_0 : decode cX11_watch 0 = .ok (.iload_n 1, 1) := by decide +kernel
theorem dX11_watch_1 : decode cX11_watch 1 = .ok (.ifCond .lt 14, 3) := by decide +kernel
theorem dX11_watch_4 : decode cX11_watch 4 = .ok (.iload_n 1, 1) := by decide +kernel
theorem dX11_watch_5 : decode cX11_watch 5 = .ok (.aload_n 0, 1) := by decide +kernel
theorem dX11_watch_6 : decode cX11_watch 6 = .ok (.getfield 33, 3) := by decide +kernel
theorem dX11_watch_9 : decode cX11_watch 9 = .ok (.getfield 117, 3) := by decide +kernel
theorem dX11_watch_12 : decode cX11_watch 12 = .ok (.if_icmp .le 5, 3) := by decide +kernel
theorem dX11_watch_17 : decode cX11_watch 17 = .ok (.aload_n 0, 1) := by decide +kernel
theorem dX11_watch_18 : decode cX11_watch 18 = .ok (.bipush 41, 2) := by decide +kernel
theorem dX11_watch_20 : decode cX11_watch 20 = .ok (.invokevirtual 279, 3) := by decide +kernel
theorem dX11_watch_23 : decode cX11_watch 23 = .ok (.aload_n 0, 1) := by decide +kernel
theorem dX11_watch_24 : decode cX11_watch 24 = .ok (.getfield 33, 3) := by decide +kernel
theorem dX11_watch_27 : decode cX11_watch 27 = .ok (.aload_n 0, 1) := by decide +kernel
theorem dX11_watch_28 : decode cX11_watch 28 = .ok (.getfield 54, 3) := by decide +kernel
theorem dX11_watch_31 : decode cX11_watch 31 = .ok (.iconst 0, 1) := by decide +kernel
theorem dX11_watch_32 : decode cX11_watch 32 = .ok (.invokevirtual 180, 3) := by decide +kernel
theorem dX11_watch_35 : decode cX11_watch 35 = .ok (.iload_n 1, 1) := by decide +kernel
theorem dX11_watch_36 : decode cX11_watch 36 = .ok (.aload_n 0, 1) := by decide +kernel
theorem dX11_watch_37 : decode cX11_watch 37 = .ok (.getfield 69, 3) := by decide +kernel
theorem dX11_watch_40 : decode cX11_watch 40 = .ok (.invokevirtual 326, 3) := by decide +kernel
theorem dX11_watch_43 : decode cX11_watch 43 = .ok (.istore_n 2, 1) := by decide +kernel
theorem dX11_watch_44 : decode cX11_watch 44 = .ok (.iload_n 2, 1) := by decide +kernel
theorem dX11_watch_45 : decode cX11_watch 45 = .ok (.ifCond .ne 6, 3) := by decide +kernel
theorem dX11_watch_48 : decode cX11_watch 48 = .ok (.bipush (-2), 2) := by decide +kernel
theorem dX11_watch_50 : decode cX11_watch 50 = .ok (.ireturn, 1) := by decide +kernel
theorem dX11_watch_15 : decode cX11_watch 15 = .ok (.iconst (-1), 1) := by decide +kernel
theorem dX11_watch_16 : decode cX11_watch 16 = .ok (.ireturn, 1) := by decide +kernel
theorem dX11_glitters_0 : decode cX11_glitters 0 = .ok (.iload_n 1, 1) := by decide +kernel
theorem dX11_glitters_1 : decode cX11_glitters 1 = .ok (.ifCond .lt 23, 3) := by decide +kernel
theorem dX11_glitters_4 : decode cX11_glitters 4 = .ok (.iload_n 1, 1) := by decide +kernel
theorem dX11_glitters_5 : decode cX11_glitters 5 = .ok (.aload_n 0, 1) := by decide +kernel
theorem dX11_glitters_6 : decode cX11_glitters 6 = .ok (.getfield 33, 3) := by decide +kernel
theorem dX11_glitters_9 : decode cX11_glitters 9 = .ok (.getfield 117, 3) := by decide +kernel
theorem dX11_glitters_12 : decode cX11_glitters 12 = .ok (.if_icmp .gt 12, 3) := by decide +kernel
theorem dX11_glitters_15 : decode cX11_glitters 15 = .ok (.iload_n 2, 1) := by decide +kernel
theorem dX11_glitters_16 : decode cX11_glitters 16 = .ok (.ifCond .lt 8, 3) := by decide +kernel
theorem dX11_glitters_19 : decode cX11_glitters 19 = .ok (.iload_n 2, 1) := by decide +kernel
theorem dX11_glitters_20 : decode cX11_glitters 20 = .ok (.iconst 1, 1) := by decide +kernel
theorem dX11_glitters_21 : decode cX11_glitters 21 = .ok (.if_icmp .le 5, 3) := by decide +kernel
theorem dX11_glitters_26 : decode cX11_glitters 26 = .ok (.aload_n 0, 1) := by decide +kernel
theorem dX11_glitters_27 : decode cX11_glitters 27 = .ok (.bipush 41, 2) := by decide +kernel
theorem dX11_glitters_29 : decode cX11_glitters 29 = .ok (.invokevirtual 279, 3) := by decide +kernel
theorem dX11_glitters_32 : decode cX11_glitters 32 = .ok (.aload_n 0, 1) := by decide +kernel
theorem dX11_glitters_33 : decode cX11_glitters 33 = .ok (.getfield 33, 3) := by decide +kernel
theorem dX11_glitters_36 : decode cX11_glitters 36 = .ok (.aload_n 0, 1) := by decide +kernel
theorem dX11_glitters_37 : decode cX11_glitters 37 = .ok (.getfield 54, 3) := by decide +kernel
theorem dX11_glitters_40 : decode cX11_glitters 40 = .ok (.iconst 0, 1) := by decide +kernel
theorem dX11_glitters_41 : decode cX11_glitters 41 = .ok (.invokevirtual 180, 3) := by decide +kernel
theorem dX11_glitters_44 : decode cX11_glitters 44 = .ok (.iload_n 1, 1) := by decide +kernel
theorem dX11_glitters_45 : decode cX11_glitters 45 = .ok (.aload_n 0, 1) := by decide +kernel
theorem dX11_glitters_46 : decode cX11_glitters 46 = .ok (.getfield 69, 3) := by decide +kernel
theorem dX11_glitters_49 : decode cX11_glitters 49 = .ok (.invokevirtual 326, 3) := by decide +kernel
theorem dX11_glitters_52 : decode cX11_glitters 52 = .ok (.istore_n 3, 1) := by decide +kernel
theorem dX11_glitters_53 : decode cX11_glitters 53 = .ok (.iload_n 2, 1) := by decide +kernel
theorem dX11_glitters_54 : decode cX11_glitters 54 = .ok (.ifCond .ne 10, 3) := by decide +kernel
theorem dX11_glitters_57 : decode cX11_glitters 57 = .ok (.iload_n 3, 1) := by decide +kernel
theorem dX11_glitters_58 : decode cX11_glitters 58 = .ok (.invokestatic 330, 3) := by decide +kernel
theorem dX11_glitters_61 : decode cX11_glitters 61 = .ok (.goto 4, 3) := by decide +kernel
theorem dX11_glitters_64 : decode cX11_glitters 64 = .ok (.iload_n 3, 1) := by decide +kernel
theorem dX11_glitters_65 : decode cX11_glitters 65 = .ok (.ireturn, 1) := by decide +kernel
theorem dX11_glitters_24 : decode cX11_glitters 24 = .ok (.iconst (-1), 1) := by decide +kernel
theorem dX11_glitters_25 : decode cX11_glitters 25 = .ok (.ireturn, 1) := by decide +kernel
theorem dX11_then_0 : decode cX11_then 0 = .ok (.iload_n 1, 1) := by decide +kernel
theorem dX11_then_1 : decode cX11_then 1 = .ok (.ifCond .lt 18, 3) := by decide +kernel
theorem dX11_then_4 : decode cX11_then 4 = .ok (.iload_n 1, 1) := by decide +kernel
theorem dX11_then_5 : decode cX11_then 5 = .ok (.bipush 60, 2) := by decide +kernel
theorem dX11_then_7 : decode cX11_then 7 = .ok (.if_icmp .gt 12, 3) := by decide +kernel
theorem dX11_then_10 : decode cX11_then 10 = .ok (.iload_n 2, 1) := by decide +kernel
theorem dX11_then_11 : decode cX11_then 11 = .ok (.ifCond .lt 8, 3) := by decide +kernel
theorem dX11_then_14 : decode cX11_then 14 = .ok (.iload_n 2, 1) := by decide +kernel
theorem dX11_then_15 : decode cX11_then 15 = .ok (.iconst 3, 1) := by decide +kernel
theorem dX11_then_16 : decode cX11_then 16 = .ok (.if_icmp .le 5, 3) := by decide +kernel
theorem dX11_then_21 : decode cX11_then 21 = .ok (.aload_n 0, 1) := by decide +kernel
theorem dX11_then_22 : decode cX11_then 22 = .ok (.getfield 58, 3) := by decide +kernel
theorem dX11_then_25 : decode cX11_then 25 = .ok (.aload_n 0, 1) := by decide +kernel
theorem dX11_then_26 : decode cX11_then 26 = .ok (.getfield 54, 3) := by decide +kernel
theorem dX11_then_29 : decode cX11_then 29 = .ok (.invokevirtual 230, 3) := by decide +kernel
theorem dX11_then_32 : decode cX11_then 32 = .ok (.aload_n 0, 1) := by decide +kernel
theorem dX11_then_33 : decode cX11_then 33 = .ok (.getfield 19, 3) := by decide +kernel
theorem dX11_then_36 : decode cX11_then 36 = .ok (.aload_n 0, 1) := by decide +kernel
theorem dX11_then_37 : decode cX11_then 37 = .ok (.getfield 82, 3) := by decide +kernel
theorem dX11_then_40 : decode cX11_then 40 = .ok (.aload_n 0, 1) := by decide +kernel
theorem dX11_then_41 : decode cX11_then 41 = .ok (.getfield 58, 3) := by decide +kernel
theorem dX11_then_44 : decode cX11_then 44 = .ok (.iload_n 1, 1) := by decide +kernel
theorem dX11_then_45 : decode cX11_then 45 = .ok (.aload_n 0, 1) := by decide +kernel
theorem dX11_then_46 : decode cX11_then 46 = .ok (.getfield 82, 3) := by decide +kernel
theorem dX11_then_49 : decode cX11_then 49 = .ok (.getfield 220, 3) := by decide +kernel
theorem dX11_then_52 : decode cX11_then 52 = .ok (.invokevirtual 223, 3) := by decide +kernel
theorem dX11_then_55 : decode cX11_then 55 = .ok (.iload_n 2, 1) := by decide +kernel
theorem dX11_then_56 : decode cX11_then 56 = .ok (.tableswitch 60 0 2 #[28, 36, 44], 28) := by decide +kernel
theorem dX11_then_84 : decode cX11_then 84 = .ok (.aload_n 0, 1) := by decide +kernel
theorem dX11_then_85 : decode cX11_then 85 = .ok (.getfield 58, 3) := by decide +kernel
theorem dX11_then_88 : decode cX11_then 88 = .ok (.getfield 177, 3) := by decide +kernel
theorem dX11_then_91 : decode cX11_then 91 = .ok (.ireturn, 1) := by decide +kernel
theorem dX11_then_92 : decode cX11_then 92 = .ok (.aload_n 0, 1) := by decide +kernel
theorem dX11_then_93 : decode cX11_then 93 = .ok (.getfield 58, 3) := by decide +kernel
theorem dX11_then_96 : decode cX11_then 96 = .ok (.invokevirtual 156, 3) := by decide +kernel
theorem dX11_then_99 : decode cX11_then 99 = .ok (.ireturn, 1) := by decide +kernel
theorem dX11_then_100 : decode cX11_then 100 = .ok (.aload_n 0, 1) := by decide +kernel
theorem dX11_then_101 : decode cX11_then 101 = .ok (.getfield 58, 3) := by decide +kernel
theorem dX11_then_104 : decode cX11_then 104 = .ok (.getfield 184, 3) := by decide +kernel
theorem dX11_then_107 : decode cX11_then 107 = .ok (.aload_n 0, 1) := by decide +kernel
theorem dX11_then_108 : decode cX11_then 108 = .ok (.getfield 54, 3) := by decide +kernel
theorem dX11_then_111 : decode cX11_then 111 = .ok (.getfield 184, 3) := by decide +kernel
theorem dX11_then_114 : decode cX11_then 114 = .ok (.isub, 1) := by decide +kernel
theorem dX11_then_115 : decode cX11_then 115 = .ok (.ireturn, 1) := by decide +kernel
theorem dX11_then_116 : decode cX11_then 116 = .ok (.aload_n 0, 1) := by decide +kernel
theorem dX11_then_117 : decode cX11_then 117 = .ok (.getfield 58, 3) := by decide +kernel
theorem dX11_then_120 : decode cX11_then 120 = .ok (.getfield 190, 3) := by decide +kernel
theorem dX11_then_123 : decode cX11_then 123 = .ok (.aload_n 0, 1) := by decide +kernel
theorem dX11_then_124 : decode cX11_then 124 = .ok (.getfield 54, 3) := by decide +kernel
theorem dX11_then_127 : decode cX11_then 127 = .ok (.getfield 190, 3) := by decide +kernel
theorem dX11_then_130 : decode cX11_then 130 = .ok (.isub, 1) := by decide +kernel
theorem dX11_then_131 : decode cX11_then 131 = .ok (.ireturn, 1) := by decide +kernel
theorem dX11_then_19 : decode cX11_then 19 = .ok (.iconst (-1), 1) := by decide +kernel
theorem dX11_then_20 : decode cX11_then 20 = .ok (.ireturn, 1) := by decide +kernel
theorem dX11_year_0 : decode cX11_year 0 = .ok (.iload_n 1, 1) := by decide +kernel
theorem dX11_year_1 : decode cX11_year 1 = .ok (.ifCond .lt 20, 3) := by decide +kernel
theorem dX11_year_4 : decode cX11_year 4 = .ok (.iload_n 1, 1) := by decide +kernel
theorem dX11_year_5 : decode cX11_year 5 = .ok (.bipush 60, 2) := by decide +kernel
theorem dX11_year_7 : decode cX11_year 7 = .ok (.if_icmp .gt 14, 3) := by decide +kernel
theorem dX11_year_10 : decode cX11_year 10 = .ok (.iload_n 2, 1) := by decide +kernel
theorem dX11_year_11 : decode cX11_year 11 = .ok (.iconst 1, 1) := by decide +kernel
theorem dX11_year_12 : decode cX11_year 12 = .ok (.if_icmp .lt 9, 3) := by decide +kernel
theorem dX11_year_15 : decode cX11_year 15 = .ok (.iload_n 2, 1) := by decide +kernel
theorem dX11_year_16 : decode cX11_year 16 = .ok (.bipush 20, 2) := by decide +kernel
theorem dX11_year_18 : decode cX11_year 18 = .ok (.if_icmp .le 5, 3) := by decide +kernel
theorem dX11_year_23 : decode cX11_year 23 = .ok (.iconst 0, 1) := by decide +kernel
theorem dX11_year_24 : decode cX11_year 24 = .ok (.istore_n 3, 1) := by decide +kernel
theorem dX11_year_25 : decode cX11_year 25 = .ok (.iconst 0, 1) := by decide +kernel
theorem dX11_year_26 : decode cX11_year 26 = .ok (.istore 4, 2) := by decide +kernel
theorem dX11_year_28 : decode cX11_year 28 = .ok (.iload 4, 2) := by decide +kernel
theorem dX11_year_30 : decode cX11_year 30 = .ok (.iload_n 2, 1) := by decide +kernel
theorem dX11_year_31 : decode cX11_year 31 = .ok (.if_icmp .ge 66, 3) := by decide +kernel
theorem dX11_year_34 : decode cX11_year 34 = .ok (.aload_n 0, 1) := by decide +kernel
theorem dX11_year_35 : decode cX11_year 35 = .ok (.getfield 58, 3) := by decide +kernel
theorem dX11_year_38 : decode cX11_year 38 = .ok (.aload_n 0, 1) := by decide +kernel
theorem dX11_year_39 : decode cX11_year 39 = .ok (.getfield 54, 3) := by decide +kernel
theorem dX11_year_42 : decode cX11_year 42 = .ok (.invokevirtual 230, 3) := by decide +kernel
theorem dX11_year_45 : decode cX11_year 45 = .ok (.aload_n 0, 1) := by decide +kernel
theorem dX11_year_46 : decode cX11_year 46 = .ok (.getfield 19, 3) := by decide +kernel
theorem dX11_year_49 : decode cX11_year 49 = .ok (.aload_n 0, 1) := by decide +kernel
theorem dX11_year_50 : decode cX11_year 50 = .ok (.getfield 82, 3) := by decide +kernel
theorem dX11_year_53 : decode cX11_year 53 = .ok (.aload_n 0, 1) := by decide +kernel
theorem dX11_year_54 : decode cX11_year 54 = .ok (.getfield 58, 3) := by decide +kernel
theorem dX11_year_57 : decode cX11_year 57 = .ok (.iload_n 1, 1) := by decide +kernel
theorem dX11_year_58 : decode cX11_year 58 = .ok (.aload_n 0, 1) := by decide +kernel
theorem dX11_year_59 : decode cX11_year 59 = .ok (.getfield 82, 3) := by decide +kernel
theorem dX11_year_62 : decode cX11_year 62 = .ok (.getfield 220, 3) := by decide +kernel
theorem dX11_year_65 : decode cX11_year 65 = .ok (.iload 4, 2) := by decide +kernel
theorem dX11_year_67 : decode cX11_year 67 = .ok (.iadd, 1) := by decide +kernel
theorem dX11_year_68 : decode cX11_year 68 = .ok (.invokevirtual 223, 3) := by decide +kernel
theorem dX11_year_71 : decode cX11_year 71 = .ok (.aload_n 0, 1) := by decide +kernel
theorem dX11_year_72 : decode cX11_year 72 = .ok (.getfield 58, 3) := by decide +kernel
theorem dX11_year_75 : decode cX11_year 75 = .ok (.getfield 184, 3) := by decide +kernel
theorem dX11_year_78 : decode cX11_year 78 = .ok (.aload_n 0, 1) := by decide +kernel
theorem dX11_year_79 : decode cX11_year 79 = .ok (.getfield 54, 3) := by decide +kernel
theorem dX11_year_82 : decode cX11_year 82 = .ok (.getfield 184, 3) := by decide +kernel
theorem dX11_year_85 : decode cX11_year 85 = .ok (.if_icmp .ne 6, 3) := by decide +kernel
theorem dX11_year_88 : decode cX11_year 88 = .ok (.iinc 3 1, 3) := by decide +kernel
theorem dX11_year_91 : decode cX11_year 91 = .ok (.iinc 4 1, 3) := by decide +kernel
theorem dX11_year_94 : decode cX11_year 94 = .ok (.goto (-66), 3) := by decide +kernel
theorem dX11_year_97 : decode cX11_year 97 = .ok (.iload_n 3, 1) := by decide +kernel
theorem dX11_year_98 : decode cX11_year 98 = .ok (.ireturn, 1) := by decide +kernel
theorem dX11_year_21 : decode cX11_year 21 = .ok (.iconst (-1), 1) := by decide +kernel
theorem dX11_year_22 : decode cX11_year 22 = .ok (.ireturn, 1) := by decide +kernel
theorem dX10_emit_0 : decode cX10_emit 0 = .ok (.aload_n 0, 1) := by decide +kernel
theorem dX10_emit_1 : decode cX10_emit 1 = .ok (.getfield 51, 3) := by decide +kernel
theorem dX10_emit_4 : decode cX10_emit 4 = .ok (.aload_n 0, 1) := by decide +kernel
theorem dX10_emit_5 : decode cX10_emit 5 = .ok (.getfield 29, 3) := by decide +kernel
theorem dX10_emit_8 : decode cX10_emit 8 = .ok (.arraylength, 1) := by decide +kernel
theorem dX10_emit_9 : decode cX10_emit 9 = .ok (.if_icmp .ge 23, 3) := by decide +kernel
theorem dX10_emit_12 : decode cX10_emit 12 = .ok (.aload_n 0, 1) := by decide +kernel
theorem dX10_emit_13 : decode cX10_emit 13 = .ok (.getfield 29, 3) := by decide +kernel
theorem dX10_emit_16 : decode cX10_emit 16 = .ok (.aload_n 0, 1) := by decide +kernel
theorem dX10_emit_17 : decode cX10_emit 17 = .ok (.getfield 51, 3) := by decide +kernel
theorem dX10_emit_20 : decode cX10_emit 20 = .ok (.iload_n 1, 1) := by decide +kernel
theorem dX10_emit_21 : decode cX10_emit 21 = .ok (.iastore, 1) := by decide +kernel
theorem dX10_emit_22 : decode cX10_emit 22 = .ok (.aload_n 0, 1) := by decide +kernel
theorem dX10_emit_23 : decode cX10_emit 23 = .ok (.dup, 1) := by decide +kernel
theorem dX10_emit_24 : decode cX10_emit 24 = .ok (.getfield 51, 3) := by decide +kernel
theorem dX10_emit_27 : decode cX10_emit 27 = .ok (.iconst 1, 1) := by decide +kernel
theorem dX10_emit_28 : decode cX10_emit 28 = .ok (.iadd, 1) := by decide +kernel
theorem dX10_emit_29 : decode cX10_emit 29 = .ok (.putfield 51, 3) := by decide +kernel
theorem dX10_emit_32 : decode cX10_emit 32 = .ok (.return_, 1) := by decide +kernel
theorem dX10_clear_0 : decode cX10_clear 0 = .ok (.aload_n 0, 1) := by decide +kernel
theorem dX10_clear_1 : decode cX10_clear 1 = .ok (.iconst 0, 1) := by decide +kernel
theorem dX10_clear_2 : decode cX10_clear 2 = .ok (.putfield 38, 3) := by decide +kernel
theorem dX10_clear_5 : decode cX10_clear 5 = .ok (.aload_n 0, 1) := by decide +kernel
theorem dX10_clear_6 : decode cX10_clear 6 = .ok (.iconst 0, 1) := by decide +kernel
theorem dX10_clear_7 : decode cX10_clear 7 = .ok (.putfield 42, 3) := by decide +kernel
theorem dX10_clear_10 : decode cX10_clear 10 = .ok (.aload_n 0, 1) := by decide +kernel
theorem dX10_clear_11 : decode cX10_clear 11 = .ok (.iconst 1, 1) := by decide +kernel
theorem dX10_clear_12 : decode cX10_clear 12 = .ok (.putfield 45, 3) := by decide +kernel
theorem dX10_clear_15 : decode cX10_clear 15 = .ok (.aload_n 0, 1) := by decide +kernel
theorem dX10_clear_16 : decode cX10_clear 16 = .ok (.iconst 0, 1) := by decide +kernel
theorem dX10_clear_17 : decode cX10_clear 17 = .ok (.putfield 48, 3) := by decide +kernel
theorem dX10_clear_20 : decode cX10_clear 20 = .ok (.aload_n 0, 1) := by decide +kernel
theorem dX10_clear_21 : decode cX10_clear 21 = .ok (.iconst 0, 1) := by decide +kernel
theorem dX10_clear_22 : decode cX10_clear 22 = .ok (.putfield 51, 3) := by decide +kernel
theorem dX10_clear_25 : decode cX10_clear 25 = .ok (.iconst 0, 1) := by decide +kernel
theorem dX10_clear_26 : decode cX10_clear 26 = .ok (.istore_n 1, 1) := by decide +kernel
theorem dX10_clear_27 : decode cX10_clear 27 = .ok (.iload_n 1, 1) := by decide +kernel
theorem dX10_clear_28 : decode cX10_clear 28 = .ok (.iconst 4, 1) := by decide +kernel
theorem dX10_clear_29 : decode cX10_clear 29 = .ok (.if_icmp .ge 40, 3) := by decide +kernel
theorem dX10_clear_32 : decode cX10_clear 32 = .ok (.aload_n 0, 1) := by decide +kernel
theorem dX10_clear_33 : decode cX10_clear 33 = .ok (.getfield 32, 3) := by decide +kernel
theorem dX10_clear_36 : decode cX10_clear 36 = .ok (.iload_n 1, 1) := by decide +kernel
theorem dX10_clear_37 : decode cX10_clear 37 = .ok (.aload_n 0, 1) := by decide +kernel
theorem dX10_clear_38 : decode cX10_clear 38 = .ok (.getfield 51, 3) := by decide +kernel
theorem dX10_clear_41 : decode cX10_clear 41 = .ok (.iastore, 1) := by decide +kernel
theorem dX10_clear_42 : decode cX10_clear 42 = .ok (.aload_n 0, 1) := by decide +kernel
theorem dX10_clear_43 : decode cX10_clear 43 = .ok (.iload_n 1, 1) := by decide +kernel
theorem dX10_clear_44 : decode cX10_clear 44 = .ok (.iconst 2, 1) := by decide +kernel
theorem dX10_clear_45 : decode cX10_clear 45 = .ok (.if_icmp .ne 8, 3) := by decide +kernel
theorem dX10_clear_48 : decode cX10_clear 48 = .ok (.bipush (-11), 2) := by decide +kernel
theorem dX10_clear_50 : decode cX10_clear 50 = .ok (.goto 4, 3) := by decide +kernel
theorem dX10_clear_53 : decode cX10_clear 53 = .ok (.iconst 0, 1) := by decide +kernel
theorem dX10_clear_54 : decode cX10_clear 54 = .ok (.invokevirtual 54, 3) := by decide +kernel
theorem dX10_clear_57 : decode cX10_clear 57 = .ok (.aload_n 0, 1) := by decide +kernel
theorem dX10_clear_58 : decode cX10_clear 58 = .ok (.bipush (-6), 2) := by decide +kernel
theorem dX10_clear_60 : decode cX10_clear 60 = .ok (.invokevirtual 54, 3) := by decide +kernel
theorem dX10_clear_63 : decode cX10_clear 63 = .ok (.iinc 1 1, 3) := by decide +kernel
theorem dX10_clear_66 : decode cX10_clear 66 = .ok (.goto (-39), 3) := by decide +kernel
theorem dX10_clear_69 : decode cX10_clear 69 = .ok (.return_, 1) := by decide +kernel
theorem dX9_cutOne_0 : decode cX9_cutOne 0 = .ok (.aload_n 0, 1) := by decide +kernel
theorem dX9_cutOne_1 : decode cX9_cutOne 1 = .ok (.getfield 29, 3) := by decide +kernel
theorem dX9_cutOne_4 : decode cX9_cutOne 4 = .ok (.aload_n 0, 1) := by decide +kernel
theorem dX9_cutOne_5 : decode cX9_cutOne 5 = .ok (.getfield 25, 3) := by decide +kernel
theorem dX9_cutOne_8 : decode cX9_cutOne 8 = .ok (.if_icmp .lt 6, 3) := by decide +kernel
theorem dX9_cutOne_11 : decode cX9_cutOne 11 = .ok (.bipush 22, 2) := by decide +kernel
theorem dX9_cutOne_13 : decode cX9_cutOne 13 = .ok (.ireturn, 1) := by decide +kernel
theorem dX9_cut_0 : decode cX9_cut 0 = .ok (.aload_n 0, 1) := by decide +kernel
theorem dX9_cut_1 : decode cX9_cut 1 = .ok (.iconst 0, 1) := by decide +kernel
theorem dX9_cut_2 : decode cX9_cut 2 = .ok (.putfield 29, 3) := by decide +kernel
theorem dX9_cut_5 : decode cX9_cut 5 = .ok (.iconst (-1), 1) := by decide +kernel
theorem dX9_cut_6 : decode cX9_cut 6 = .ok (.istore_n 1, 1) := by decide +kernel
theorem dX9_cut_7 : decode cX9_cut 7 = .ok (.iconst 0, 1) := by decide +kernel
theorem dX9_cut_8 : decode cX9_cut 8 = .ok (.istore_n 2, 1) := by decide +kernel
theorem dX9_cut_9 : decode cX9_cut 9 = .ok (.iload_n 2, 1) := by decide +kernel
theorem dX9_cut_10 : decode cX9_cut 10 = .ok (.sipush 400, 3) := by decide +kernel
theorem dX9_cut_13 : decode cX9_cut 13 = .ok (.if_icmp .gt 83, 3) := by decide +kernel
theorem dX9_cut_16 : decode cX9_cut 16 = .ok (.iload_n 1, 1) := by decide +kernel
theorem dX9_cut_17 : decode cX9_cut 17 = .ok (.bipush 22, 2) := by decide +kernel
theorem dX9_cut_19 : decode cX9_cut 19 = .ok (.if_icmp .eq 77, 3) := by decide +kernel
theorem dX9_cut_22 : decode cX9_cut 22 = .ok (.iload_n 1, 1) := by decide +kernel
theorem dX9_cut_23 : decode cX9_cut 23 = .ok (.bipush 23, 2) := by decide +kernel
theorem dX9_cut_25 : decode cX9_cut 25 = .ok (.if_icmp .eq 71, 3) := by decide +kernel
theorem dX9_cut_28 : decode cX9_cut 28 = .ok (.aload_n 0, 1) := by decide +kernel
theorem dX9_cut_29 : decode cX9_cut 29 = .ok (.getfield 29, 3) := by decide +kernel
theorem dX9_cut_32 : decode cX9_cut 32 = .ok (.aload_n 0, 1) := by decide +kernel
theorem dX9_cut_33 : decode cX9_cut 33 = .ok (.getfield 25, 3) := by decide +kernel
theorem dX9_cut_36 : decode cX9_cut 36 = .ok (.if_icmp .ge 31, 3) := by decide +kernel
theorem dX9_cut_67 : decode cX9_cut 67 = .ok (.aload_n 0, 1) := by decide +kernel
theorem dX9_cut_68 : decode cX9_cut 68 = .ok (.getfield 18, 3) := by decide +kernel
theorem dX9_cut_71 : decode cX9_cut 71 = .ok (.iload_n 2, 1) := by decide +kernel
theorem dX9_cut_72 : decode cX9_cut 72 = .ok (.aload_n 0, 1) := by decide +kernel
theorem dX9_cut_73 : decode cX9_cut 73 = .ok (.getfield 29, 3) := by decide +kernel
theorem dX9_cut_76 : decode cX9_cut 76 = .ok (.iastore, 1) := by decide +kernel
theorem dX9_cut_77 : decode cX9_cut 77 = .ok (.aload_n 0, 1) := by decide +kernel
theorem dX9_cut_78 : decode cX9_cut 78 = .ok (.iload_n 2, 1) := by decide +kernel
theorem dX9_cut_79 : decode cX9_cut 79 = .ok (.invokevirtual 36, 3) := by decide +kernel
theorem dX9_cut_82 : decode cX9_cut 82 = .ok (.istore_n 1, 1) := by decide +kernel
theorem dX9_cut_83 : decode cX9_cut 83 = .ok (.aload_n 0, 1) := by decide +kernel
theorem dX9_cut_84 : decode cX9_cut 84 = .ok (.getfield 15, 3) := by decide +kernel
theorem dX9_cut_87 : decode cX9_cut 87 = .ok (.iload_n 2, 1) := by decide +kernel
theorem dX9_cut_88 : decode cX9_cut 88 = .ok (.iload_n 1, 1) := by decide +kernel
theorem dX9_cut_89 : decode cX9_cut 89 = .ok (.iastore, 1) := by decide +kernel
theorem dX9_cut_90 : decode cX9_cut 90 = .ok (.iinc 2 1, 3) := by decide +kernel
theorem dX9_cut_93 : decode cX9_cut 93 = .ok (.goto (-84), 3) := by decide +kernel
theorem dX9_cut_96 : decode cX9_cut 96 = .ok (.return_, 1) := by decide +kernel
theorem dX6_readInto_0 : decode cX6_readInto 0 = .ok (.aload_n 1, 1) := by decide +kernel
theorem dX6_readInto_1 : decode cX6_readInto 1 = .ok (.invokevirtual 26, 3) := by decide +kernel
theorem dX6_readInto_4 : decode cX6_readInto 4 = .ok (.aload_n 0, 1) := by decide +kernel
theorem dX6_readInto_5 : decode cX6_readInto 5 = .ok (.iconst 0, 1) := by decide +kernel
theorem dX6_readInto_6 : decode cX6_readInto 6 = .ok (.putfield 31, 3) := by decide +kernel
theorem dX6_readInto_9 : decode cX6_readInto 9 = .ok (.aload_n 0, 1) := by decide +kernel
theorem dX6_readInto_10 : decode cX6_readInto 10 = .ok (.iconst 0, 1) := by decide +kernel
theorem dX6_readInto_11 : decode cX6_readInto 11 = .ok (.putfield 34, 3) := by decide +kernel
theorem dX6_readInto_14 : decode cX6_readInto 14 = .ok (.aload_n 0, 1) := by decide +kernel
theorem dX6_readInto_15 : decode cX6_readInto 15 = .ok (.iconst (-1), 1) := by decide +kernel
theorem dX6_readInto_16 : decode cX6_readInto 16 = .ok (.putfield 18, 3) := by decide +kernel
theorem dX6_readInto_19 : decode cX6_readInto 19 = .ok (.aload_n 0, 1) := by decide +kernel
theorem dX6_readInto_20 : decode cX6_readInto 20 = .ok (.iconst 0, 1) := by decide +kernel
theorem dX6_readInto_21 : decode cX6_readInto 21 = .ok (.putfield 37, 3) := by decide +kernel
theorem dX6_readInto_24 : decode cX6_readInto 24 = .ok (.aload_n 0, 1) := by decide +kernel
theorem dX6_readInto_25 : decode cX6_readInto 25 = .ok (.iconst (-1), 1) := by decide +kernel
theorem dX6_readInto_26 : decode cX6_readInto 26 = .ok (.putfield 40, 3) := by decide +kernel
theorem dX6_readInto_29 : decode cX6_readInto 29 = .ok (.aload_n 0, 1) := by decide +kernel
theorem dX6_readInto_30 : decode cX6_readInto 30 = .ok (.getfield 12, 3) := by decide +kernel
theorem dX6_readInto_33 : decode cX6_readInto 33 = .ok (.invokevirtual 43, 3) := by decide +kernel
theorem dX6_readInto_36 : decode cX6_readInto 36 = .ok (.aload_n 0, 1) := by decide +kernel
theorem dX6_readInto_37 : decode cX6_readInto 37 = .ok (.iconst 0, 1) := by decide +kernel
theorem dX6_readInto_38 : decode cX6_readInto 38 = .ok (.putfield 46, 3) := by decide +kernel
theorem dX6_readInto_41 : decode cX6_readInto 41 = .ok (.aload_n 0, 1) := by decide +kernel
theorem dX6_readInto_42 : decode cX6_readInto 42 = .ok (.aload_n 0, 1) := by decide +kernel
theorem dX6_readInto_43 : decode cX6_readInto 43 = .ok (.getfield 12, 3) := by decide +kernel
theorem dX6_readInto_46 : decode cX6_readInto 46 = .ok (.getfield 49, 3) := by decide +kernel
theorem dX6_readInto_49 : decode cX6_readInto 49 = .ok (.iconst 0, 1) := by decide +kernel
theorem dX6_readInto_50 : decode cX6_readInto 50 = .ok (.iaload, 1) := by decide +kernel
theorem dX6_readInto_51 : decode cX6_readInto 51 = .ok (.putfield 53, 3) := by decide +kernel
theorem dX6_readInto_54 : decode cX6_readInto 54 = .ok (.iconst 1, 1) := by decide +kernel
theorem dX6_readInto_55 : decode cX6_readInto 55 = .ok (.istore_n 2, 1) := by decide +kernel
theorem dX6_readInto_56 : decode cX6_readInto 56 = .ok (.iconst 0, 1) := by decide +kernel
theorem dX6_readInto_57 : decode cX6_readInto 57 = .ok (.istore_n 3, 1) := by decide +kernel
theorem dX6_readInto_58 : decode cX6_readInto 58 = .ok (.iload_n 2, 1) := by decide +kernel
theorem dX6_readInto_59 : decode cX6_readInto 59 = .ok (.ifCond .eq 31, 3) := by decide +kernel
theorem dX6_readInto_62 : decode cX6_readInto 62 = .ok (.aload_n 0, 1) := by decide +kernel
theorem dX6_readInto_63 : decode cX6_readInto 63 = .ok (.getfield 53, 3) := by decide +kernel
theorem dX6_readInto_66 : decode cX6_readInto 66 = .ok (.bipush 22, 2) := by decide +kernel
theorem dX6_readInto_68 : decode cX6_readInto 68 = .ok (.if_icmp .eq 22, 3) := by decide +kernel
theorem dX6_readInto_90 : decode cX6_readInto 90 = .ok (.aload_n 0, 1) := by decide +kernel
theorem dX6_readInto_91 : decode cX6_readInto 91 = .ok (.getfield 34, 3) := by decide +kernel
theorem dX6_readInto_94 : decode cX6_readInto 94 = .ok (.ifCond .ne 26, 3) := by decide +kernel
theorem dX6_readInto_97 : decode cX6_readInto 97 = .ok (.aload_n 0, 1) := by decide +kernel
theorem dX6_readInto_98 : decode cX6_readInto 98 = .ok (.getfield 37, 3) := by decide +kernel
theorem dX6_readInto_101 : decode cX6_readInto 101 = .ok (.ifCond .eq 19, 3) := by decide +kernel
theorem dX6_readInto_120 : decode cX6_readInto 120 = .ok (.aload_n 0, 1) := by decide +kernel
theorem dX6_readInto_121 : decode cX6_readInto 121 = .ok (.getfield 34, 3) := by decide +kernel
theorem dX6_readInto_124 : decode cX6_readInto 124 = .ok (.ireturn, 1) := by decide +kernel
theorem dX0_begin_0 : decode cX0_begin 0 = .ok (.aload_n 0, 1) := by decide +kernel
theorem dX0_begin_1 : decode cX0_begin 1 = .ok (.aload_n 1, 1) := by decide +kernel
theorem dX0_begin_2 : decode cX0_begin 2 = .ok (.getfield 28, 3) := by decide +kernel
theorem dX0_begin_5 : decode cX0_begin 5 = .ok (.putfield 33, 3) := by decide +kernel
theorem dX0_begin_8 : decode cX0_begin 8 = .ok (.aload_n 0, 1) := by decide +kernel
theorem dX0_begin_9 : decode cX0_begin 9 = .ok (.getfield 9, 3) := by decide +kernel
theorem dX0_begin_12 : decode cX0_begin 12 = .ok (.iconst 0, 1) := by decide +kernel
theorem dX0_begin_13 : decode cX0_begin 13 = .ok (.invokestatic 34, 3) := by decide +kernel
theorem dX0_begin_16 : decode cX0_begin 16 = .ok (.aload_n 0, 1) := by decide +kernel
theorem dX0_begin_17 : decode cX0_begin 17 = .ok (.getfield 18, 3) := by decide +kernel
theorem dX0_begin_20 : decode cX0_begin 20 = .ok (.iconst 0, 1) := by decide +kernel
theorem dX0_begin_21 : decode cX0_begin 21 = .ok (.invokestatic 34, 3) := by decide +kernel
theorem dX0_begin_24 : decode cX0_begin 24 = .ok (.aload_n 1, 1) := by decide +kernel
theorem dX0_begin_25 : decode cX0_begin 25 = .ok (.getfield 40, 3) := by decide +kernel
theorem dX0_begin_28 : decode cX0_begin 28 = .ok (.iconst 0, 1) := by decide +kernel
theorem dX0_begin_29 : decode cX0_begin 29 = .ok (.aload_n 0, 1) := by decide +kernel
theorem dX0_begin_30 : decode cX0_begin 30 = .ok (.getfield 15, 3) := by decide +kernel
theorem dX0_begin_33 : decode cX0_begin 33 = .ok (.iconst 0, 1) := by decide +kernel
theorem dX0_begin_34 : decode cX0_begin 34 = .ok (.bipush 7, 2) := by decide +kernel
theorem dX0_begin_36 : decode cX0_begin 36 = .ok (.invokestatic 43, 3) := by decide +kernel
theorem dX0_begin_39 : decode cX0_begin 39 = .ok (.aload_n 0, 1) := by decide +kernel
theorem dX0_begin_40 : decode cX0_begin 40 = .ok (.iconst 0, 1) := by decide +kernel
theorem dX0_begin_41 : decode cX0_begin 41 = .ok (.putfield 49, 3) := by decide +kernel
theorem dX0_begin_44 : decode cX0_begin 44 = .ok (.aload_n 0, 1) := by decide +kernel
theorem dX0_begin_45 : decode cX0_begin 45 = .ok (.iconst 0, 1) := by decide +kernel
theorem dX0_begin_46 : decode cX0_begin 46 = .ok (.putfield 52, 3) := by decide +kernel
theorem dX0_begin_49 : decode cX0_begin 49 = .ok (.aload_n 0, 1) := by decide +kernel
theorem dX0_begin_50 : decode cX0_begin 50 = .ok (.iconst 0, 1) := by decide +kernel
theorem dX0_begin_51 : decode cX0_begin 51 = .ok (.putfield 55, 3) := by decide +kernel
theorem dX0_begin_54 : decode cX0_begin 54 = .ok (.aload_n 0, 1) := by decide +kernel
theorem dX0_begin_55 : decode cX0_begin 55 = .ok (.iconst 0, 1) := by decide +kernel
theorem dX0_begin_56 : decode cX0_begin 56 = .ok (.putfield 58, 3) := by decide +kernel
theorem dX0_begin_59 : decode cX0_begin 59 = .ok (.aload_n 0, 1) := by decide +kernel
theorem dX0_begin_60 : decode cX0_begin 60 = .ok (.iconst 0, 1) := by decide +kernel
theorem dX0_begin_61 : decode cX0_begin 61 = .ok (.putfield 61, 3) := by decide +kernel
theorem dX0_begin_64 : decode cX0_begin 64 = .ok (.aload_n 0, 1) := by decide +kernel
theorem dX0_begin_65 : decode cX0_begin 65 = .ok (.aload_n 1, 1) := by decide +kernel
theorem dX0_begin_66 : decode cX0_begin 66 = .ok (.getfield 64, 3) := by decide +kernel
theorem dX0_begin_69 : decode cX0_begin 69 = .ok (.ifCond .le 7, 3) := by decide +kernel
theorem dX0_begin_76 : decode cX0_begin 76 = .ok (.iconst (-1), 1) := by decide +kernel
theorem dX0_begin_77 : decode cX0_begin 77 = .ok (.putfield 21, 3) := by decide +kernel
theorem dX0_begin_80 : decode cX0_begin 80 = .ok (.aload_n 0, 1) := by decide +kernel
theorem dX0_begin_81 : decode cX0_begin 81 = .ok (.iconst 0, 1) := by decide +kernel
theorem dX0_begin_82 : decode cX0_begin 82 = .ok (.putfield 67, 3) := by decide +kernel
theorem dX0_begin_85 : decode cX0_begin 85 = .ok (.aload_n 0, 1) := by decide +kernel
theorem dX0_begin_86 : decode cX0_begin 86 = .ok (.iconst (-1), 1) := by decide +kernel
theorem dX0_begin_87 : decode cX0_begin 87 = .ok (.putfield 25, 3) := by decide +kernel
theorem dX0_begin_90 : decode cX0_begin 90 = .ok (.return_, 1) := by decide +kernel
theorem dX5_clear_0 : decode cX5_clear 0 = .ok (.aload_n 0, 1) := by decide +kernel
theorem dX5_clear_1 : decode cX5_clear 1 = .ok (.iconst 0, 1) := by decide +kernel
theorem dX5_clear_2 : decode cX5_clear 2 = .ok (.putfield 18, 3) := by decide +kernel
theorem dX5_clear_5 : decode cX5_clear 5 = .ok (.return_, 1) := by decide +kernel
theorem dX11_beginAnew_0 : decode cX11_beginAnew 0 = .ok (.aload_n 0, 1) := by decide +kernel
theorem dX11_beginAnew_1 : decode cX11_beginAnew 1 = .ok (.getfield 86, 3) := by decide +kernel
theorem dX11_beginAnew_4 : decode cX11_beginAnew 4 = .ok (.astore_n 1, 1) := by decide +kernel
theorem dX11_beginAnew_5 : decode cX11_beginAnew 5 = .ok (.aload_n 0, 1) := by decide +kernel
theorem dX11_beginAnew_6 : decode cX11_beginAnew 6 = .ok (.aload_n 0, 1) := by decide +kernel
theorem dX11_beginAnew_7 : decode cX11_beginAnew 7 = .ok (.getfield 82, 3) := by decide +kernel
theorem dX11_beginAnew_10 : decode cX11_beginAnew 10 = .ok (.putfield 86, 3) := by decide +kernel
theorem dX11_beginAnew_13 : decode cX11_beginAnew 13 = .ok (.aload_n 0, 1) := by decide +kernel
theorem dX11_beginAnew_14 : decode cX11_beginAnew 14 = .ok (.aload_n 1, 1) := by decide +kernel
theorem dX11_beginAnew_15 : decode cX11_beginAnew 15 = .ok (.putfield 82, 3) := by decide +kernel
theorem dX11_beginAnew_18 : decode cX11_beginAnew 18 = .ok (.aload_n 0, 1) := by decide +kernel
theorem dX11_beginAnew_19 : decode cX11_beginAnew 19 = .ok (.getfield 54, 3) := by decide +kernel
theorem dX11_beginAnew_22 : decode cX11_beginAnew 22 = .ok (.aload_n 0, 1) := by decide +kernel
theorem dX11_beginAnew_23 : decode cX11_beginAnew 23 = .ok (.getfield 82, 3) := by decide +kernel
theorem dX11_beginAnew_26 : decode cX11_beginAnew 26 = .ok (.invokevirtual 110, 3) := by decide +kernel
theorem dX11_beginAnew_29 : decode cX11_beginAnew 29 = .ok (.aload_n 0, 1) := by decide +kernel
theorem dX11_beginAnew_30 : decode cX11_beginAnew 30 = .ok (.getfield 26, 3) := by decide +kernel
theorem dX11_beginAnew_33 : decode cX11_beginAnew 33 = .ok (.invokevirtual 114, 3) := by decide +kernel
theorem dX11_beginAnew_36 : decode cX11_beginAnew 36 = .ok (.aload_n 0, 1) := by decide +kernel
theorem dX11_beginAnew_37 : decode cX11_beginAnew 37 = .ok (.getfield 33, 3) := by decide +kernel
theorem dX11_beginAnew_40 : decode cX11_beginAnew 40 = .ok (.iconst 0, 1) := by decide +kernel
theorem dX11_beginAnew_41 : decode cX11_beginAnew 41 = .ok (.putfield 117, 3) := by decide +kernel
theorem dX11_beginAnew_44 : decode cX11_beginAnew 44 = .ok (.iconst 0, 1) := by decide +kernel
theorem dX11_beginAnew_45 : decode cX11_beginAnew 45 = .ok (.istore_n 2, 1) := by decide +kernel
theorem dX11_beginAnew_46 : decode cX11_beginAnew 46 = .ok (.iload_n 2, 1) := by decide +kernel
theorem dX11_beginAnew_47 : decode cX11_beginAnew 47 = .ok (.iconst 3, 1) := by decide +kernel
theorem dX11_beginAnew_48 : decode cX11_beginAnew 48 = .ok (.if_icmp .ge 16, 3) := by decide +kernel
theorem dX11_beginAnew_51 : decode cX11_beginAnew 51 = .ok (.aload_n 0, 1) := by decide +kernel
theorem dX11_beginAnew_52 : decode cX11_beginAnew 52 = .ok (.getfield 65, 3) := by decide +kernel
theorem dX11_beginAnew_55 : decode cX11_beginAnew 55 = .ok (.iload_n 2, 1) := by decide +kernel
theorem dX11_beginAnew_56 : decode cX11_beginAnew 56 = .ok (.iconst 0, 1) := by decide +kernel
theorem dX11_beginAnew_57 : decode cX11_beginAnew 57 = .ok (.bastore, 1) := by decide +kernel
theorem dX11_beginAnew_58 : decode cX11_beginAnew 58 = .ok (.iinc 2 1, 3) := by decide +kernel
theorem dX11_beginAnew_61 : decode cX11_beginAnew 61 = .ok (.goto (-15), 3) := by decide +kernel
theorem dX11_beginAnew_64 : decode cX11_beginAnew 64 = .ok (.return_, 1) := by decide +kernel
theorem dX11_read_0 : decode cX11_read 0 = .ok (.aload_n 0, 1) := by decide +kernel
theorem dX11_read_1 : decode cX11_read 1 = .ok (.getfield 10, 3) := by decide +kernel
theorem dX11_read_4 : decode cX11_read 4 = .ok (.aload_n 0, 1) := by decide +kernel
theorem dX11_read_5 : decode cX11_read 5 = .ok (.getfield 86, 3) := by decide +kernel
theorem dX11_read_8 : decode cX11_read 8 = .ok (.invokevirtual 103, 3) := by decide +kernel
theorem dX11_read_11 : decode cX11_read 11 = .ok (.istore_n 1, 1) := by decide +kernel
theorem dX11_read_12 : decode cX11_read 12 = .ok (.aload_n 0, 1) := by decide +kernel
theorem dX11_read_13 : decode cX11_read 13 = .ok (.getfield 10, 3) := by decide +kernel
theorem dX11_read_16 : decode cX11_read 16 = .ok (.getfield 89, 3) := by decide +kernel
theorem dX11_read_19 : decode cX11_read 19 = .ok (.iconst 0, 1) := by decide +kernel
theorem dX11_read_20 : decode cX11_read 20 = .ok (.putfield 93, 3) := by decide +kernel
theorem dX11_read_23 : decode cX11_read 23 = .ok (.iload_n 1, 1) := by decide +kernel
theorem dX11_read_24 : decode cX11_read 24 = .ok (.ifCond .ne 7, 3) := by decide +kernel
theorem dX11_read_27 : decode cX11_read 27 = .ok (.aload_n 0, 1) := by decide +kernel
theorem dX11_read_28 : decode cX11_read 28 = .ok (.invokevirtual 107, 3) := by decide +kernel
theorem dX11_read_31 : decode cX11_read 31 = .ok (.iload_n 1, 1) := by decide +kernel
theorem dX11_read_32 : decode cX11_read 32 = .ok (.ireturn, 1) := by decide +kernel
