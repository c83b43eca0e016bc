theorem dX11_closingOf_0 : decode cX11_closingOf 0 = .ok (.aload_n 0, 1) := by decide +kernel
theorem dX11_closingOf_1 : decode cX11_closingOf 1 = .ok (.iload_n 1, 1) := by decide +kernel
theorem dX11_closingOf_2 : decode cX11_closingOf 2 = .ok (.invokestatic 243, 3) := by decide +kernel
theorem dX11_closingOf_5 : decode cX11_closingOf 5 = .ok (.istore_n 3, 1) := by decide +kernel
theorem dX11_closingOf_6 : decode cX11_closingOf 6 = .ok (.iload_n 2, 1) := by decide +kernel
theorem dX11_closingOf_7 : decode cX11_closingOf 7 = .ok (.ifCond .ne 13, 3) := by decide +kernel
theorem dX11_closingOf_10 : decode cX11_closingOf 10 = .ok (.iload_n 3, 1) := by decide +kernel
theorem dX11_closingOf_11 : decode cX11_closingOf 11 = .ok (.ifCond .eq 7, 3) := by decide +kernel
theorem dX11_closingOf_14 : decode cX11_closingOf 14 = .ok (.iconst 1, 1) := by decide +kernel
theorem dX11_closingOf_15 : decode cX11_closingOf 15 = .ok (.goto 4, 3) := by decide +kernel
theorem dX11_closingOf_18 : decode cX11_closingOf 18 = .ok (.iconst 0, 1) := by decide +kernel
theorem dX11_closingOf_19 : decode cX11_closingOf 19 = .ok (.ireturn, 1) := by decide +kernel
theorem dX11_closingOf_20 : decode cX11_closingOf 20 = .ok (.iload_n 3, 1) := by decide +kernel
theorem dX11_closingOf_21 : decode cX11_closingOf 21 = .ok (.ifCond .eq 11, 3) := by decide +kernel
theorem dX11_closingOf_24 : decode cX11_closingOf 24 = .ok (.aload_n 0, 1) := by decide +kernel
theorem dX11_closingOf_25 : decode cX11_closingOf 25 = .ok (.iload_n 1, 1) := by decide +kernel
theorem dX11_closingOf_26 : decode cX11_closingOf 26 = .ok (.invokestatic 249, 3) := by decide +kernel
theorem dX11_closingOf_29 : decode cX11_closingOf 29 = .ok (.goto 5, 3) := by decide +kernel
theorem dX11_closingOf_32 : decode cX11_closingOf 32 = .ok (.bipush (-2), 2) := by decide +kernel
theorem dX11_closingOf_34 : decode cX11_closingOf 34 = .ok (.ireturn, 1) := by decide +kernel
theorem dX11_closes_11 : decode cX11_closes 11 = .ok (.iload_n 2, 1) := by decide +kernel
theorem dX11_closes_12 : decode cX11_closes 12 = .ok (.ifCond .lt 8, 3) := by decide +kernel
theorem dX11_closes_15 : decode cX11_closes 15 = .ok (.iload_n 2, 1) := by decide +kernel
theorem dX11_closes_16 : decode cX11_closes 16 = .ok (.iconst 1, 1) := by decide +kernel
theorem dX11_closes_17 : decode cX11_closes 17 = .ok (.if_icmp .le 5, 3) := by decide +kernel
theorem dX11_closes_22 : decode cX11_closes 22 = .ok (.aload_n 0, 1) := by decide +kernel
theorem dX11_closes_23 : decode cX11_closes 23 = .ok (.getfield 82, 3) := by decide +kernel
theorem dX11_closes_26 : decode cX11_closes 26 = .ok (.getfield 149, 3) := by decide +kernel
theorem dX11_closes_29 : decode cX11_closes 29 = .ok (.iload_n 1, 1) := by decide +kernel
theorem dX11_closes_30 : decode cX11_closes 30 = .ok (.aaload, 1) := by decide +kernel
theorem dX11_closes_31 : decode cX11_closes 31 = .ok (.aload_n 0, 1) := by decide +kernel
theorem dX11_closes_32 : decode cX11_closes 32 = .ok (.getfield 82, 3) := by decide +kernel
theorem dX11_closes_35 : decode cX11_closes 35 = .ok (.getfield 146, 3) := by decide +kernel
theorem dX11_closes_38 : decode cX11_closes 38 = .ok (.iload_n 1, 1) := by decide +kernel
theorem dX11_closes_39 : decode cX11_closes 39 = .ok (.iaload, 1) := by decide +kernel
theorem dX11_closes_40 : decode cX11_closes 40 = .ok (.iload_n 2, 1) := by decide +kernel
theorem dX11_closes_41 : decode cX11_closes 41 = .ok (.invokestatic 233, 3) := by decide +kernel
theorem dX11_closes_44 : decode cX11_closes 44 = .ok (.ireturn, 1) := by decide +kernel
theorem dX11_joined_11 : decode cX11_joined 11 = .ok (.aload_n 0, 1) := by decide +kernel
theorem dX11_joined_12 : decode cX11_joined 12 = .ok (.getfield 82, 3) := by decide +kernel
theorem dX11_joined_15 : decode cX11_joined 15 = .ok (.iload_n 2, 1) := by decide +kernel
theorem dX11_joined_16 : decode cX11_joined 16 = .ok (.invokevirtual 143, 3) := by decide +kernel
theorem dX11_joined_19 : decode cX11_joined 19 = .ok (.ifCond .eq 12, 3) := by decide +kernel
theorem dX11_joined_22 : decode cX11_joined 22 = .ok (.iload_n 3, 1) := by decide +kernel
theorem dX11_joined_23 : decode cX11_joined 23 = .ok (.ifCond .lt 8, 3) := by decide +kernel
theorem dX11_joined_26 : decode cX11_joined 26 = .ok (.iload_n 3, 1) := by decide +kernel
theorem dX11_joined_27 : decode cX11_joined 27 = .ok (.iconst 1, 1) := by decide +kernel
theorem dX11_joined_28 : decode cX11_joined 28 = .ok (.if_icmp .le 5, 3) := by decide +kernel
theorem dX11_joined_33 : decode cX11_joined 33 = .ok (.aload_n 0, 1) := by decide +kernel
theorem dX11_joined_34 : decode cX11_joined 34 = .ok (.getfield 82, 3) := by decide +kernel
theorem dX11_joined_37 : decode cX11_joined 37 = .ok (.getfield 146, 3) := by decide +kernel
theorem dX11_joined_40 : decode cX11_joined 40 = .ok (.iload_n 1, 1) := by decide +kernel
theorem dX11_joined_41 : decode cX11_joined 41 = .ok (.iaload, 1) := by decide +kernel
theorem dX11_joined_42 : decode cX11_joined 42 = .ok (.istore 4, 2) := by decide +kernel
theorem dX11_joined_44 : decode cX11_joined 44 = .ok (.aload_n 0, 1) := by decide +kernel
theorem dX11_joined_45 : decode cX11_joined 45 = .ok (.getfield 82, 3) := by decide +kernel
theorem dX11_joined_48 : decode cX11_joined 48 = .ok (.getfield 149, 3) := by decide +kernel
theorem dX11_joined_51 : decode cX11_joined 51 = .ok (.iload_n 1, 1) := by decide +kernel
theorem dX11_joined_52 : decode cX11_joined 52 = .ok (.aaload, 1) := by decide +kernel
theorem dX11_joined_53 : decode cX11_joined 53 = .ok (.iconst 0, 1) := by decide +kernel
theorem dX11_joined_54 : decode cX11_joined 54 = .ok (.aload_n 0, 1) := by decide +kernel
theorem dX11_joined_55 : decode cX11_joined 55 = .ok (.getfield 76, 3) := by decide +kernel
theorem dX11_joined_58 : decode cX11_joined 58 = .ok (.iconst 0, 1) := by decide +kernel
theorem dX11_joined_59 : decode cX11_joined 59 = .ok (.iload 4, 2) := by decide +kernel
theorem dX11_joined_61 : decode cX11_joined 61 = .ok (.invokestatic 237, 3) := by decide +kernel
theorem dX11_joined_64 : decode cX11_joined 64 = .ok (.aload_n 0, 1) := by decide +kernel
theorem dX11_joined_65 : decode cX11_joined 65 = .ok (.getfield 82, 3) := by decide +kernel
theorem dX11_joined_68 : decode cX11_joined 68 = .ok (.getfield 149, 3) := by decide +kernel
theorem dX11_joined_71 : decode cX11_joined 71 = .ok (.iload_n 2, 1) := by decide +kernel
theorem dX11_joined_72 : decode cX11_joined 72 = .ok (.aaload, 1) := by decide +kernel
theorem dX11_joined_73 : decode cX11_joined 73 = .ok (.iconst 0, 1) := by decide +kernel
theorem dX11_joined_74 : decode cX11_joined 74 = .ok (.aload_n 0, 1) := by decide +kernel
theorem dX11_joined_75 : decode cX11_joined 75 = .ok (.getfield 76, 3) := by decide +kernel
theorem dX11_joined_78 : decode cX11_joined 78 = .ok (.iload 4, 2) := by decide +kernel
theorem dX11_joined_80 : decode cX11_joined 80 = .ok (.aload_n 0, 1) := by decide +kernel
theorem dX11_joined_81 : decode cX11_joined 81 = .ok (.getfield 82, 3) := by decide +kernel
theorem dX11_joined_84 : decode cX11_joined 84 = .ok (.getfield 146, 3) := by decide +kernel
theorem dX11_joined_87 : decode cX11_joined 87 = .ok (.iload_n 2, 1) := by decide +kernel
theorem dX11_joined_88 : decode cX11_joined 88 = .ok (.iaload, 1) := by decide +kernel
theorem dX11_joined_89 : decode cX11_joined 89 = .ok (.invokestatic 237, 3) := by decide +kernel
theorem dX11_joined_92 : decode cX11_joined 92 = .ok (.aload_n 0, 1) := by decide +kernel
theorem dX11_joined_93 : decode cX11_joined 93 = .ok (.getfield 76, 3) := by decide +kernel
theorem dX11_joined_96 : decode cX11_joined 96 = .ok (.iload 4, 2) := by decide +kernel
theorem dX11_joined_98 : decode cX11_joined 98 = .ok (.aload_n 0, 1) := by decide +kernel
theorem dX11_joined_99 : decode cX11_joined 99 = .ok (.getfield 82, 3) := by decide +kernel
theorem dX11_joined_102 : decode cX11_joined 102 = .ok (.getfield 146, 3) := by decide +kernel
theorem dX11_joined_105 : decode cX11_joined 105 = .ok (.iload_n 2, 1) := by decide +kernel
theorem dX11_joined_106 : decode cX11_joined 106 = .ok (.iaload, 1) := by decide +kernel
theorem dX11_joined_107 : decode cX11_joined 107 = .ok (.iadd, 1) := by decide +kernel
theorem dX11_joined_108 : decode cX11_joined 108 = .ok (.iload_n 3, 1) := by decide +kernel
theorem dX11_joined_109 : decode cX11_joined 109 = .ok (.invokestatic 233, 3) := by decide +kernel
theorem dX11_joined_112 : decode cX11_joined 112 = .ok (.ireturn, 1) := by decide +kernel
theorem dX11_turned_11 : decode cX11_turned 11 = .ok (.aload_n 0, 1) := by decide +kernel
theorem dX11_turned_12 : decode cX11_turned 12 = .ok (.getfield 82, 3) := by decide +kernel
theorem dX11_turned_15 : decode cX11_turned 15 = .ok (.iload_n 2, 1) := by decide +kernel
theorem dX11_turned_16 : decode cX11_turned 16 = .ok (.invokevirtual 143, 3) := by decide +kernel
theorem dX11_turned_19 : decode cX11_turned 19 = .ok (.ifCond .ne 5, 3) := by decide +kernel
theorem dX11_turned_24 : decode cX11_turned 24 = .ok (.aload_n 0, 1) := by decide +kernel
theorem dX11_turned_25 : decode cX11_turned 25 = .ok (.getfield 82, 3) := by decide +kernel
theorem dX11_turned_28 : decode cX11_turned 28 = .ok (.getfield 146, 3) := by decide +kernel
theorem dX11_turned_31 : decode cX11_turned 31 = .ok (.iload_n 1, 1) := by decide +kernel
theorem dX11_turned_32 : decode cX11_turned 32 = .ok (.iaload, 1) := by decide +kernel
theorem dX11_turned_33 : decode cX11_turned 33 = .ok (.istore_n 3, 1) := by decide +kernel
theorem dX11_turned_34 : decode cX11_turned 34 = .ok (.iload_n 3, 1) := by decide +kernel
theorem dX11_turned_35 : decode cX11_turned 35 = .ok (.aload_n 0, 1) := by decide +kernel
theorem dX11_turned_36 : decode cX11_turned 36 = .ok (.getfield 82, 3) := by decide +kernel
theorem dX11_turned_39 : decode cX11_turned 39 = .ok (.getfield 146, 3) := by decide +kernel
theorem dX11_turned_42 : decode cX11_turned 42 = .ok (.iload_n 2, 1) := by decide +kernel
theorem dX11_turned_43 : decode cX11_turned 43 = .ok (.iaload, 1) := by decide +kernel
theorem dX11_turned_44 : decode cX11_turned 44 = .ok (.if_icmp .eq 6, 3) := by decide +kernel
theorem dX11_turned_47 : decode cX11_turned 47 = .ok (.bipush (-2), 2) := by decide +kernel
theorem dX11_turned_49 : decode cX11_turned 49 = .ok (.ireturn, 1) := by decide +kernel
theorem dX11_turned_50 : decode cX11_turned 50 = .ok (.aload_n 0, 1) := by decide +kernel
theorem dX11_turned_51 : decode cX11_turned 51 = .ok (.getfield 82, 3) := by decide +kernel
theorem dX11_turned_54 : decode cX11_turned 54 = .ok (.getfield 149, 3) := by decide +kernel
theorem dX11_turned_57 : decode cX11_turned 57 = .ok (.iload_n 1, 1) := by decide +kernel
theorem dX11_turned_58 : decode cX11_turned 58 = .ok (.aaload, 1) := by decide +kernel
theorem dX11_turned_59 : decode cX11_turned 59 = .ok (.aload_n 0, 1) := by decide +kernel
theorem dX11_turned_60 : decode cX11_turned 60 = .ok (.getfield 82, 3) := by decide +kernel
theorem dX11_turned_63 : decode cX11_turned 63 = .ok (.getfield 149, 3) := by decide +kernel
theorem dX11_turned_66 : decode cX11_turned 66 = .ok (.iload_n 2, 1) := by decide +kernel
theorem dX11_turned_67 : decode cX11_turned 67 = .ok (.aaload, 1) := by decide +kernel
theorem dX11_turned_68 : decode cX11_turned 68 = .ok (.iload_n 3, 1) := by decide +kernel
theorem dX11_turned_69 : decode cX11_turned 69 = .ok (.invokestatic 253, 3) := by decide +kernel
theorem dX11_turned_72 : decode cX11_turned 72 = .ok (.ireturn, 1) := by decide +kernel
theorem dX11_span_13 : decode cX11_span 13 = .ok (.aload_n 0, 1) := by decide +kernel
theorem dX11_span_14 : decode cX11_span 14 = .ok (.getfield 82, 3) := by decide +kernel
theorem dX11_span_17 : decode cX11_span 17 = .ok (.getfield 149, 3) := by decide +kernel
theorem dX11_span_20 : decode cX11_span 20 = .ok (.iload_n 1, 1) := by decide +kernel
theorem dX11_span_21 : decode cX11_span 21 = .ok (.aaload, 1) := by decide +kernel
theorem dX11_span_22 : decode cX11_span 22 = .ok (.aload_n 0, 1) := by decide +kernel
theorem dX11_span_23 : decode cX11_span 23 = .ok (.getfield 82, 3) := by decide +kernel
theorem dX11_span_26 : decode cX11_span 26 = .ok (.getfield 146, 3) := by decide +kernel
theorem dX11_span_29 : decode cX11_span 29 = .ok (.iload_n 1, 1) := by decide +kernel
theorem dX11_span_30 : decode cX11_span 30 = .ok (.iaload, 1) := by decide +kernel
theorem dX11_span_31 : decode cX11_span 31 = .ok (.invokestatic 257, 3) := by decide +kernel
theorem dX11_span_34 : decode cX11_span 34 = .ok (.ireturn, 1) := by decide +kernel
theorem dX11_orbits_13 : decode cX11_orbits 13 = .ok (.aload_n 0, 1) := by decide +kernel
theorem dX11_orbits_14 : decode cX11_orbits 14 = .ok (.getfield 82, 3) := by decide +kernel
theorem dX11_orbits_17 : decode cX11_orbits 17 = .ok (.getfield 149, 3) := by decide +kernel
theorem dX11_orbits_20 : decode cX11_orbits 20 = .ok (.iload_n 1, 1) := by decide +kernel
theorem dX11_orbits_21 : decode cX11_orbits 21 = .ok (.aaload, 1) := by decide +kernel
theorem dX11_orbits_22 : decode cX11_orbits 22 = .ok (.astore_n 2, 1) := by decide +kernel
theorem dX11_orbits_23 : decode cX11_orbits 23 = .ok (.aload_n 0, 1) := by decide +kernel
theorem dX11_orbits_24 : decode cX11_orbits 24 = .ok (.getfield 82, 3) := by decide +kernel
theorem dX11_orbits_27 : decode cX11_orbits 27 = .ok (.getfield 146, 3) := by decide +kernel
theorem dX11_orbits_30 : decode cX11_orbits 30 = .ok (.iload_n 1, 1) := by decide +kernel
theorem dX11_orbits_31 : decode cX11_orbits 31 = .ok (.iaload, 1) := by decide +kernel
theorem dX11_orbits_32 : decode cX11_orbits 32 = .ok (.istore_n 3, 1) := by decide +kernel
theorem dX11_orbits_33 : decode cX11_orbits 33 = .ok (.aload_n 2, 1) := by decide +kernel
theorem dX11_orbits_34 : decode cX11_orbits 34 = .ok (.iload_n 3, 1) := by decide +kernel
theorem dX11_orbits_35 : decode cX11_orbits 35 = .ok (.invokestatic 243, 3) := by decide +kernel
theorem dX11_orbits_38 : decode cX11_orbits 38 = .ok (.ifCond .eq 11, 3) := by decide +kernel
theorem dX11_orbits_41 : decode cX11_orbits 41 = .ok (.aload_n 2, 1) := by decide +kernel
theorem dX11_orbits_42 : decode cX11_orbits 42 = .ok (.iload_n 3, 1) := by decide +kernel
theorem dX11_orbits_43 : decode cX11_orbits 43 = .ok (.invokestatic 260, 3) := by decide +kernel
theorem dX11_orbits_46 : decode cX11_orbits 46 = .ok (.goto 5, 3) := by decide +kernel
theorem dX11_orbits_49 : decode cX11_orbits 49 = .ok (.bipush (-2), 2) := by decide +kernel
theorem dX11_orbits_51 : decode cX11_orbits 51 = .ok (.ireturn, 1) := by decide +kernel
theorem dX11_swaps_13 : decode cX11_swaps 13 = .ok (.aload_n 0, 1) := by decide +kernel
theorem dX11_swaps_14 : decode cX11_swaps 14 = .ok (.getfield 82, 3) := by decide +kernel
theorem dX11_swaps_17 : decode cX11_swaps 17 = .ok (.getfield 149, 3) := by decide +kernel
theorem dX11_swaps_20 : decode cX11_swaps 20 = .ok (.iload_n 1, 1) := by decide +kernel
theorem dX11_swaps_21 : decode cX11_swaps 21 = .ok (.aaload, 1) := by decide +kernel
theorem dX11_swaps_22 : decode cX11_swaps 22 = .ok (.aload_n 0, 1) := by decide +kernel
theorem dX11_swaps_23 : decode cX11_swaps 23 = .ok (.getfield 82, 3) := by decide +kernel
theorem dX11_swaps_26 : decode cX11_swaps 26 = .ok (.getfield 146, 3) := by decide +kernel
theorem dX11_swaps_29 : decode cX11_swaps 29 = .ok (.iload_n 1, 1) := by decide +kernel
theorem dX11_swaps_30 : decode cX11_swaps 30 = .ok (.iaload, 1) := by decide +kernel
theorem dX11_swaps_31 : decode cX11_swaps 31 = .ok (.invokestatic 263, 3) := by decide +kernel
theorem dX11_swaps_34 : decode cX11_swaps 34 = .ok (.ireturn, 1) := by decide +kernel
theorem dX11_inHand_34 : decode cX11_inHand 34 = .ok (.aload_n 0, 1) := by decide +kernel
theorem dX11_inHand_35 : decode cX11_inHand 35 = .ok (.getfield 69, 3) := by decide +kernel
theorem dX11_inHand_38 : decode cX11_inHand 38 = .ok (.iload_n 1, 1) := by decide +kernel
theorem dX11_inHand_39 : decode cX11_inHand 39 = .ok (.iaload, 1) := by decide +kernel
theorem dX11_firstClash_18 : decode cX11_firstClash 18 = .ok (.iload_n 2, 1) := by decide +kernel
theorem dX11_firstClash_19 : decode cX11_firstClash 19 = .ok (.ireturn, 1) := by decide +kernel
theorem dX11_gap_31 : decode cX11_gap 31 = .ok (.aload_n 0, 1) := by decide +kernel
theorem dX11_gap_32 : decode cX11_gap 32 = .ok (.getfield 19, 3) := by decide +kernel
theorem dX11_gap_35 : decode cX11_gap 35 = .ok (.aload_n 0, 1) := by decide +kernel
theorem dX11_gap_36 : decode cX11_gap 36 = .ok (.getfield 82, 3) := by decide +kernel
theorem dX11_gap_39 : decode cX11_gap 39 = .ok (.aload_n 0, 1) := by decide +kernel
theorem dX11_gap_40 : decode cX11_gap 40 = .ok (.getfield 58, 3) := by decide +kernel
theorem dX11_gap_43 : decode cX11_gap 43 = .ok (.invokevirtual 285, 3) := by decide +kernel
theorem dX11_gap_46 : decode cX11_gap 46 = .ok (.iinc 1 1, 3) := by decide +kernel
theorem dX11_gap_49 : decode cX11_gap 49 = .ok (.goto (-36), 3) := by decide +kernel
theorem dX11_gap_52 : decode cX11_gap 52 = .ok (.bipush (-2), 2) := by decide +kernel
theorem dX11_gap_54 : decode cX11_gap 54 = .ok (.ireturn, 1) := by decide +kernel
theorem dX11_room_11 : decode cX11_room 11 = .ok (.aload_n 0, 1) := by decide +kernel
theorem dX11_room_12 : decode cX11_room 12 = .ok (.getfield 54, 3) := by decide +kernel
theorem dX11_room_15 : decode cX11_room 15 = .ok (.iload_n 1, 1) := by decide +kernel
theorem dX11_room_16 : decode cX11_room 16 = .ok (.invokevirtual 134, 3) := by decide +kernel
theorem dX11_room_19 : decode cX11_room 19 = .ok (.ifCond .eq 5, 3) := by decide +kernel
theorem dX11_room_24 : decode cX11_room 24 = .ok (.iconst 0, 1) := by decide +kernel
theorem dX11_room_25 : decode cX11_room 25 = .ok (.istore_n 2, 1) := by decide +kernel
theorem dX11_room_26 : decode cX11_room 26 = .ok (.iload_n 2, 1) := by decide +kernel
theorem dX11_room_27 : decode cX11_room 27 = .ok (.bipush 9, 2) := by decide +kernel
theorem dX11_room_29 : decode cX11_room 29 = .ok (.if_icmp .gt 42, 3) := by decide +kernel
theorem dX11_room_32 : decode cX11_room 32 = .ok (.aload_n 0, 1) := by decide +kernel
theorem dX11_room_33 : decode cX11_room 33 = .ok (.getfield 58, 3) := by decide +kernel
theorem dX11_room_36 : decode cX11_room 36 = .ok (.aload_n 0, 1) := by decide +kernel
theorem dX11_room_37 : decode cX11_room 37 = .ok (.getfield 54, 3) := by decide +kernel
theorem dX11_room_40 : decode cX11_room 40 = .ok (.invokevirtual 230, 3) := by decide +kernel
theorem dX11_room_43 : decode cX11_room 43 = .ok (.aload_n 0, 1) := by decide +kernel
theorem dX11_room_44 : decode cX11_room 44 = .ok (.getfield 58, 3) := by decide +kernel
theorem dX11_room_47 : decode cX11_room 47 = .ok (.iload_n 1, 1) := by decide +kernel
theorem dX11_room_48 : decode cX11_room 48 = .ok (.iload_n 2, 1) := by decide +kernel
theorem dX11_room_49 : decode cX11_room 49 = .ok (.invokevirtual 210, 3) := by decide +kernel
theorem dX11_room_52 : decode cX11_room 52 = .ok (.aload_n 0, 1) := by decide +kernel
theorem dX11_room_53 : decode cX11_room 53 = .ok (.bipush 59, 2) := by decide +kernel
theorem dX11_room_55 : decode cX11_room 55 = .ok (.invokevirtual 289, 3) := by decide +kernel
theorem dX11_room_58 : decode cX11_room 58 = .ok (.bipush (-2), 2) := by decide +kernel
theorem dX11_room_60 : decode cX11_room 60 = .ok (.if_icmp .ne 5, 3) := by decide +kernel
theorem dX11_room_63 : decode cX11_room 63 = .ok (.iload_n 2, 1) := by decide +kernel
theorem dX11_room_64 : decode cX11_room 64 = .ok (.ireturn, 1) := by decide +kernel
theorem dX11_room_65 : decode cX11_room 65 = .ok (.iinc 2 1, 3) := by decide +kernel
theorem dX11_room_68 : decode cX11_room 68 = .ok (.goto (-42), 3) := by decide +kernel
theorem dX11_room_71 : decode cX11_room 71 = .ok (.bipush (-2), 2) := by decide +kernel
theorem dX11_room_73 : decode cX11_room 73 = .ok (.ireturn, 1) := by decide +kernel
