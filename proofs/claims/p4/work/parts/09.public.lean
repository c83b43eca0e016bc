theorem dX11_thing_0 : decode cX11_thing 0 = .ok (.aload_n 0, 1) := by decide +kernel
theorem dX11_thing_1 : decode cX11_thing 1 = .ok (.getfield 82, 3) := by decide +kernel
theorem dX11_thing_4 : decode cX11_thing 4 = .ok (.iload_n 1, 1) := by decide +kernel
theorem dX11_thing_5 : decode cX11_thing 5 = .ok (.invokevirtual 121, 3) := by decide +kernel
theorem dX11_thing_8 : decode cX11_thing 8 = .ok (.ifCond .ne 5, 3) := by decide +kernel
theorem dX11_thing_11 : decode cX11_thing 11 = .ok (.iconst (-1), 1) := by decide +kernel
theorem dX11_thing_12 : decode cX11_thing 12 = .ok (.ireturn, 1) := by decide +kernel
theorem dX11_pattern_0 : decode cX11_pattern 0 = .ok (.aload_n 0, 1) := by decide +kernel
theorem dX11_pattern_1 : decode cX11_pattern 1 = .ok (.getfield 82, 3) := by decide +kernel
theorem dX11_pattern_4 : decode cX11_pattern 4 = .ok (.iload_n 1, 1) := by decide +kernel
theorem dX11_pattern_5 : decode cX11_pattern 5 = .ok (.invokevirtual 143, 3) := by decide +kernel
theorem dX11_pattern_8 : decode cX11_pattern 8 = .ok (.ifCond .ne 5, 3) := by decide +kernel
theorem dX11_pattern_11 : decode cX11_pattern 11 = .ok (.iconst (-1), 1) := by decide +kernel
theorem dX11_pattern_12 : decode cX11_pattern 12 = .ok (.ireturn, 1) := by decide +kernel
theorem dX11_tells_0 : decode cX11_tells 0 = .ok (.aload_n 0, 1) := by decide +kernel
theorem dX11_tells_1 : decode cX11_tells 1 = .ok (.getfield 82, 3) := by decide +kernel
theorem dX11_tells_4 : decode cX11_tells 4 = .ok (.iload_n 1, 1) := by decide +kernel
theorem dX11_tells_5 : decode cX11_tells 5 = .ok (.invokevirtual 121, 3) := by decide +kernel
theorem dX11_tells_8 : decode cX11_tells 8 = .ok (.ifCond .eq 12, 3) := by decide +kernel
theorem dX11_tells_20 : decode cX11_tells 20 = .ok (.bipush (-100), 2) := by decide +kernel
theorem dX11_tells_22 : decode cX11_tells 22 = .ok (.ireturn, 1) := by decide +kernel
theorem dX11_throwIn_0 : decode cX11_throwIn 0 = .ok (.aload_n 0, 1) := by decide +kernel
theorem dX11_throwIn_1 : decode cX11_throwIn 1 = .ok (.getfield 82, 3) := by decide +kernel
theorem dX11_throwIn_4 : decode cX11_throwIn 4 = .ok (.iload_n 1, 1) := by decide +kernel
theorem dX11_throwIn_5 : decode cX11_throwIn 5 = .ok (.invokevirtual 121, 3) := by decide +kernel
theorem dX11_throwIn_8 : decode cX11_throwIn 8 = .ok (.ifCond .eq 21, 3) := by decide +kernel
theorem dX11_throwIn_29 : decode cX11_throwIn 29 = .ok (.iconst 0, 1) := by decide +kernel
theorem dX11_throwIn_30 : decode cX11_throwIn 30 = .ok (.ireturn, 1) := by decide +kernel
theorem dX11_use_0 : decode cX11_use 0 = .ok (.aload_n 0, 1) := by decide +kernel
theorem dX11_use_1 : decode cX11_use 1 = .ok (.getfield 82, 3) := by decide +kernel
theorem dX11_use_4 : decode cX11_use 4 = .ok (.iload_n 1, 1) := by decide +kernel
theorem dX11_use_5 : decode cX11_use 5 = .ok (.invokevirtual 143, 3) := by decide +kernel
theorem dX11_use_8 : decode cX11_use 8 = .ok (.ifCond .ne 5, 3) := by decide +kernel
theorem dX11_use_11 : decode cX11_use 11 = .ok (.iconst 0, 1) := by decide +kernel
theorem dX11_use_12 : decode cX11_use 12 = .ok (.ireturn, 1) := by decide +kernel
theorem dX11_closes_0 : decode cX11_closes 0 = .ok (.aload_n 0, 1) := by decide +kernel
theorem dX11_closes_1 : decode cX11_closes 1 = .ok (.getfield 82, 3) := by decide +kernel
theorem dX11_closes_4 : decode cX11_closes 4 = .ok (.iload_n 1, 1) := by decide +kernel
theorem dX11_closes_5 : decode cX11_closes 5 = .ok (.invokevirtual 143, 3) := by decide +kernel
theorem dX11_closes_8 : decode cX11_closes 8 = .ok (.ifCond .eq 12, 3) := by decide +kernel
theorem dX11_closes_20 : decode cX11_closes 20 = .ok (.iconst (-1), 1) := by decide +kernel
theorem dX11_closes_21 : decode cX11_closes 21 = .ok (.ireturn, 1) := by decide +kernel
theorem dX11_joined_0 : decode cX11_joined 0 = .ok (.aload_n 0, 1) := by decide +kernel
theorem dX11_joined_1 : decode cX11_joined 1 = .ok (.getfield 82, 3) := by decide +kernel
theorem dX11_joined_4 : decode cX11_joined 4 = .ok (.iload_n 1, 1) := by decide +kernel
theorem dX11_joined_5 : decode cX11_joined 5 = .ok (.invokevirtual 143, 3) := by decide +kernel
theorem dX11_joined_8 : decode cX11_joined 8 = .ok (.ifCond .eq 23, 3) := by decide +kernel
theorem dX11_joined_31 : decode cX11_joined 31 = .ok (.iconst (-1), 1) := by decide +kernel
theorem dX11_joined_32 : decode cX11_joined 32 = .ok (.ireturn, 1) := by decide +kernel
theorem dX11_turned_0 : decode cX11_turned 0 = .ok (.aload_n 0, 1) := by decide +kernel
theorem dX11_turned_1 : decode cX11_turned 1 = .ok (.getfield 82, 3) := by decide +kernel
theorem dX11_turned_4 : decode cX11_turned 4 = .ok (.iload_n 1, 1) := by decide +kernel
theorem dX11_turned_5 : decode cX11_turned 5 = .ok (.invokevirtual 143, 3) := by decide +kernel
theorem dX11_turned_8 : decode cX11_turned 8 = .ok (.ifCond .eq 14, 3) := by decide +kernel
theorem dX11_turned_22 : decode cX11_turned 22 = .ok (.iconst (-1), 1) := by decide +kernel
theorem dX11_turned_23 : decode cX11_turned 23 = .ok (.ireturn, 1) := by decide +kernel
theorem dX11_span_0 : decode cX11_span 0 = .ok (.aload_n 0, 1) := by decide +kernel
theorem dX11_span_1 : decode cX11_span 1 = .ok (.getfield 82, 3) := by decide +kernel
theorem dX11_span_4 : decode cX11_span 4 = .ok (.iload_n 1, 1) := by decide +kernel
theorem dX11_span_5 : decode cX11_span 5 = .ok (.invokevirtual 143, 3) := by decide +kernel
theorem dX11_span_8 : decode cX11_span 8 = .ok (.ifCond .ne 5, 3) := by decide +kernel
theorem dX11_span_11 : decode cX11_span 11 = .ok (.iconst (-1), 1) := by decide +kernel
theorem dX11_span_12 : decode cX11_span 12 = .ok (.ireturn, 1) := by decide +kernel
theorem dX11_orbits_0 : decode cX11_orbits 0 = .ok (.aload_n 0, 1) := by decide +kernel
theorem dX11_orbits_1 : decode cX11_orbits 1 = .ok (.getfield 82, 3) := by decide +kernel
theorem dX11_orbits_4 : decode cX11_orbits 4 = .ok (.iload_n 1, 1) := by decide +kernel
theorem dX11_orbits_5 : decode cX11_orbits 5 = .ok (.invokevirtual 143, 3) := by decide +kernel
theorem dX11_orbits_8 : decode cX11_orbits 8 = .ok (.ifCond .ne 5, 3) := by decide +kernel
theorem dX11_orbits_11 : decode cX11_orbits 11 = .ok (.iconst (-1), 1) := by decide +kernel
theorem dX11_orbits_12 : decode cX11_orbits 12 = .ok (.ireturn, 1) := by decide +kernel
theorem dX11_swaps_0 : decode cX11_swaps 0 = .ok (.aload_n 0, 1) := by decide +kernel
theorem dX11_swaps_1 : decode cX11_swaps 1 = .ok (.getfield 82, 3) := by decide +kernel
theorem dX11_swaps_4 : decode cX11_swaps 4 = .ok (.iload_n 1, 1) := by decide +kernel
theorem dX11_swaps_5 : decode cX11_swaps 5 = .ok (.invokevirtual 143, 3) := by decide +kernel
theorem dX11_swaps_8 : decode cX11_swaps 8 = .ok (.ifCond .ne 5, 3) := by decide +kernel
theorem dX11_swaps_11 : decode cX11_swaps 11 = .ok (.iconst (-1), 1) := by decide +kernel
theorem dX11_swaps_12 : decode cX11_swaps 12 = .ok (.ireturn, 1) := by decide +kernel
theorem dX11_room_0 : decode cX11_room 0 = .ok (.aload_n 0, 1) := by decide +kernel
theorem dX11_room_1 : decode cX11_room 1 = .ok (.getfield 82, 3) := by decide +kernel
theorem dX11_room_4 : decode cX11_room 4 = .ok (.iload_n 1, 1) := by decide +kernel
theorem dX11_room_5 : decode cX11_room 5 = .ok (.invokevirtual 121, 3) := by decide +kernel
theorem dX11_room_8 : decode cX11_room 8 = .ok (.ifCond .eq 14, 3) := by decide +kernel
theorem dX11_room_22 : decode cX11_room 22 = .ok (.iconst (-1), 1) := by decide +kernel
theorem dX11_room_23 : decode cX11_room 23 = .ok (.ireturn, 1) := by decide +kernel
theorem dX11_into_0 : decode cX11_into 0 = .ok (.aload_n 0, 1) := by decide +kernel
theorem dX11_into_1 : decode cX11_into 1 = .ok (.getfield 82, 3) := by decide +kernel
theorem dX11_into_4 : decode cX11_into 4 = .ok (.iload_n 1, 1) := by decide +kernel
theorem dX11_into_5 : decode cX11_into 5 = .ok (.invokevirtual 143, 3) := by decide +kernel
theorem dX11_into_8 : decode cX11_into 8 = .ok (.ifCond .eq 8, 3) := by decide +kernel
theorem dX11_into_16 : decode cX11_into 16 = .ok (.iconst (-1), 1) := by decide +kernel
theorem dX11_into_17 : decode cX11_into 17 = .ok (.ireturn, 1) := by decide +kernel
theorem dX11_place_0 : decode cX11_place 0 = .ok (.aload_n 0, 1) := by decide +kernel
theorem dX11_place_1 : decode cX11_place 1 = .ok (.getfield 10, 3) := by decide +kernel
theorem dX11_place_4 : decode cX11_place 4 = .ok (.getfield 118, 3) := by decide +kernel
theorem dX11_place_7 : decode cX11_place 7 = .ok (.ireturn, 1) := by decide +kernel
theorem dX11_forget_0 : decode cX11_forget 0 = .ok (.aload_n 0, 1) := by decide +kernel
theorem dX11_forget_1 : decode cX11_forget 1 = .ok (.getfield 33, 3) := by decide +kernel
theorem dX11_forget_4 : decode cX11_forget 4 = .ok (.getfield 117, 3) := by decide +kernel
theorem dX11_forget_7 : decode cX11_forget 7 = .ok (.istore_n 1, 1) := by decide +kernel
theorem dX11_forget_8 : decode cX11_forget 8 = .ok (.aload_n 0, 1) := by decide +kernel
theorem dX11_forget_9 : decode cX11_forget 9 = .ok (.getfield 33, 3) := by decide +kernel
theorem dX11_forget_12 : decode cX11_forget 12 = .ok (.iconst 0, 1) := by decide +kernel
theorem dX11_forget_13 : decode cX11_forget 13 = .ok (.putfield 117, 3) := by decide +kernel
theorem dX11_forget_16 : decode cX11_forget 16 = .ok (.iload_n 1, 1) := by decide +kernel
theorem dX11_forget_17 : decode cX11_forget 17 = .ok (.ireturn, 1) := by decide +kernel
theorem dX11_lands_0 : decode cX11_lands 0 = .ok (.aload_n 0, 1) := by decide +kernel
theorem dX11_lands_1 : decode cX11_lands 1 = .ok (.getfield 54, 3) := by decide +kernel
theorem dX11_lands_4 : decode cX11_lands 4 = .ok (.invokevirtual 276, 3) := by decide +kernel
theorem dX11_lands_7 : decode cX11_lands 7 = .ok (.ireturn, 1) := by decide +kernel
theorem dX11_down_0 : decode cX11_down 0 = .ok (.aload_n 0, 1) := by decide +kernel
theorem dX11_down_1 : decode cX11_down 1 = .ok (.getfield 58, 3) := by decide +kernel
theorem dX11_down_4 : decode cX11_down 4 = .ok (.aload_n 0, 1) := by decide +kernel
theorem dX11_down_5 : decode cX11_down 5 = .ok (.getfield 54, 3) := by decide +kernel
theorem dX11_down_8 : decode cX11_down 8 = .ok (.invokevirtual 230, 3) := by decide +kernel
theorem dX11_down_11 : decode cX11_down 11 = .ok (.iconst 0, 1) := by decide +kernel
theorem dX11_down_12 : decode cX11_down 12 = .ok (.istore_n 1, 1) := by decide +kernel
theorem dX11_down_13 : decode cX11_down 13 = .ok (.iload_n 1, 1) := by decide +kernel
theorem dX11_down_14 : decode cX11_down 14 = .ok (.sipush 200, 3) := by decide +kernel
theorem dX11_down_17 : decode cX11_down 17 = .ok (.if_icmp .gt 44, 3) := by decide +kernel
theorem dX11_down_20 : decode cX11_down 20 = .ok (.aload_n 0, 1) := by decide +kernel
theorem dX11_down_21 : decode cX11_down 21 = .ok (.getfield 58, 3) := by decide +kernel
theorem dX11_down_24 : decode cX11_down 24 = .ok (.invokevirtual 156, 3) := by decide +kernel
theorem dX11_down_27 : decode cX11_down 27 = .ok (.ifCond .ne 5, 3) := by decide +kernel
theorem dX11_down_30 : decode cX11_down 30 = .ok (.iload_n 1, 1) := by decide +kernel
theorem dX11_down_31 : decode cX11_down 31 = .ok (.ireturn, 1) := by decide +kernel
theorem dX11_gap_0 : decode cX11_gap 0 = .ok (.aload_n 0, 1) := by decide +kernel
theorem dX11_gap_1 : decode cX11_gap 1 = .ok (.getfield 58, 3) := by decide +kernel
theorem dX11_gap_4 : decode cX11_gap 4 = .ok (.aload_n 0, 1) := by decide +kernel
theorem dX11_gap_5 : decode cX11_gap 5 = .ok (.getfield 54, 3) := by decide +kernel
theorem dX11_gap_8 : decode cX11_gap 8 = .ok (.invokevirtual 230, 3) := by decide +kernel
theorem dX11_gap_11 : decode cX11_gap 11 = .ok (.iconst 0, 1) := by decide +kernel
theorem dX11_gap_12 : decode cX11_gap 12 = .ok (.istore_n 1, 1) := by decide +kernel
theorem dX11_gap_13 : decode cX11_gap 13 = .ok (.iload_n 1, 1) := by decide +kernel
theorem dX11_gap_14 : decode cX11_gap 14 = .ok (.bipush 60, 2) := by decide +kernel
theorem dX11_gap_16 : decode cX11_gap 16 = .ok (.if_icmp .gt 36, 3) := by decide +kernel
theorem dX11_gap_19 : decode cX11_gap 19 = .ok (.aload_n 0, 1) := by decide +kernel
theorem dX11_gap_20 : decode cX11_gap 20 = .ok (.getfield 58, 3) := by decide +kernel
theorem dX11_gap_23 : decode cX11_gap 23 = .ok (.invokevirtual 292, 3) := by decide +kernel
theorem dX11_gap_26 : decode cX11_gap 26 = .ok (.ifCond .ne 5, 3) := by decide +kernel
theorem dX11_gap_29 : decode cX11_gap 29 = .ok (.iload_n 1, 1) := by decide +kernel
theorem dX11_gap_30 : decode cX11_gap 30 = .ok (.ireturn, 1) := by decide +kernel
theorem dX11_handover_0 : decode cX11_handover 0 = .ok (.aload_n 0, 1) := by decide +kernel
theorem dX11_handover_1 : decode cX11_handover 1 = .ok (.getfield 58, 3) := by decide +kernel
theorem dX11_handover_4 : decode cX11_handover 4 = .ok (.aload_n 0, 1) := by decide +kernel
theorem dX11_handover_5 : decode cX11_handover 5 = .ok (.getfield 54, 3) := by decide +kernel
theorem dX11_handover_8 : decode cX11_handover 8 = .ok (.invokevirtual 230, 3) := by decide +kernel
theorem dX11_handover_11 : decode cX11_handover 11 = .ok (.aload_n 0, 1) := by decide +kernel
theorem dX11_handover_12 : decode cX11_handover 12 = .ok (.getfield 54, 3) := by decide +kernel
theorem dX11_handover_15 : decode cX11_handover 15 = .ok (.iconst 0, 1) := by decide +kernel
theorem dX11_handover_16 : decode cX11_handover 16 = .ok (.invokevirtual 180, 3) := by decide +kernel
theorem dX11_handover_19 : decode cX11_handover 19 = .ok (.istore_n 1, 1) := by decide +kernel
theorem dX11_handover_20 : decode cX11_handover 20 = .ok (.iconst 0, 1) := by decide +kernel
theorem dX11_handover_21 : decode cX11_handover 21 = .ok (.istore_n 2, 1) := by decide +kernel
theorem dX11_handover_22 : decode cX11_handover 22 = .ok (.iload_n 2, 1) := by decide +kernel
theorem dX11_handover_23 : decode cX11_handover 23 = .ok (.bipush 60, 2) := by decide +kernel
theorem dX11_handover_25 : decode cX11_handover 25 = .ok (.if_icmp .gt 59, 3) := by decide +kernel
theorem dX11_handover_28 : decode cX11_handover 28 = .ok (.iload_n 1, 1) := by decide +kernel
theorem dX11_handover_29 : decode cX11_handover 29 = .ok (.ifCond .ne 5, 3) := by decide +kernel
theorem dX11_handover_32 : decode cX11_handover 32 = .ok (.iload_n 2, 1) := by decide +kernel
theorem dX11_handover_33 : decode cX11_handover 33 = .ok (.ireturn, 1) := by decide +kernel
theorem dX5_giveBack_0 : decode cX5_giveBack 0 = .ok (.aload_n 0, 1) := by decide +kernel
theorem dX5_giveBack_1 : decode cX5_giveBack 1 = .ok (.getfield 18, 3) := by decide +kernel
theorem dX5_giveBack_4 : decode cX5_giveBack 4 = .ok (.ifCond .ne 5, 3) := by decide +kernel
theorem dX5_giveBack_7 : decode cX5_giveBack 7 = .ok (.iconst 0, 1) := by decide +kernel
theorem dX5_giveBack_8 : decode cX5_giveBack 8 = .ok (.ireturn, 1) := by decide +kernel
theorem dX11_undo_0 : decode cX11_undo 0 = .ok (.aload_n 0, 1) := by decide +kernel
theorem dX11_undo_1 : decode cX11_undo 1 = .ok (.getfield 26, 3) := by decide +kernel
theorem dX11_undo_4 : decode cX11_undo 4 = .ok (.aload_n 0, 1) := by decide +kernel
theorem dX11_undo_5 : decode cX11_undo 5 = .ok (.getfield 54, 3) := by decide +kernel
theorem dX11_undo_8 : decode cX11_undo 8 = .ok (.invokevirtual 226, 3) := by decide +kernel
theorem dX11_undo_11 : decode cX11_undo 11 = .ok (.ireturn, 1) := by decide +kernel
theorem dX9_append_0 : decode cX9_append 0 = .ok (.bipush 24, 2) := by decide +kernel
theorem dX9_append_2 : decode cX9_append 2 = .ok (.istore_n 2, 1) := by decide +kernel
theorem dX9_append_3 : decode cX9_append 3 = .ok (.iload_n 2, 1) := by decide +kernel
theorem dX9_append_4 : decode cX9_append 4 = .ok (.ifCond .lt 45, 3) := by decide +kernel
theorem dX9_append_7 : decode cX9_append 7 = .ok (.aload_n 0, 1) := by decide +kernel
theorem dX9_append_8 : decode cX9_append 8 = .ok (.getfield 25, 3) := by decide +kernel
theorem dX9_append_11 : decode cX9_append 11 = .ok (.sipush 2000, 3) := by decide +kernel
theorem dX9_append_14 : decode cX9_append 14 = .ok (.if_icmp .ge 29, 3) := by decide +kernel
theorem dX9_append_17 : decode cX9_append 17 = .ok (.aload_n 0, 1) := by decide +kernel
theorem dX9_append_18 : decode cX9_append 18 = .ok (.getfield 9, 3) := by decide +kernel
theorem dX9_append_21 : decode cX9_append 21 = .ok (.aload_n 0, 1) := by decide +kernel
theorem dX9_append_22 : decode cX9_append 22 = .ok (.getfield 25, 3) := by decide +kernel
theorem dX9_append_25 : decode cX9_append 25 = .ok (.iload_n 1, 1) := by decide +kernel
theorem dX9_append_26 : decode cX9_append 26 = .ok (.iload_n 2, 1) := by decide +kernel
theorem dX9_append_27 : decode cX9_append 27 = .ok (.iushr, 1) := by decide +kernel
theorem dX9_append_28 : decode cX9_append 28 = .ok (.sipush 255, 3) := by decide +kernel
theorem dX9_append_31 : decode cX9_append 31 = .ok (.iand, 1) := by decide +kernel
theorem dX9_append_32 : decode cX9_append 32 = .ok (.iastore, 1) := by decide +kernel
theorem dX9_append_33 : decode cX9_append 33 = .ok (.aload_n 0, 1) := by decide +kernel
theorem dX9_append_34 : decode cX9_append 34 = .ok (.dup, 1) := by decide +kernel
theorem dX9_append_35 : decode cX9_append 35 = .ok (.getfield 25, 3) := by decide +kernel
theorem dX9_append_38 : decode cX9_append 38 = .ok (.iconst 1, 1) := by decide +kernel
theorem dX9_append_39 : decode cX9_append 39 = .ok (.iadd, 1) := by decide +kernel
theorem dX9_append_40 : decode cX9_append 40 = .ok (.putfield 25, 3) := by decide +kernel
theorem dX9_append_43 : decode cX9_append 43 = .ok (.iinc 2 (-8), 3) := by decide +kernel
theorem dX9_append_46 : decode cX9_append 46 = .ok (.goto (-43), 3) := by decide +kernel
theorem dX9_append_49 : decode cX9_append 49 = .ok (.return_, 1) := by decide +kernel
theorem dX11_feed_0 : decode cX11_feed 0 = .ok (.aload_n 0, 1) := by decide +kernel
theorem dX11_feed_1 : decode cX11_feed 1 = .ok (.getfield 10, 3) := by decide +kernel
theorem dX11_feed_4 : decode cX11_feed 4 = .ok (.getfield 89, 3) := by decide +kernel
theorem dX11_feed_7 : decode cX11_feed 7 = .ok (.getfield 93, 3) := by decide +kernel
theorem dX11_feed_10 : decode cX11_feed 10 = .ok (.bipush 20, 2) := by decide +kernel
theorem dX11_feed_12 : decode cX11_feed 12 = .ok (.iadd, 1) := by decide +kernel
theorem dX11_feed_13 : decode cX11_feed 13 = .ok (.sipush 2000, 3) := by decide +kernel
theorem dX11_feed_16 : decode cX11_feed 16 = .ok (.if_icmp .le 5, 3) := by decide +kernel
theorem dX11_feed_21 : decode cX11_feed 21 = .ok (.aload_n 0, 1) := by decide +kernel
theorem dX11_feed_22 : decode cX11_feed 22 = .ok (.getfield 10, 3) := by decide +kernel
theorem dX11_feed_25 : decode cX11_feed 25 = .ok (.getfield 89, 3) := by decide +kernel
theorem dX11_feed_28 : decode cX11_feed 28 = .ok (.iload_n 1, 1) := by decide +kernel
theorem dX11_feed_29 : decode cX11_feed 29 = .ok (.invokevirtual 99, 3) := by decide +kernel
theorem dX11_feed_32 : decode cX11_feed 32 = .ok (.aload_n 0, 1) := by decide +kernel
theorem dX11_feed_33 : decode cX11_feed 33 = .ok (.getfield 10, 3) := by decide +kernel
theorem dX11_feed_36 : decode cX11_feed 36 = .ok (.getfield 89, 3) := by decide +kernel
theorem dX11_feed_39 : decode cX11_feed 39 = .ok (.iload_n 2, 1) := by decide +kernel
theorem dX11_feed_40 : decode cX11_feed 40 = .ok (.invokevirtual 99, 3) := by decide +kernel
theorem dX11_feed_43 : decode cX11_feed 43 = .ok (.aload_n 0, 1) := by decide +kernel
theorem dX11_feed_44 : decode cX11_feed 44 = .ok (.getfield 10, 3) := by decide +kernel
theorem dX11_feed_47 : decode cX11_feed 47 = .ok (.getfield 89, 3) := by decide +kernel
theorem dX11_feed_50 : decode cX11_feed 50 = .ok (.iload_n 3, 1) := by decide +kernel
theorem dX11_feed_51 : decode cX11_feed 51 = .ok (.invokevirtual 99, 3) := by decide +kernel
theorem dX11_feed_54 : decode cX11_feed 54 = .ok (.aload_n 0, 1) := by decide +kernel
theorem dX11_feed_55 : decode cX11_feed 55 = .ok (.getfield 10, 3) := by decide +kernel
theorem dX11_feed_58 : decode cX11_feed 58 = .ok (.getfield 89, 3) := by decide +kernel
theorem dX11_feed_61 : decode cX11_feed 61 = .ok (.iload 4, 2) := by decide +kernel
theorem dX11_feed_63 : decode cX11_feed 63 = .ok (.invokevirtual 99, 3) := by decide +kernel
theorem dX11_feed_66 : decode cX11_feed 66 = .ok (.aload_n 0, 1) := by decide +kernel
theorem dX11_feed_67 : decode cX11_feed 67 = .ok (.getfield 10, 3) := by decide +kernel
theorem dX11_feed_70 : decode cX11_feed 70 = .ok (.getfield 89, 3) := by decide +kernel
theorem dX11_feed_73 : decode cX11_feed 73 = .ok (.iload 5, 2) := by decide +kernel
theorem dX11_feed_75 : decode cX11_feed 75 = .ok (.invokevirtual 99, 3) := by decide +kernel
theorem dX11_feed_78 : decode cX11_feed 78 = .ok (.aload_n 0, 1) := by decide +kernel
theorem dX11_feed_79 : decode cX11_feed 79 = .ok (.getfield 10, 3) := by decide +kernel
theorem dX11_feed_82 : decode cX11_feed 82 = .ok (.getfield 89, 3) := by decide +kernel
theorem dX11_feed_85 : decode cX11_feed 85 = .ok (.getfield 93, 3) := by decide +kernel
theorem dX11_feed_88 : decode cX11_feed 88 = .ok (.ireturn, 1) := by decide +kernel
theorem dX11_back_0 : decode cX11_back 0 = .ok (.iload_n 1, 1) := by decide +kernel
theorem dX11_back_1 : decode cX11_back 1 = .ok (.ifCond .lt 17, 3) := by decide +kernel
theorem dX11_back_4 : decode cX11_back 4 = .ok (.iload_n 1, 1) := by decide +kernel
theorem dX11_back_5 : decode cX11_back 5 = .ok (.aload_n 0, 1) := by decide +kernel
theorem dX11_back_6 : decode cX11_back 6 = .ok (.getfield 10, 3) := by decide +kernel
theorem dX11_back_9 : decode cX11_back 9 = .ok (.getfield 89, 3) := by decide +kernel
theorem dX11_back_12 : decode cX11_back 12 = .ok (.getfield 93, 3) := by decide +kernel
theorem dX11_back_15 : decode cX11_back 15 = .ok (.if_icmp .le 5, 3) := by decide +kernel
theorem dX11_back_20 : decode cX11_back 20 = .ok (.aload_n 0, 1) := by decide +kernel
theorem dX11_back_21 : decode cX11_back 21 = .ok (.getfield 10, 3) := by decide +kernel
theorem dX11_back_24 : decode cX11_back 24 = .ok (.getfield 89, 3) := by decide +kernel
theorem dX11_back_27 : decode cX11_back 27 = .ok (.dup, 1) := by decide +kernel
theorem dX11_back_28 : decode cX11_back 28 = .ok (.getfield 93, 3) := by decide +kernel
theorem dX11_back_31 : decode cX11_back 31 = .ok (.iload_n 1, 1) := by decide +kernel
theorem dX11_back_32 : decode cX11_back 32 = .ok (.isub, 1) := by decide +kernel
theorem dX11_back_33 : decode cX11_back 33 = .ok (.putfield 93, 3) := by decide +kernel
theorem dX11_back_36 : decode cX11_back 36 = .ok (.aload_n 0, 1) := by decide +kernel
theorem dX11_back_37 : decode cX11_back 37 = .ok (.getfield 10, 3) := by decide +kernel
theorem dX11_back_40 : decode cX11_back 40 = .ok (.getfield 89, 3) := by decide +kernel
theorem dX11_back_43 : decode cX11_back 43 = .ok (.getfield 93, 3) := by decide +kernel
theorem dX11_back_46 : decode cX11_back 46 = .ok (.ireturn, 1) := by decide +kernel
theorem dX11_back_18 : decode cX11_back 18 = .ok (.iconst (-1), 1) := by decide +kernel
theorem dX11_back_19 : decode cX11_back 19 = .ok (.ireturn, 1) := by decide +kernel
theorem dX2_add_0 : decode cX2_add 0 = .ok (.aload_n 0, 1) := by decide +kernel
theorem dX2_add_1 : decode cX2_add 1 = .ok (.getfield 19, 3) := by decide +kernel
theorem dX2_add_4 : decode cX2_add 4 = .ok (.bipush 20, 2) := by decide +kernel
theorem dX2_add_6 : decode cX2_add 6 = .ok (.if_icmp .lt 5, 3) := by decide +kernel
theorem dX2_add_11 : decode cX2_add 11 = .ok (.aload_n 0, 1) := by decide +kernel
theorem dX2_add_12 : decode cX2_add 12 = .ok (.getfield 9, 3) := by decide +kernel
theorem dX2_add_15 : decode cX2_add 15 = .ok (.aload_n 0, 1) := by decide +kernel
theorem dX2_add_16 : decode cX2_add 16 = .ok (.getfield 19, 3) := by decide +kernel
theorem dX2_add_19 : decode cX2_add 19 = .ok (.iload_n 1, 1) := by decide +kernel
theorem dX2_add_20 : decode cX2_add 20 = .ok (.iastore, 1) := by decide +kernel
theorem dX2_add_21 : decode cX2_add 21 = .ok (.aload_n 0, 1) := by decide +kernel
theorem dX2_add_22 : decode cX2_add 22 = .ok (.getfield 15, 3) := by decide +kernel
theorem dX2_add_25 : decode cX2_add 25 = .ok (.aload_n 0, 1) := by decide +kernel
theorem dX2_add_26 : decode cX2_add 26 = .ok (.getfield 19, 3) := by decide +kernel
theorem dX2_add_29 : decode cX2_add 29 = .ok (.iload_n 2, 1) := by decide +kernel
theorem dX2_add_30 : decode cX2_add 30 = .ok (.bastore, 1) := by decide +kernel
theorem dX2_add_31 : decode cX2_add 31 = .ok (.aload_n 0, 1) := by decide +kernel
theorem dX2_add_32 : decode cX2_add 32 = .ok (.dup, 1) := by decide +kernel
theorem dX2_add_33 : decode cX2_add 33 = .ok (.getfield 19, 3) := by decide +kernel
theorem dX2_add_36 : decode cX2_add 36 = .ok (.iconst 1, 1) := by decide +kernel
theorem dX2_add_37 : decode cX2_add 37 = .ok (.iadd, 1) := by decide +kernel
theorem dX2_add_38 : decode cX2_add 38 = .ok (.putfield 19, 3) := by decide +kernel
theorem dX2_add_41 : decode cX2_add 41 = .ok (.aload_n 0, 1) := by decide +kernel
theorem dX2_add_42 : decode cX2_add 42 = .ok (.getfield 19, 3) := by decide +kernel
theorem dX2_add_45 : decode cX2_add 45 = .ok (.iconst 1, 1) := by decide +kernel
theorem dX2_add_46 : decode cX2_add 46 = .ok (.isub, 1) := by decide +kernel
theorem dX2_add_47 : decode cX2_add 47 = .ok (.ireturn, 1) := by decide +kernel
theorem dX11_tell_0 : decode cX11_tell 0 = .ok (.iload_n 1, 1) := by decide +kernel
theorem dX11_tell_1 : decode cX11_tell 1 = .ok (.ifCond .lt 9, 3) := by decide +kernel
theorem dX11_tell_4 : decode cX11_tell 4 = .ok (.iload_n 1, 1) := by decide +kernel
theorem dX11_tell_5 : decode cX11_tell 5 = .ok (.bipush 40, 2) := by decide +kernel
theorem dX11_tell_7 : decode cX11_tell 7 = .ok (.if_icmp .le 5, 3) := by decide +kernel
theorem dX11_tell_12 : decode cX11_tell 12 = .ok (.aload_n 0, 1) := by decide +kernel
theorem dX11_tell_13 : decode cX11_tell 13 = .ok (.getfield 33, 3) := by decide +kernel
theorem dX11_tell_16 : decode cX11_tell 16 = .ok (.iload_n 1, 1) := by decide +kernel
theorem dX11_tell_17 : decode cX11_tell 17 = .ok (.iload_n 2, 1) := by decide +kernel
theorem dX11_tell_18 : decode cX11_tell 18 = .ok (.invokevirtual 322, 3) := by decide +kernel
theorem dX11_tell_21 : decode cX11_tell 21 = .ok (.ireturn, 1) := by decide +kernel
theorem dX11_tell_10 : decode cX11_tell 10 = .ok (.iconst (-1), 1) := by decide +kernel
theorem dX11_tell_11 : decode cX11_tell 11 = .ok (.ireturn, 1) := by decide +kernel
theorem dX11_slotsHeld_0 : decode cX11_slotsHeld 0 = .ok (.iconst 0, 1) := by decide +kernel
theorem dX11_slotsHeld_1 : decode cX11_slotsHeld 1 = .ok (.istore_n 1, 1) := by decide +kernel
theorem dX11_slotsHeld_2 : decode cX11_slotsHeld 2 = .ok (.iconst 0, 1) := by decide +kernel
theorem dX11_slotsHeld_3 : decode cX11_slotsHeld 3 = .ok (.istore_n 2, 1) := by decide +kernel
theorem dX11_slotsHeld_4 : decode cX11_slotsHeld 4 = .ok (.iload_n 2, 1) := by decide +kernel
theorem dX11_slotsHeld_5 : decode cX11_slotsHeld 5 = .ok (.iconst 3, 1) := by decide +kernel
theorem dX11_slotsHeld_6 : decode cX11_slotsHeld 6 = .ok (.if_icmp .ge 21, 3) := by decide +kernel
theorem dX11_slotsHeld_9 : decode cX11_slotsHeld 9 = .ok (.aload_n 0, 1) := by decide +kernel
theorem dX11_slotsHeld_10 : decode cX11_slotsHeld 10 = .ok (.getfield 65, 3) := by decide +kernel
theorem dX11_slotsHeld_13 : decode cX11_slotsHeld 13 = .ok (.iload_n 2, 1) := by decide +kernel
theorem dX11_slotsHeld_14 : decode cX11_slotsHeld 14 = .ok (.baload, 1) := by decide +kernel
theorem dX11_slotsHeld_15 : decode cX11_slotsHeld 15 = .ok (.ifCond .eq 6, 3) := by decide +kernel
theorem dX11_slotsHeld_21 : decode cX11_slotsHeld 21 = .ok (.iinc 2 1, 3) := by decide +kernel
theorem dX11_slotsHeld_24 : decode cX11_slotsHeld 24 = .ok (.goto (-20), 3) := by decide +kernel
theorem dX11_slotsHeld_27 : decode cX11_slotsHeld 27 = .ok (.iload_n 1, 1) := by decide +kernel
theorem dX11_slotsHeld_28 : decode cX11_slotsHeld 28 = .ok (.ireturn, 1) := by decide +kernel
theorem dX11_weightsOf_0 : decode cX11_weightsOf 0 = .ok (.iconst 0, 1) := by decide +kernel
theorem dX11_weightsOf_1 : decode cX11_weightsOf 1 = .ok (.istore_n 2, 1) := by decide +kernel
theorem dX11_weightsOf_2 : decode cX11_weightsOf 2 = .ok (.iconst 0, 1) := by decide +kernel
theorem dX11_weightsOf_3 : decode cX11_weightsOf 3 = .ok (.istore_n 3, 1) := by decide +kernel
theorem dX11_weightsOf_4 : decode cX11_weightsOf 4 = .ok (.iload_n 3, 1) := by decide +kernel
theorem dX11_weightsOf_5 : decode cX11_weightsOf 5 = .ok (.aload_n 0, 1) := by decide +kernel
theorem dX11_weightsOf_6 : decode cX11_weightsOf 6 = .ok (.getfield 82, 3) := by decide +kernel
theorem dX11_weightsOf_9 : decode cX11_weightsOf 9 = .ok (.getfield 168, 3) := by decide +kernel
theorem dX11_weightsOf_12 : decode cX11_weightsOf 12 = .ok (.if_icmp .ge 30, 3) := by decide +kernel
theorem dX11_weightsOf_42 : decode cX11_weightsOf 42 = .ok (.iload_n 2, 1) := by decide +kernel
theorem dX11_weightsOf_43 : decode cX11_weightsOf 43 = .ok (.ireturn, 1) := by decide +kernel
theorem dX11_count_0 : decode cX11_count 0 = .ok (.iload_n 1, 1) := by decide +kernel
theorem dX11_count_1 : decode cX11_count 1 = .ok (.tableswitch 264 0 17 #[87, 95, 103, 111, 119, 128, 137, 145, 153, 161, 185, 197, 208, 216, 224, 229, 242, 255], 87) := by decide +kernel
theorem dX11_count_88 : decode cX11_count 88 = .ok (.aload_n 0, 1) := by decide +kernel
theorem dX11_count_89 : decode cX11_count 89 = .ok (.getfield 82, 3) := by decide +kernel
theorem dX11_count_92 : decode cX11_count 92 = .ok (.getfield 168, 3) := by decide +kernel
theorem dX11_count_95 : decode cX11_count 95 = .ok (.ireturn, 1) := by decide +kernel
theorem dX11_count_96 : decode cX11_count 96 = .ok (.aload_n 0, 1) := by decide +kernel
theorem dX11_count_97 : decode cX11_count 97 = .ok (.getfield 82, 3) := by decide +kernel
theorem dX11_count_100 : decode cX11_count 100 = .ok (.getfield 171, 3) := by decide +kernel
theorem dX11_count_103 : decode cX11_count 103 = .ok (.ireturn, 1) := by decide +kernel
theorem dX11_count_104 : decode cX11_count 104 = .ok (.aload_n 0, 1) := by decide +kernel
theorem dX11_count_105 : decode cX11_count 105 = .ok (.getfield 54, 3) := by decide +kernel
theorem dX11_count_108 : decode cX11_count 108 = .ok (.getfield 174, 3) := by decide +kernel
theorem dX11_count_111 : decode cX11_count 111 = .ok (.ireturn, 1) := by decide +kernel
theorem dX11_count_112 : decode cX11_count 112 = .ok (.aload_n 0, 1) := by decide +kernel
theorem dX11_count_113 : decode cX11_count 113 = .ok (.getfield 54, 3) := by decide +kernel
theorem dX11_count_116 : decode cX11_count 116 = .ok (.getfield 177, 3) := by decide +kernel
theorem dX11_count_119 : decode cX11_count 119 = .ok (.ireturn, 1) := by decide +kernel
theorem dX11_count_120 : decode cX11_count 120 = .ok (.aload_n 0, 1) := by decide +kernel
theorem dX11_count_121 : decode cX11_count 121 = .ok (.getfield 54, 3) := by decide +kernel
theorem dX11_count_124 : decode cX11_count 124 = .ok (.iconst 0, 1) := by decide +kernel
theorem dX11_count_125 : decode cX11_count 125 = .ok (.invokevirtual 180, 3) := by decide +kernel
theorem dX11_count_128 : decode cX11_count 128 = .ok (.ireturn, 1) := by decide +kernel
theorem dX11_count_129 : decode cX11_count 129 = .ok (.aload_n 0, 1) := by decide +kernel
theorem dX11_count_130 : decode cX11_count 130 = .ok (.getfield 54, 3) := by decide +kernel
theorem dX11_count_133 : decode cX11_count 133 = .ok (.iconst 2, 1) := by decide +kernel
theorem dX11_count_134 : decode cX11_count 134 = .ok (.invokevirtual 180, 3) := by decide +kernel
theorem dX11_count_137 : decode cX11_count 137 = .ok (.ireturn, 1) := by decide +kernel
theorem dX11_count_138 : decode cX11_count 138 = .ok (.aload_n 0, 1) := by decide +kernel
theorem dX11_count_139 : decode cX11_count 139 = .ok (.getfield 54, 3) := by decide +kernel
theorem dX11_count_142 : decode cX11_count 142 = .ok (.getfield 184, 3) := by decide +kernel
theorem dX11_count_145 : decode cX11_count 145 = .ok (.ireturn, 1) := by decide +kernel
theorem dX11_count_146 : decode cX11_count 146 = .ok (.aload_n 0, 1) := by decide +kernel
theorem dX11_count_147 : decode cX11_count 147 = .ok (.getfield 54, 3) := by decide +kernel
theorem dX11_count_150 : decode cX11_count 150 = .ok (.getfield 187, 3) := by decide +kernel
theorem dX11_count_153 : decode cX11_count 153 = .ok (.ireturn, 1) := by decide +kernel
theorem dX11_count_154 : decode cX11_count 154 = .ok (.aload_n 0, 1) := by decide +kernel
theorem dX11_count_155 : decode cX11_count 155 = .ok (.getfield 54, 3) := by decide +kernel
theorem dX11_count_158 : decode cX11_count 158 = .ok (.getfield 190, 3) := by decide +kernel
theorem dX11_count_161 : decode cX11_count 161 = .ok (.ireturn, 1) := by decide +kernel
theorem dX11_count_162 : decode cX11_count 162 = .ok (.aload_n 0, 1) := by decide +kernel
theorem dX11_count_163 : decode cX11_count 163 = .ok (.getfield 54, 3) := by decide +kernel
theorem dX11_count_166 : decode cX11_count 166 = .ok (.getfield 193, 3) := by decide +kernel
theorem dX11_count_169 : decode cX11_count 169 = .ok (.iconst (-1), 1) := by decide +kernel
theorem dX11_count_170 : decode cX11_count 170 = .ok (.if_icmp .ne 8, 3) := by decide +kernel
theorem dX11_count_173 : decode cX11_count 173 = .ok (.bipush (-2), 2) := by decide +kernel
theorem dX11_count_175 : decode cX11_count 175 = .ok (.goto 10, 3) := by decide +kernel
theorem dX11_count_185 : decode cX11_count 185 = .ok (.ireturn, 1) := by decide +kernel
theorem dX11_count_186 : decode cX11_count 186 = .ok (.aload_n 0, 1) := by decide +kernel
theorem dX11_count_187 : decode cX11_count 187 = .ok (.getfield 54, 3) := by decide +kernel
theorem dX11_count_190 : decode cX11_count 190 = .ok (.aload_n 0, 1) := by decide +kernel
theorem dX11_count_191 : decode cX11_count 191 = .ok (.getfield 82, 3) := by decide +kernel
theorem dX11_count_194 : decode cX11_count 194 = .ok (.invokevirtual 196, 3) := by decide +kernel
theorem dX11_count_197 : decode cX11_count 197 = .ok (.ireturn, 1) := by decide +kernel
theorem dX11_count_198 : decode cX11_count 198 = .ok (.aload_n 0, 1) := by decide +kernel
theorem dX11_count_199 : decode cX11_count 199 = .ok (.getfield 10, 3) := by decide +kernel
theorem dX11_count_202 : decode cX11_count 202 = .ok (.getfield 89, 3) := by decide +kernel
theorem dX11_count_205 : decode cX11_count 205 = .ok (.getfield 93, 3) := by decide +kernel
theorem dX11_count_208 : decode cX11_count 208 = .ok (.ireturn, 1) := by decide +kernel
theorem dX11_count_209 : decode cX11_count 209 = .ok (.aload_n 0, 1) := by decide +kernel
theorem dX11_count_210 : decode cX11_count 210 = .ok (.getfield 26, 3) := by decide +kernel
theorem dX11_count_213 : decode cX11_count 213 = .ok (.getfield 199, 3) := by decide +kernel
theorem dX11_count_216 : decode cX11_count 216 = .ok (.ireturn, 1) := by decide +kernel
theorem dX11_count_217 : decode cX11_count 217 = .ok (.aload_n 0, 1) := by decide +kernel
theorem dX11_count_218 : decode cX11_count 218 = .ok (.getfield 33, 3) := by decide +kernel
theorem dX11_count_221 : decode cX11_count 221 = .ok (.getfield 117, 3) := by decide +kernel
theorem dX11_count_224 : decode cX11_count 224 = .ok (.ireturn, 1) := by decide +kernel
theorem dX11_count_225 : decode cX11_count 225 = .ok (.aload_n 0, 1) := by decide +kernel
theorem dX11_count_226 : decode cX11_count 226 = .ok (.invokevirtual 200, 3) := by decide +kernel
theorem dX11_count_229 : decode cX11_count 229 = .ok (.ireturn, 1) := by decide +kernel
theorem dX11_count_230 : decode cX11_count 230 = .ok (.aload_n 0, 1) := by decide +kernel
theorem dX11_count_231 : decode cX11_count 231 = .ok (.aload_n 0, 1) := by decide +kernel
theorem dX11_count_232 : decode cX11_count 232 = .ok (.getfield 54, 3) := by decide +kernel
theorem dX11_count_235 : decode cX11_count 235 = .ok (.iconst 0, 1) := by decide +kernel
theorem dX11_count_236 : decode cX11_count 236 = .ok (.invokevirtual 180, 3) := by decide +kernel
theorem dX11_count_239 : decode cX11_count 239 = .ok (.invokevirtual 203, 3) := by decide +kernel
theorem dX11_count_242 : decode cX11_count 242 = .ok (.ireturn, 1) := by decide +kernel
theorem dX11_count_243 : decode cX11_count 243 = .ok (.aload_n 0, 1) := by decide +kernel
theorem dX11_count_244 : decode cX11_count 244 = .ok (.aload_n 0, 1) := by decide +kernel
theorem dX11_count_245 : decode cX11_count 245 = .ok (.getfield 54, 3) := by decide +kernel
theorem dX11_count_248 : decode cX11_count 248 = .ok (.iconst 2, 1) := by decide +kernel
theorem dX11_count_249 : decode cX11_count 249 = .ok (.invokevirtual 180, 3) := by decide +kernel
theorem dX11_count_252 : decode cX11_count 252 = .ok (.invokevirtual 203, 3) := by decide +kernel
theorem dX11_count_255 : decode cX11_count 255 = .ok (.ireturn, 1) := by decide +kernel
theorem dX11_count_256 : decode cX11_count 256 = .ok (.aload_n 0, 1) := by decide +kernel
theorem dX11_count_257 : decode cX11_count 257 = .ok (.getfield 54, 3) := by decide +kernel
theorem dX11_count_260 : decode cX11_count 260 = .ok (.iconst 1, 1) := by decide +kernel
theorem dX11_count_261 : decode cX11_count 261 = .ok (.invokevirtual 180, 3) := by decide +kernel
theorem dX11_count_264 : decode cX11_count 264 = .ok (.ireturn, 1) := by decide +kernel
theorem dX11_count_265 : decode cX11_count 265 = .ok (.iconst (-1), 1) := by decide +kernel
theorem dX11_count_266 : decode cX11_count 266 = .ok (.ireturn, 1) := by decide +kernel
theorem dX11_isHeight_0 : decode cX11_isHeight 0 = .ok (.iload_n 0, 1) := by decide +kernel
theorem dX11_isHeight_1 : decode cX11_isHeight 1 = .ok (.ifCond .lt 13, 3) := by decide +kernel
theorem dX11_isHeight_4 : decode cX11_isHeight 4 = .ok (.iload_n 0, 1) := by decide +kernel
theorem dX11_isHeight_5 : decode cX11_isHeight 5 = .ok (.bipush 9, 2) := by decide +kernel
theorem dX11_isHeight_7 : decode cX11_isHeight 7 = .ok (.if_icmp .gt 7, 3) := by decide +kernel
theorem dX11_isHeight_10 : decode cX11_isHeight 10 = .ok (.iconst 1, 1) := by decide +kernel
theorem dX11_isHeight_11 : decode cX11_isHeight 11 = .ok (.goto 4, 3) := by decide +kernel
theorem dX11_isHeight_15 : decode cX11_isHeight 15 = .ok (.ireturn, 1) := by decide +kernel
theorem dX11_isHeight_14 : decode cX11_isHeight 14 = .ok (.iconst 0, 1) := by decide +kernel
theorem dX11_set_0 : decode cX11_set 0 = .ok (.iload_n 1, 1) := by decide +kernel
theorem dX11_set_1 : decode cX11_set 1 = .ok (.invokestatic 153, 3) := by decide +kernel
theorem dX11_set_4 : decode cX11_set 4 = .ok (.ifCond .eq 14, 3) := by decide +kernel
theorem dX11_set_7 : decode cX11_set 7 = .ok (.aload_n 0, 1) := by decide +kernel
theorem dX11_set_8 : decode cX11_set 8 = .ok (.getfield 54, 3) := by decide +kernel
theorem dX11_set_11 : decode cX11_set 11 = .ok (.getfield 217, 3) := by decide +kernel
theorem dX11_set_14 : decode cX11_set 14 = .ok (.iload_n 1, 1) := by decide +kernel
theorem dX11_set_15 : decode cX11_set 15 = .ok (.if_icmp .ne 5, 3) := by decide +kernel
theorem dX11_set_20 : decode cX11_set 20 = .ok (.aload_n 0, 1) := by decide +kernel
theorem dX11_set_21 : decode cX11_set 21 = .ok (.getfield 26, 3) := by decide +kernel
theorem dX11_set_24 : decode cX11_set 24 = .ok (.aload_n 0, 1) := by decide +kernel
theorem dX11_set_25 : decode cX11_set 25 = .ok (.getfield 54, 3) := by decide +kernel
theorem dX11_set_28 : decode cX11_set 28 = .ok (.invokevirtual 206, 3) := by decide +kernel
theorem dX11_set_31 : decode cX11_set 31 = .ok (.aload_n 0, 1) := by decide +kernel
theorem dX11_set_32 : decode cX11_set 32 = .ok (.getfield 54, 3) := by decide +kernel
theorem dX11_set_35 : decode cX11_set 35 = .ok (.iload_n 1, 1) := by decide +kernel
theorem dX11_set_36 : decode cX11_set 36 = .ok (.putfield 217, 3) := by decide +kernel
theorem dX11_set_39 : decode cX11_set 39 = .ok (.iconst 1, 1) := by decide +kernel
theorem dX11_set_40 : decode cX11_set 40 = .ok (.ireturn, 1) := by decide +kernel
theorem dX11_set_18 : decode cX11_set 18 = .ok (.iconst 0, 1) := by decide +kernel
theorem dX11_set_19 : decode cX11_set 19 = .ok (.ireturn, 1) := by decide +kernel
theorem dX11_beats_0 : decode cX11_beats 0 = .ok (.iload_n 1, 1) := by decide +kernel
theorem dX11_beats_1 : decode cX11_beats 1 = .ok (.ifCond .lt 9, 3) := by decide +kernel
theorem dX11_beats_4 : decode cX11_beats 4 = .ok (.iload_n 1, 1) := by decide +kernel
theorem dX11_beats_5 : decode cX11_beats 5 = .ok (.bipush 60, 2) := by decide +kernel
theorem dX11_beats_7 : decode cX11_beats 7 = .ok (.if_icmp .le 5, 3) := by decide +kernel
theorem dX11_beats_12 : decode cX11_beats 12 = .ok (.iload_n 1, 1) := by decide +kernel
theorem dX11_beats_13 : decode cX11_beats 13 = .ok (.ifCond .le 37, 3) := by decide +kernel
theorem dX11_beats_50 : decode cX11_beats 50 = .ok (.aload_n 0, 1) := by decide +kernel
theorem dX11_beats_51 : decode cX11_beats 51 = .ok (.getfield 54, 3) := by decide +kernel
theorem dX11_beats_54 : decode cX11_beats 54 = .ok (.getfield 174, 3) := by decide +kernel
theorem dX11_beats_57 : decode cX11_beats 57 = .ok (.ireturn, 1) := by decide +kernel
theorem dX11_beats_16 : decode cX11_beats 16 = .ok (.aload_n 0, 1) := by decide +kernel
theorem dX11_beats_17 : decode cX11_beats 17 = .ok (.getfield 26, 3) := by decide +kernel
theorem dX11_beats_20 : decode cX11_beats 20 = .ok (.aload_n 0, 1) := by decide +kernel
theorem dX11_beats_21 : decode cX11_beats 21 = .ok (.getfield 54, 3) := by decide +kernel
theorem dX11_beats_24 : decode cX11_beats 24 = .ok (.invokevirtual 206, 3) := by decide +kernel
theorem dX11_beats_27 : decode cX11_beats 27 = .ok (.aload_n 0, 1) := by decide +kernel
theorem dX11_beats_28 : decode cX11_beats 28 = .ok (.getfield 19, 3) := by decide +kernel
theorem dX11_beats_31 : decode cX11_beats 31 = .ok (.aload_n 0, 1) := by decide +kernel
theorem dX11_beats_32 : decode cX11_beats 32 = .ok (.getfield 82, 3) := by decide +kernel
theorem dX11_beats_35 : decode cX11_beats 35 = .ok (.aload_n 0, 1) := by decide +kernel
theorem dX11_beats_36 : decode cX11_beats 36 = .ok (.getfield 54, 3) := by decide +kernel
theorem dX11_beats_39 : decode cX11_beats 39 = .ok (.iload_n 1, 1) := by decide +kernel
theorem dX11_beats_40 : decode cX11_beats 40 = .ok (.aload_n 0, 1) := by decide +kernel
theorem dX11_beats_41 : decode cX11_beats 41 = .ok (.getfield 82, 3) := by decide +kernel
theorem dX11_beats_44 : decode cX11_beats 44 = .ok (.getfield 220, 3) := by decide +kernel
theorem dX11_beats_47 : decode cX11_beats 47 = .ok (.invokevirtual 223, 3) := by decide +kernel
theorem dX11_beats_10 : decode cX11_beats 10 = .ok (.iconst (-1), 1) := by decide +kernel
theorem dX11_beats_11 : decode cX11_beats 11 = .ok (.ireturn, 1) := by decide +kernel
theorem dX11_hold_0 : decode cX11_hold 0 = .ok (.iload_n 1, 1) := by decide +kernel
theorem dX11_hold_1 : decode cX11_hold 1 = .ok (.ifCond .lt 8, 3) := by decide +kernel
theorem dX11_hold_4 : decode cX11_hold 4 = .ok (.iload_n 1, 1) := by decide +kernel
theorem dX11_hold_5 : decode cX11_hold 5 = .ok (.iconst 3, 1) := by decide +kernel
theorem dX11_hold_6 : decode cX11_hold 6 = .ok (.if_icmp .lt 5, 3) := by decide +kernel
theorem dX11_hold_11 : decode cX11_hold 11 = .ok (.aload_n 0, 1) := by decide +kernel
theorem dX11_hold_12 : decode cX11_hold 12 = .ok (.getfield 61, 3) := by decide +kernel
theorem dX11_hold_15 : decode cX11_hold 15 = .ok (.iload_n 1, 1) := by decide +kernel
theorem dX11_hold_16 : decode cX11_hold 16 = .ok (.aaload, 1) := by decide +kernel
theorem dX11_hold_17 : decode cX11_hold 17 = .ok (.aload_n 0, 1) := by decide +kernel
theorem dX11_hold_18 : decode cX11_hold 18 = .ok (.getfield 54, 3) := by decide +kernel
theorem dX11_hold_21 : decode cX11_hold 21 = .ok (.invokevirtual 230, 3) := by decide +kernel
theorem dX11_hold_24 : decode cX11_hold 24 = .ok (.aload_n 0, 1) := by decide +kernel
theorem dX11_hold_25 : decode cX11_hold 25 = .ok (.getfield 65, 3) := by decide +kernel
theorem dX11_hold_28 : decode cX11_hold 28 = .ok (.iload_n 1, 1) := by decide +kernel
theorem dX11_hold_29 : decode cX11_hold 29 = .ok (.iconst 1, 1) := by decide +kernel
theorem dX11_hold_30 : decode cX11_hold 30 = .ok (.bastore, 1) := by decide +kernel
theorem dX11_hold_31 : decode cX11_hold 31 = .ok (.iconst 1, 1) := by decide +kernel
theorem dX11_hold_32 : decode cX11_hold 32 = .ok (.ireturn, 1) := by decide +kernel
theorem dX11_restore_0 : decode cX11_restore 0 = .ok (.iload_n 1, 1) := by decide +kernel
theorem dX11_restore_1 : decode cX11_restore 1 = .ok (.ifCond .lt 17, 3) := by decide +kernel
theorem dX11_restore_4 : decode cX11_restore 4 = .ok (.iload_n 1, 1) := by decide +kernel
theorem dX11_restore_5 : decode cX11_restore 5 = .ok (.iconst 3, 1) := by decide +kernel
theorem dX11_restore_6 : decode cX11_restore 6 = .ok (.if_icmp .ge 12, 3) := by decide +kernel
theorem dX11_restore_9 : decode cX11_restore 9 = .ok (.aload_n 0, 1) := by decide +kernel
theorem dX11_restore_10 : decode cX11_restore 10 = .ok (.getfield 65, 3) := by decide +kernel
theorem dX11_restore_13 : decode cX11_restore 13 = .ok (.iload_n 1, 1) := by decide +kernel
theorem dX11_restore_14 : decode cX11_restore 14 = .ok (.baload, 1) := by decide +kernel
theorem dX11_restore_15 : decode cX11_restore 15 = .ok (.ifCond .ne 5, 3) := by decide +kernel
theorem dX11_restore_18 : decode cX11_restore 18 = .ok (.iconst 0, 1) := by decide +kernel
theorem dX11_restore_19 : decode cX11_restore 19 = .ok (.ireturn, 1) := by decide +kernel
theorem dX11_hold_9 : decode cX11_hold 9 = .ok (.iconst 0, 1) := by decide +kernel
theorem dX11_hold_10 : decode cX11_hold 10 = .ok (.ireturn, 1) := by decide +kernel
