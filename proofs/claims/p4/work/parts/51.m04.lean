theorem dX12_uses_0 : decode cX12_uses 0 = .ok (.aload_n 0, 1) := by decide +kernel
theorem dX12_uses_1 : decode cX12_uses 1 = .ok (.getfield 110, 3) := by decide +kernel
theorem dX12_uses_4 : decode cX12_uses 4 = .ok (.bipush 26, 2) := by decide +kernel
theorem dX12_uses_6 : decode cX12_uses 6 = .ok (.iload_n 1, 1) := by decide +kernel
theorem dX12_uses_7 : decode cX12_uses 7 = .ok (.iastore, 1) := by decide +kernel
theorem dX12_uses_8 : decode cX12_uses 8 = .ok (.aload_n 0, 1) := by decide +kernel
theorem dX12_uses_9 : decode cX12_uses 9 = .ok (.getfield 110, 3) := by decide +kernel
theorem dX12_uses_12 : decode cX12_uses 12 = .ok (.bipush 27, 2) := by decide +kernel
theorem dX12_uses_14 : decode cX12_uses 14 = .ok (.aload_n 0, 1) := by decide +kernel
theorem dX12_uses_15 : decode cX12_uses 15 = .ok (.getfield 110, 3) := by decide +kernel
theorem dX12_uses_18 : decode cX12_uses 18 = .ok (.bipush 21, 2) := by decide +kernel
theorem dX12_uses_20 : decode cX12_uses 20 = .ok (.iaload, 1) := by decide +kernel
theorem dX12_uses_21 : decode cX12_uses 21 = .ok (.iastore, 1) := by decide +kernel
theorem dX12_uses_22 : decode cX12_uses 22 = .ok (.return_, 1) := by decide +kernel
theorem dX12_clash_23 : decode cX12_clash 23 = .ok (.iload_n 1, 1) := by decide +kernel
theorem dX12_clash_24 : decode cX12_clash 24 = .ok (.ireturn, 1) := by decide +kernel
theorem dX12_hasRoom_0 : decode cX12_hasRoom 0 = .ok (.aload_n 0, 1) := by decide +kernel
theorem dX12_hasRoom_1 : decode cX12_hasRoom 1 = .ok (.invokevirtual 429, 3) := by decide +kernel
theorem dX12_hasRoom_4 : decode cX12_hasRoom 4 = .ok (.aload_n 0, 1) := by decide +kernel
theorem dX12_hasRoom_5 : decode cX12_hasRoom 5 = .ok (.getfield 110, 3) := by decide +kernel
theorem dX12_hasRoom_8 : decode cX12_hasRoom 8 = .ok (.iload_n 1, 1) := by decide +kernel
theorem dX12_hasRoom_9 : decode cX12_hasRoom 9 = .ok (.iconst 0, 1) := by decide +kernel
theorem dX12_hasRoom_10 : decode cX12_hasRoom 10 = .ok (.iastore, 1) := by decide +kernel
theorem dX12_hasRoom_11 : decode cX12_hasRoom 11 = .ok (.aload_n 0, 1) := by decide +kernel
theorem dX12_hasRoom_12 : decode cX12_hasRoom 12 = .ok (.getfield 110, 3) := by decide +kernel
theorem dX12_hasRoom_15 : decode cX12_hasRoom 15 = .ok (.bipush 7, 2) := by decide +kernel
theorem dX12_hasRoom_17 : decode cX12_hasRoom 17 = .ok (.iload_n 1, 1) := by decide +kernel
theorem dX12_hasRoom_18 : decode cX12_hasRoom 18 = .ok (.iadd, 1) := by decide +kernel
theorem dX12_hasRoom_19 : decode cX12_hasRoom 19 = .ok (.iload_n 2, 1) := by decide +kernel
theorem dX12_hasRoom_20 : decode cX12_hasRoom 20 = .ok (.iastore, 1) := by decide +kernel
theorem dX12_hasRoom_21 : decode cX12_hasRoom 21 = .ok (.iconst 0, 1) := by decide +kernel
theorem dX12_hasRoom_22 : decode cX12_hasRoom 22 = .ok (.istore_n 3, 1) := by decide +kernel
theorem dX12_hasRoom_23 : decode cX12_hasRoom 23 = .ok (.iload_n 3, 1) := by decide +kernel
theorem dX12_hasRoom_24 : decode cX12_hasRoom 24 = .ok (.bipush 60, 2) := by decide +kernel
theorem dX12_hasRoom_26 : decode cX12_hasRoom 26 = .ok (.if_icmp .ge 22, 3) := by decide +kernel
theorem dX12_hasRoom_29 : decode cX12_hasRoom 29 = .ok (.aload_n 0, 1) := by decide +kernel
theorem dX12_hasRoom_30 : decode cX12_hasRoom 30 = .ok (.invokevirtual 387, 3) := by decide +kernel
theorem dX12_hasRoom_33 : decode cX12_hasRoom 33 = .ok (.aload_n 0, 1) := by decide +kernel
theorem dX12_hasRoom_34 : decode cX12_hasRoom 34 = .ok (.getfield 344, 3) := by decide +kernel
theorem dX12_hasRoom_37 : decode cX12_hasRoom 37 = .ok (.ifCond .eq 5, 3) := by decide +kernel
theorem dX12_hasRoom_40 : decode cX12_hasRoom 40 = .ok (.iconst 0, 1) := by decide +kernel
theorem dX12_hasRoom_41 : decode cX12_hasRoom 41 = .ok (.ireturn, 1) := by decide +kernel
theorem dX12_hasRoom_42 : decode cX12_hasRoom 42 = .ok (.iinc 3 1, 3) := by decide +kernel
theorem dX12_hasRoom_45 : decode cX12_hasRoom 45 = .ok (.goto (-22), 3) := by decide +kernel
theorem dX12_hasRoom_48 : decode cX12_hasRoom 48 = .ok (.iconst 1, 1) := by decide +kernel
theorem dX12_hasRoom_49 : decode cX12_hasRoom 49 = .ok (.ireturn, 1) := by decide +kernel
theorem dX12_room_8 : decode cX12_room 8 = .ok (.aload_n 0, 1) := by decide +kernel
theorem dX12_room_9 : decode cX12_room 9 = .ok (.getfield 107, 3) := by decide +kernel
theorem dX12_room_12 : decode cX12_room 12 = .ok (.iload_n 1, 1) := by decide +kernel
theorem dX12_room_13 : decode cX12_room 13 = .ok (.iaload, 1) := by decide +kernel
theorem dX12_room_14 : decode cX12_room 14 = .ok (.ifCond .ne 5, 3) := by decide +kernel
theorem dX12_room_19 : decode cX12_room 19 = .ok (.iconst 0, 1) := by decide +kernel
theorem dX12_room_20 : decode cX12_room 20 = .ok (.istore_n 2, 1) := by decide +kernel
theorem dX12_room_21 : decode cX12_room 21 = .ok (.iload_n 2, 1) := by decide +kernel
theorem dX12_room_22 : decode cX12_room 22 = .ok (.bipush 10, 2) := by decide +kernel
theorem dX12_room_24 : decode cX12_room 24 = .ok (.if_icmp .ge 20, 3) := by decide +kernel
theorem dX12_room_27 : decode cX12_room 27 = .ok (.aload_n 0, 1) := by decide +kernel
theorem dX12_room_28 : decode cX12_room 28 = .ok (.iload_n 1, 1) := by decide +kernel
theorem dX12_room_29 : decode cX12_room 29 = .ok (.iload_n 2, 1) := by decide +kernel
theorem dX12_room_30 : decode cX12_room 30 = .ok (.invokevirtual 451, 3) := by decide +kernel
theorem dX12_room_33 : decode cX12_room 33 = .ok (.ifCond .eq 5, 3) := by decide +kernel
theorem dX12_room_36 : decode cX12_room 36 = .ok (.iload_n 2, 1) := by decide +kernel
theorem dX12_room_37 : decode cX12_room 37 = .ok (.ireturn, 1) := by decide +kernel
theorem dX12_room_38 : decode cX12_room 38 = .ok (.iinc 2 1, 3) := by decide +kernel
theorem dX12_room_41 : decode cX12_room 41 = .ok (.goto (-20), 3) := by decide +kernel
theorem dX12_room_44 : decode cX12_room 44 = .ok (.bipush (-2), 2) := by decide +kernel
theorem dX12_room_46 : decode cX12_room 46 = .ok (.ireturn, 1) := by decide +kernel
theorem dX12_handover_24 : decode cX12_handover 24 = .ok (.aload_n 0, 1) := by decide +kernel
theorem dX12_handover_25 : decode cX12_handover 25 = .ok (.invokevirtual 387, 3) := by decide +kernel
theorem dX12_handover_28 : decode cX12_handover 28 = .ok (.aload_n 0, 1) := by decide +kernel
theorem dX12_handover_29 : decode cX12_handover 29 = .ok (.getfield 341, 3) := by decide +kernel
theorem dX12_handover_32 : decode cX12_handover 32 = .ok (.ifCond .lt 14, 3) := by decide +kernel
theorem dX12_handover_35 : decode cX12_handover 35 = .ok (.iload_n 1, 1) := by decide +kernel
theorem dX12_handover_36 : decode cX12_handover 36 = .ok (.iconst 1, 1) := by decide +kernel
theorem dX12_handover_37 : decode cX12_handover 37 = .ok (.aload_n 0, 1) := by decide +kernel
theorem dX12_handover_38 : decode cX12_handover 38 = .ok (.getfield 341, 3) := by decide +kernel
theorem dX12_handover_41 : decode cX12_handover 41 = .ok (.ishl, 1) := by decide +kernel
theorem dX12_handover_42 : decode cX12_handover 42 = .ok (.iconst (-1), 1) := by decide +kernel
theorem dX12_handover_43 : decode cX12_handover 43 = .ok (.ixor, 1) := by decide +kernel
theorem dX12_handover_44 : decode cX12_handover 44 = .ok (.iand, 1) := by decide +kernel
theorem dX12_handover_45 : decode cX12_handover 45 = .ok (.istore_n 1, 1) := by decide +kernel
theorem dX12_handover_46 : decode cX12_handover 46 = .ok (.iload_n 1, 1) := by decide +kernel
theorem dX12_handover_47 : decode cX12_handover 47 = .ok (.aload_n 0, 1) := by decide +kernel
theorem dX12_handover_48 : decode cX12_handover 48 = .ok (.iconst 2, 1) := by decide +kernel
theorem dX12_handover_49 : decode cX12_handover 49 = .ok (.invokevirtual 350, 3) := by decide +kernel
theorem dX12_handover_52 : decode cX12_handover 52 = .ok (.iand, 1) := by decide +kernel
theorem dX12_handover_53 : decode cX12_handover 53 = .ok (.ifCond .eq 6, 3) := by decide +kernel
theorem dX12_handover_56 : decode cX12_handover 56 = .ok (.bipush (-2), 2) := by decide +kernel
theorem dX12_handover_58 : decode cX12_handover 58 = .ok (.ireturn, 1) := by decide +kernel
theorem dX12_handover_59 : decode cX12_handover 59 = .ok (.iinc 2 1, 3) := by decide +kernel
theorem dX12_handover_62 : decode cX12_handover 62 = .ok (.goto (-50), 3) := by decide +kernel
theorem dX12_handover_65 : decode cX12_handover 65 = .ok (.bipush (-2), 2) := by decide +kernel
theorem dX12_handover_67 : decode cX12_handover 67 = .ok (.ireturn, 1) := by decide +kernel
theorem dX12_busiest_61 : decode cX12_busiest 61 = .ok (.aload_n 0, 1) := by decide +kernel
theorem dX12_busiest_62 : decode cX12_busiest 62 = .ok (.getfield 122, 3) := by decide +kernel
theorem dX12_busiest_65 : decode cX12_busiest 65 = .ok (.aload_n 0, 1) := by decide +kernel
theorem dX12_busiest_66 : decode cX12_busiest 66 = .ok (.getfield 341, 3) := by decide +kernel
theorem dX12_busiest_69 : decode cX12_busiest 69 = .ok (.dup2, 1) := by decide +kernel
theorem dX12_busiest_70 : decode cX12_busiest 70 = .ok (.iaload, 1) := by decide +kernel
theorem dX12_busiest_71 : decode cX12_busiest 71 = .ok (.iconst 1, 1) := by decide +kernel
theorem dX12_busiest_72 : decode cX12_busiest 72 = .ok (.iadd, 1) := by decide +kernel
theorem dX12_busiest_73 : decode cX12_busiest 73 = .ok (.iastore, 1) := by decide +kernel
theorem dX12_busiest_108 : decode cX12_busiest 108 = .ok (.iload 4, 2) := by decide +kernel
theorem dX12_busiest_110 : decode cX12_busiest 110 = .ok (.istore_n 3, 1) := by decide +kernel
theorem dX12_busiest_131 : decode cX12_busiest 131 = .ok (.iload_n 2, 1) := by decide +kernel
theorem dX12_busiest_132 : decode cX12_busiest 132 = .ok (.ifCond .ne 7, 3) := by decide +kernel
theorem dX12_busiest_135 : decode cX12_busiest 135 = .ok (.iload_n 3, 1) := by decide +kernel
theorem dX12_busiest_136 : decode cX12_busiest 136 = .ok (.goto 9, 3) := by decide +kernel
theorem dX12_busiest_139 : decode cX12_busiest 139 = .ok (.aload_n 0, 1) := by decide +kernel
theorem dX12_busiest_140 : decode cX12_busiest 140 = .ok (.getfield 122, 3) := by decide +kernel
theorem dX12_busiest_143 : decode cX12_busiest 143 = .ok (.iload_n 3, 1) := by decide +kernel
theorem dX12_busiest_144 : decode cX12_busiest 144 = .ok (.iaload, 1) := by decide +kernel
