theorem dX12_in_0 : decode cX12_in 0 = .ok (.iload_n 0, 1) := by decide +kernel
theorem dX12_in_1 : decode cX12_in 1 = .ok (.iload_n 1, 1) := by decide +kernel
theorem dX12_in_2 : decode cX12_in 2 = .ok (.if_icmp .lt 12, 3) := by decide +kernel
theorem dX12_in_5 : decode cX12_in 5 = .ok (.iload_n 0, 1) := by decide +kernel
theorem dX12_in_6 : decode cX12_in 6 = .ok (.iload_n 2, 1) := by decide +kernel
theorem dX12_in_7 : decode cX12_in 7 = .ok (.if_icmp .gt 7, 3) := by decide +kernel
theorem dX12_in_10 : decode cX12_in 10 = .ok (.iconst 1, 1) := by decide +kernel
theorem dX12_in_11 : decode cX12_in 11 = .ok (.goto 4, 3) := by decide +kernel
theorem dX12_in_15 : decode cX12_in 15 = .ok (.ireturn, 1) := by decide +kernel
theorem dX12_in_14 : decode cX12_in 14 = .ok (.iconst 0, 1) := by decide +kernel
theorem dX12_isThing_0 : decode cX12_isThing 0 = .ok (.iload_n 1, 1) := by decide +kernel
theorem dX12_isThing_1 : decode cX12_isThing 1 = .ok (.iconst 0, 1) := by decide +kernel
theorem dX12_isThing_2 : decode cX12_isThing 2 = .ok (.aload_n 0, 1) := by decide +kernel
theorem dX12_isThing_3 : decode cX12_isThing 3 = .ok (.getfield 43, 3) := by decide +kernel
theorem dX12_isThing_6 : decode cX12_isThing 6 = .ok (.aload_n 0, 1) := by decide +kernel
theorem dX12_isThing_7 : decode cX12_isThing 7 = .ok (.getfield 221, 3) := by decide +kernel
theorem dX12_isThing_10 : decode cX12_isThing 10 = .ok (.iaload, 1) := by decide +kernel
theorem dX12_isThing_11 : decode cX12_isThing 11 = .ok (.iconst 1, 1) := by decide +kernel
theorem dX12_isThing_12 : decode cX12_isThing 12 = .ok (.isub, 1) := by decide +kernel
theorem dX12_isThing_13 : decode cX12_isThing 13 = .ok (.invokestatic 301, 3) := by decide +kernel
theorem dX12_isThing_16 : decode cX12_isThing 16 = .ok (.ireturn, 1) := by decide +kernel
theorem dX12_isPattern_0 : decode cX12_isPattern 0 = .ok (.iload_n 1, 1) := by decide +kernel
theorem dX12_isPattern_1 : decode cX12_isPattern 1 = .ok (.iconst 0, 1) := by decide +kernel
theorem dX12_isPattern_2 : decode cX12_isPattern 2 = .ok (.aload_n 0, 1) := by decide +kernel
theorem dX12_isPattern_3 : decode cX12_isPattern 3 = .ok (.getfield 55, 3) := by decide +kernel
theorem dX12_isPattern_6 : decode cX12_isPattern 6 = .ok (.aload_n 0, 1) := by decide +kernel
theorem dX12_isPattern_7 : decode cX12_isPattern 7 = .ok (.getfield 221, 3) := by decide +kernel
theorem dX12_isPattern_10 : decode cX12_isPattern 10 = .ok (.iaload, 1) := by decide +kernel
theorem dX12_isPattern_11 : decode cX12_isPattern 11 = .ok (.iconst 1, 1) := by decide +kernel
theorem dX12_isPattern_12 : decode cX12_isPattern 12 = .ok (.isub, 1) := by decide +kernel
theorem dX12_isPattern_13 : decode cX12_isPattern 13 = .ok (.invokestatic 301, 3) := by decide +kernel
theorem dX12_isPattern_16 : decode cX12_isPattern 16 = .ok (.ireturn, 1) := by decide +kernel
theorem dX12_isLong_0 : decode cX12_isLong 0 = .ok (.iload_n 0, 1) := by decide +kernel
theorem dX12_isLong_1 : decode cX12_isLong 1 = .ok (.iconst 0, 1) := by decide +kernel
theorem dX12_isLong_2 : decode cX12_isLong 2 = .ok (.bipush 60, 2) := by decide +kernel
theorem dX12_isLong_4 : decode cX12_isLong 4 = .ok (.invokestatic 301, 3) := by decide +kernel
theorem dX12_isLong_7 : decode cX12_isLong 7 = .ok (.ireturn, 1) := by decide +kernel
theorem dX12_isSome_0 : decode cX12_isSome 0 = .ok (.iload_n 0, 1) := by decide +kernel
theorem dX12_isSome_1 : decode cX12_isSome 1 = .ok (.iconst 1, 1) := by decide +kernel
theorem dX12_isSome_2 : decode cX12_isSome 2 = .ok (.bipush 60, 2) := by decide +kernel
theorem dX12_isSome_4 : decode cX12_isSome 4 = .ok (.invokestatic 301, 3) := by decide +kernel
theorem dX12_isSome_7 : decode cX12_isSome 7 = .ok (.ireturn, 1) := by decide +kernel
theorem dX12_held_0 : decode cX12_held 0 = .ok (.iload_n 0, 1) := by decide +kernel
theorem dX12_held_1 : decode cX12_held 1 = .ok (.iload_n 1, 1) := by decide +kernel
theorem dX12_held_2 : decode cX12_held 2 = .ok (.if_icmp .ge 7, 3) := by decide +kernel
theorem dX12_held_5 : decode cX12_held 5 = .ok (.iload_n 1, 1) := by decide +kernel
theorem dX12_held_6 : decode cX12_held 6 = .ok (.goto 13, 3) := by decide +kernel
theorem dX12_held_19 : decode cX12_held 19 = .ok (.ireturn, 1) := by decide +kernel
theorem dX12_bits_0 : decode cX12_bits 0 = .ok (.iconst 0, 1) := by decide +kernel
theorem dX12_bits_1 : decode cX12_bits 1 = .ok (.istore_n 1, 1) := by decide +kernel
theorem dX12_bits_2 : decode cX12_bits 2 = .ok (.iconst 0, 1) := by decide +kernel
theorem dX12_bits_3 : decode cX12_bits 3 = .ok (.istore_n 2, 1) := by decide +kernel
theorem dX12_bits_4 : decode cX12_bits 4 = .ok (.iload_n 2, 1) := by decide +kernel
theorem dX12_bits_5 : decode cX12_bits 5 = .ok (.bipush 10, 2) := by decide +kernel
theorem dX12_bits_7 : decode cX12_bits 7 = .ok (.if_icmp .ge 17, 3) := by decide +kernel
theorem dX12_bits_10 : decode cX12_bits 10 = .ok (.iload_n 1, 1) := by decide +kernel
theorem dX12_bits_11 : decode cX12_bits 11 = .ok (.iload_n 0, 1) := by decide +kernel
theorem dX12_bits_12 : decode cX12_bits 12 = .ok (.iload_n 2, 1) := by decide +kernel
theorem dX12_bits_13 : decode cX12_bits 13 = .ok (.ishr, 1) := by decide +kernel
theorem dX12_bits_14 : decode cX12_bits 14 = .ok (.iconst 1, 1) := by decide +kernel
theorem dX12_bits_15 : decode cX12_bits 15 = .ok (.iand, 1) := by decide +kernel
theorem dX12_bits_16 : decode cX12_bits 16 = .ok (.iadd, 1) := by decide +kernel
theorem dX12_bits_17 : decode cX12_bits 17 = .ok (.istore_n 1, 1) := by decide +kernel
theorem dX12_bits_18 : decode cX12_bits 18 = .ok (.iinc 2 1, 3) := by decide +kernel
theorem dX12_bits_21 : decode cX12_bits 21 = .ok (.goto (-17), 3) := by decide +kernel
theorem dX12_bits_24 : decode cX12_bits 24 = .ok (.iload_n 1, 1) := by decide +kernel
theorem dX12_bits_25 : decode cX12_bits 25 = .ok (.ireturn, 1) := by decide +kernel
theorem dX12_thingsSo_0 : decode cX12_thingsSo 0 = .ok (.iconst 0, 1) := by decide +kernel
theorem dX12_thingsSo_1 : decode cX12_thingsSo 1 = .ok (.istore_n 2, 1) := by decide +kernel
theorem dX12_thingsSo_2 : decode cX12_thingsSo 2 = .ok (.iconst 0, 1) := by decide +kernel
theorem dX12_thingsSo_3 : decode cX12_thingsSo 3 = .ok (.istore_n 3, 1) := by decide +kernel
theorem dX12_thingsSo_4 : decode cX12_thingsSo 4 = .ok (.iload_n 3, 1) := by decide +kernel
theorem dX12_thingsSo_5 : decode cX12_thingsSo 5 = .ok (.aload_n 0, 1) := by decide +kernel
theorem dX12_thingsSo_6 : decode cX12_thingsSo 6 = .ok (.getfield 43, 3) := by decide +kernel
theorem dX12_thingsSo_9 : decode cX12_thingsSo 9 = .ok (.aload_n 0, 1) := by decide +kernel
theorem dX12_thingsSo_10 : decode cX12_thingsSo 10 = .ok (.getfield 221, 3) := by decide +kernel
theorem dX12_thingsSo_13 : decode cX12_thingsSo 13 = .ok (.iaload, 1) := by decide +kernel
theorem dX12_thingsSo_14 : decode cX12_thingsSo 14 = .ok (.if_icmp .ge 25, 3) := by decide +kernel
theorem dX12_thingsSo_39 : decode cX12_thingsSo 39 = .ok (.iload_n 2, 1) := by decide +kernel
theorem dX12_thingsSo_40 : decode cX12_thingsSo 40 = .ok (.ireturn, 1) := by decide +kernel
theorem dX12_landsAt_0 : decode cX12_landsAt 0 = .ok (.iconst 0, 1) := by decide +kernel
theorem dX12_landsAt_1 : decode cX12_landsAt 1 = .ok (.istore_n 2, 1) := by decide +kernel
theorem dX12_landsAt_2 : decode cX12_landsAt 2 = .ok (.iconst 0, 1) := by decide +kernel
theorem dX12_landsAt_3 : decode cX12_landsAt 3 = .ok (.istore_n 3, 1) := by decide +kernel
theorem dX12_landsAt_4 : decode cX12_landsAt 4 = .ok (.iload_n 3, 1) := by decide +kernel
theorem dX12_landsAt_5 : decode cX12_landsAt 5 = .ok (.aload_n 0, 1) := by decide +kernel
theorem dX12_landsAt_6 : decode cX12_landsAt 6 = .ok (.getfield 43, 3) := by decide +kernel
theorem dX12_landsAt_9 : decode cX12_landsAt 9 = .ok (.aload_n 0, 1) := by decide +kernel
theorem dX12_landsAt_10 : decode cX12_landsAt 10 = .ok (.getfield 221, 3) := by decide +kernel
theorem dX12_landsAt_13 : decode cX12_landsAt 13 = .ok (.iaload, 1) := by decide +kernel
theorem dX12_landsAt_14 : decode cX12_landsAt 14 = .ok (.if_icmp .ge 21, 3) := by decide +kernel
theorem dX12_landsAt_35 : decode cX12_landsAt 35 = .ok (.iload_n 2, 1) := by decide +kernel
theorem dX12_landsAt_36 : decode cX12_landsAt 36 = .ok (.ireturn, 1) := by decide +kernel
theorem dX12_catchesNow_0 : decode cX12_catchesNow 0 = .ok (.iconst 0, 1) := by decide +kernel
theorem dX12_catchesNow_1 : decode cX12_catchesNow 1 = .ok (.istore_n 1, 1) := by decide +kernel
theorem dX12_catchesNow_2 : decode cX12_catchesNow 2 = .ok (.iload_n 1, 1) := by decide +kernel
theorem dX12_catchesNow_3 : decode cX12_catchesNow 3 = .ok (.aload_n 0, 1) := by decide +kernel
theorem dX12_catchesNow_4 : decode cX12_catchesNow 4 = .ok (.getfield 43, 3) := by decide +kernel
theorem dX12_catchesNow_7 : decode cX12_catchesNow 7 = .ok (.aload_n 0, 1) := by decide +kernel
theorem dX12_catchesNow_8 : decode cX12_catchesNow 8 = .ok (.getfield 221, 3) := by decide +kernel
theorem dX12_catchesNow_11 : decode cX12_catchesNow 11 = .ok (.iaload, 1) := by decide +kernel
theorem dX12_catchesNow_12 : decode cX12_catchesNow 12 = .ok (.if_icmp .ge 20, 3) := by decide +kernel
theorem dX12_catchesNow_32 : decode cX12_catchesNow 32 = .ok (.bipush (-2), 2) := by decide +kernel
theorem dX12_catchesNow_34 : decode cX12_catchesNow 34 = .ok (.ireturn, 1) := by decide +kernel
theorem dX12_heightNow_0 : decode cX12_heightNow 0 = .ok (.aload_n 0, 1) := by decide +kernel
theorem dX12_heightNow_1 : decode cX12_heightNow 1 = .ok (.getfield 110, 3) := by decide +kernel
theorem dX12_heightNow_4 : decode cX12_heightNow 4 = .ok (.bipush 28, 2) := by decide +kernel
theorem dX12_heightNow_6 : decode cX12_heightNow 6 = .ok (.iaload, 1) := by decide +kernel
theorem dX12_heightNow_7 : decode cX12_heightNow 7 = .ok (.ifCond .lt 11, 3) := by decide +kernel
theorem dX12_heightNow_18 : decode cX12_heightNow 18 = .ok (.aload_n 0, 1) := by decide +kernel
theorem dX12_heightNow_19 : decode cX12_heightNow 19 = .ok (.getfield 110, 3) := by decide +kernel
theorem dX12_heightNow_22 : decode cX12_heightNow 22 = .ok (.bipush 26, 2) := by decide +kernel
theorem dX12_heightNow_24 : decode cX12_heightNow 24 = .ok (.iaload, 1) := by decide +kernel
theorem dX12_heightNow_25 : decode cX12_heightNow 25 = .ok (.ifCond .ge 7, 3) := by decide +kernel
theorem dX12_heightNow_28 : decode cX12_heightNow 28 = .ok (.iconst 3, 1) := by decide +kernel
theorem dX12_heightNow_29 : decode cX12_heightNow 29 = .ok (.goto 29, 3) := by decide +kernel
theorem dX12_heightNow_58 : decode cX12_heightNow 58 = .ok (.ireturn, 1) := by decide +kernel
theorem dX12_weightsOf_0 : decode cX12_weightsOf 0 = .ok (.iconst 0, 1) := by decide +kernel
theorem dX12_weightsOf_1 : decode cX12_weightsOf 1 = .ok (.istore_n 2, 1) := by decide +kernel
theorem dX12_weightsOf_2 : decode cX12_weightsOf 2 = .ok (.iconst 0, 1) := by decide +kernel
theorem dX12_weightsOf_3 : decode cX12_weightsOf 3 = .ok (.istore_n 3, 1) := by decide +kernel
theorem dX12_weightsOf_4 : decode cX12_weightsOf 4 = .ok (.iload_n 3, 1) := by decide +kernel
theorem dX12_weightsOf_5 : decode cX12_weightsOf 5 = .ok (.aload_n 0, 1) := by decide +kernel
theorem dX12_weightsOf_6 : decode cX12_weightsOf 6 = .ok (.getfield 43, 3) := by decide +kernel
theorem dX12_weightsOf_9 : decode cX12_weightsOf 9 = .ok (.aload_n 0, 1) := by decide +kernel
theorem dX12_weightsOf_10 : decode cX12_weightsOf 10 = .ok (.getfield 221, 3) := by decide +kernel
theorem dX12_weightsOf_13 : decode cX12_weightsOf 13 = .ok (.iaload, 1) := by decide +kernel
theorem dX12_weightsOf_14 : decode cX12_weightsOf 14 = .ok (.if_icmp .ge 35, 3) := by decide +kernel
theorem dX12_weightsOf_49 : decode cX12_weightsOf 49 = .ok (.iload_n 2, 1) := by decide +kernel
theorem dX12_weightsOf_50 : decode cX12_weightsOf 50 = .ok (.ireturn, 1) := by decide +kernel
theorem dX12_copies_0 : decode cX12_copies 0 = .ok (.iconst 0, 1) := by decide +kernel
theorem dX12_copies_1 : decode cX12_copies 1 = .ok (.istore_n 1, 1) := by decide +kernel
theorem dX12_copies_2 : decode cX12_copies 2 = .ok (.iload_n 1, 1) := by decide +kernel
theorem dX12_copies_3 : decode cX12_copies 3 = .ok (.bipush 29, 2) := by decide +kernel
theorem dX12_copies_5 : decode cX12_copies 5 = .ok (.if_icmp .ge 21, 3) := by decide +kernel
theorem dX12_copies_8 : decode cX12_copies 8 = .ok (.aload_n 0, 1) := by decide +kernel
theorem dX12_copies_9 : decode cX12_copies 9 = .ok (.getfield 110, 3) := by decide +kernel
theorem dX12_copies_12 : decode cX12_copies 12 = .ok (.iload_n 1, 1) := by decide +kernel
theorem dX12_copies_13 : decode cX12_copies 13 = .ok (.aload_n 0, 1) := by decide +kernel
theorem dX12_copies_14 : decode cX12_copies 14 = .ok (.getfield 107, 3) := by decide +kernel
theorem dX12_copies_17 : decode cX12_copies 17 = .ok (.iload_n 1, 1) := by decide +kernel
theorem dX12_copies_18 : decode cX12_copies 18 = .ok (.iaload, 1) := by decide +kernel
theorem dX12_copies_19 : decode cX12_copies 19 = .ok (.iastore, 1) := by decide +kernel
theorem dX12_copies_20 : decode cX12_copies 20 = .ok (.iinc 1 1, 3) := by decide +kernel
theorem dX12_copies_23 : decode cX12_copies 23 = .ok (.goto (-21), 3) := by decide +kernel
theorem dX12_copies_26 : decode cX12_copies 26 = .ok (.aload_n 0, 1) := by decide +kernel
theorem dX12_copies_27 : decode cX12_copies 27 = .ok (.aload_n 0, 1) := by decide +kernel
theorem dX12_copies_28 : decode cX12_copies 28 = .ok (.getfield 67, 3) := by decide +kernel
theorem dX12_copies_31 : decode cX12_copies 31 = .ok (.aload_n 0, 1) := by decide +kernel
theorem dX12_copies_32 : decode cX12_copies 32 = .ok (.getfield 221, 3) := by decide +kernel
theorem dX12_copies_35 : decode cX12_copies 35 = .ok (.iaload, 1) := by decide +kernel
theorem dX12_copies_36 : decode cX12_copies 36 = .ok (.putfield 305, 3) := by decide +kernel
theorem dX12_copies_39 : decode cX12_copies 39 = .ok (.aload_n 0, 1) := by decide +kernel
theorem dX12_copies_40 : decode cX12_copies 40 = .ok (.iconst 0, 1) := by decide +kernel
theorem dX12_copies_41 : decode cX12_copies 41 = .ok (.putfield 308, 3) := by decide +kernel
theorem dX12_copies_44 : decode cX12_copies 44 = .ok (.return_, 1) := by decide +kernel
theorem dX12_copiesStill_0 : decode cX12_copiesStill 0 = .ok (.aload_n 0, 1) := by decide +kernel
theorem dX12_copiesStill_1 : decode cX12_copiesStill 1 = .ok (.invokevirtual 311, 3) := by decide +kernel
theorem dX12_copiesStill_4 : decode cX12_copiesStill 4 = .ok (.aload_n 0, 1) := by decide +kernel
theorem dX12_copiesStill_5 : decode cX12_copiesStill 5 = .ok (.iconst 1, 1) := by decide +kernel
theorem dX12_copiesStill_6 : decode cX12_copiesStill 6 = .ok (.putfield 308, 3) := by decide +kernel
theorem dX12_copiesStill_9 : decode cX12_copiesStill 9 = .ok (.return_, 1) := by decide +kernel
theorem dX12_beatGoes_0 : decode cX12_beatGoes 0 = .ok (.aload_n 0, 1) := by decide +kernel
theorem dX12_beatGoes_1 : decode cX12_beatGoes 1 = .ok (.aload_n 0, 1) := by decide +kernel
theorem dX12_beatGoes_2 : decode cX12_beatGoes 2 = .ok (.invokevirtual 378, 3) := by decide +kernel
theorem dX12_beatGoes_5 : decode cX12_beatGoes 5 = .ok (.putfield 341, 3) := by decide +kernel
theorem dX12_beatGoes_8 : decode cX12_beatGoes 8 = .ok (.aload_n 0, 1) := by decide +kernel
theorem dX12_beatGoes_9 : decode cX12_beatGoes 9 = .ok (.iconst 0, 1) := by decide +kernel
theorem dX12_beatGoes_10 : decode cX12_beatGoes 10 = .ok (.putfield 344, 3) := by decide +kernel
theorem dX12_beatGoes_13 : decode cX12_beatGoes 13 = .ok (.aload_n 0, 1) := by decide +kernel
theorem dX12_beatGoes_14 : decode cX12_beatGoes 14 = .ok (.iconst 0, 1) := by decide +kernel
theorem dX12_beatGoes_15 : decode cX12_beatGoes 15 = .ok (.putfield 365, 3) := by decide +kernel
theorem dX12_beatGoes_18 : decode cX12_beatGoes 18 = .ok (.aload_n 0, 1) := by decide +kernel
theorem dX12_beatGoes_19 : decode cX12_beatGoes 19 = .ok (.getfield 341, 3) := by decide +kernel
theorem dX12_beatGoes_22 : decode cX12_beatGoes 22 = .ok (.ifCond .ge 37, 3) := by decide +kernel
theorem dX12_beatGoes_25 : decode cX12_beatGoes 25 = .ok (.aload_n 0, 1) := by decide +kernel
theorem dX12_beatGoes_26 : decode cX12_beatGoes 26 = .ok (.getfield 110, 3) := by decide +kernel
theorem dX12_beatGoes_29 : decode cX12_beatGoes 29 = .ok (.bipush 22, 2) := by decide +kernel
theorem dX12_beatGoes_31 : decode cX12_beatGoes 31 = .ok (.aload_n 0, 1) := by decide +kernel
theorem dX12_beatGoes_32 : decode cX12_beatGoes 32 = .ok (.getfield 110, 3) := by decide +kernel
theorem dX12_beatGoes_35 : decode cX12_beatGoes 35 = .ok (.bipush 22, 2) := by decide +kernel
theorem dX12_beatGoes_37 : decode cX12_beatGoes 37 = .ok (.iaload, 1) := by decide +kernel
theorem dX12_beatGoes_38 : decode cX12_beatGoes 38 = .ok (.aload_n 0, 1) := by decide +kernel
theorem dX12_beatGoes_39 : decode cX12_beatGoes 39 = .ok (.getfield 64, 3) := by decide +kernel
theorem dX12_beatGoes_42 : decode cX12_beatGoes 42 = .ok (.aload_n 0, 1) := by decide +kernel
theorem dX12_beatGoes_43 : decode cX12_beatGoes 43 = .ok (.getfield 221, 3) := by decide +kernel
theorem dX12_beatGoes_46 : decode cX12_beatGoes 46 = .ok (.iaload, 1) := by decide +kernel
theorem dX12_beatGoes_47 : decode cX12_beatGoes 47 = .ok (.isub, 1) := by decide +kernel
theorem dX12_beatGoes_48 : decode cX12_beatGoes 48 = .ok (.iconst 0, 1) := by decide +kernel
theorem dX12_beatGoes_49 : decode cX12_beatGoes 49 = .ok (.sipush 999, 3) := by decide +kernel
theorem dX12_beatGoes_52 : decode cX12_beatGoes 52 = .ok (.invokestatic 338, 3) := by decide +kernel
theorem dX12_beatGoes_55 : decode cX12_beatGoes 55 = .ok (.iastore, 1) := by decide +kernel
theorem dX12_beatGoes_56 : decode cX12_beatGoes 56 = .ok (.goto 15, 3) := by decide +kernel
theorem dX12_beatGoes_71 : decode cX12_beatGoes 71 = .ok (.iconst 0, 1) := by decide +kernel
theorem dX12_beatGoes_72 : decode cX12_beatGoes 72 = .ok (.istore_n 1, 1) := by decide +kernel
theorem dX12_beatGoes_73 : decode cX12_beatGoes 73 = .ok (.iload_n 1, 1) := by decide +kernel
theorem dX12_beatGoes_74 : decode cX12_beatGoes 74 = .ok (.aload_n 0, 1) := by decide +kernel
theorem dX12_beatGoes_75 : decode cX12_beatGoes 75 = .ok (.getfield 43, 3) := by decide +kernel
theorem dX12_beatGoes_78 : decode cX12_beatGoes 78 = .ok (.aload_n 0, 1) := by decide +kernel
theorem dX12_beatGoes_79 : decode cX12_beatGoes 79 = .ok (.getfield 221, 3) := by decide +kernel
theorem dX12_beatGoes_82 : decode cX12_beatGoes 82 = .ok (.iaload, 1) := by decide +kernel
theorem dX12_beatGoes_83 : decode cX12_beatGoes 83 = .ok (.if_icmp .ge 31, 3) := by decide +kernel
theorem dX12_beatGoes_114 : decode cX12_beatGoes 114 = .ok (.aload_n 0, 1) := by decide +kernel
theorem dX12_beatGoes_115 : decode cX12_beatGoes 115 = .ok (.getfield 110, 3) := by decide +kernel
theorem dX12_beatGoes_118 : decode cX12_beatGoes 118 = .ok (.bipush 21, 2) := by decide +kernel
theorem dX12_beatGoes_120 : decode cX12_beatGoes 120 = .ok (.dup2, 1) := by decide +kernel
theorem dX12_beatGoes_121 : decode cX12_beatGoes 121 = .ok (.iaload, 1) := by decide +kernel
theorem dX12_beatGoes_122 : decode cX12_beatGoes 122 = .ok (.iconst 1, 1) := by decide +kernel
theorem dX12_beatGoes_123 : decode cX12_beatGoes 123 = .ok (.iadd, 1) := by decide +kernel
theorem dX12_beatGoes_124 : decode cX12_beatGoes 124 = .ok (.iastore, 1) := by decide +kernel
theorem dX12_beatGoes_125 : decode cX12_beatGoes 125 = .ok (.aload_n 0, 1) := by decide +kernel
theorem dX12_beatGoes_126 : decode cX12_beatGoes 126 = .ok (.getfield 110, 3) := by decide +kernel
theorem dX12_beatGoes_129 : decode cX12_beatGoes 129 = .ok (.bipush 28, 2) := by decide +kernel
theorem dX12_beatGoes_131 : decode cX12_beatGoes 131 = .ok (.iconst (-1), 1) := by decide +kernel
theorem dX12_beatGoes_132 : decode cX12_beatGoes 132 = .ok (.iastore, 1) := by decide +kernel
theorem dX12_beatGoes_133 : decode cX12_beatGoes 133 = .ok (.return_, 1) := by decide +kernel
theorem dX12_goes_0 : decode cX12_goes 0 = .ok (.iconst 0, 1) := by decide +kernel
theorem dX12_goes_1 : decode cX12_goes 1 = .ok (.istore_n 2, 1) := by decide +kernel
theorem dX12_goes_2 : decode cX12_goes 2 = .ok (.iload_n 2, 1) := by decide +kernel
theorem dX12_goes_3 : decode cX12_goes 3 = .ok (.iload_n 1, 1) := by decide +kernel
theorem dX12_goes_4 : decode cX12_goes 4 = .ok (.if_icmp .ge 13, 3) := by decide +kernel
theorem dX12_goes_7 : decode cX12_goes 7 = .ok (.aload_n 0, 1) := by decide +kernel
theorem dX12_goes_8 : decode cX12_goes 8 = .ok (.invokevirtual 387, 3) := by decide +kernel
theorem dX12_goes_11 : decode cX12_goes 11 = .ok (.iinc 2 1, 3) := by decide +kernel
theorem dX12_goes_14 : decode cX12_goes 14 = .ok (.goto (-12), 3) := by decide +kernel
theorem dX12_goes_17 : decode cX12_goes 17 = .ok (.return_, 1) := by decide +kernel
theorem dX12_keepsRow_0 : decode cX12_keepsRow 0 = .ok (.iconst 0, 1) := by decide +kernel
theorem dX12_keepsRow_1 : decode cX12_keepsRow 1 = .ok (.istore_n 1, 1) := by decide +kernel
theorem dX12_keepsRow_2 : decode cX12_keepsRow 2 = .ok (.iload_n 1, 1) := by decide +kernel
theorem dX12_keepsRow_3 : decode cX12_keepsRow 3 = .ok (.bipush 29, 2) := by decide +kernel
theorem dX12_keepsRow_5 : decode cX12_keepsRow 5 = .ok (.if_icmp .ge 21, 3) := by decide +kernel
theorem dX12_keepsRow_8 : decode cX12_keepsRow 8 = .ok (.aload_n 0, 1) := by decide +kernel
theorem dX12_keepsRow_9 : decode cX12_keepsRow 9 = .ok (.getfield 107, 3) := by decide +kernel
theorem dX12_keepsRow_12 : decode cX12_keepsRow 12 = .ok (.iload_n 1, 1) := by decide +kernel
theorem dX12_keepsRow_13 : decode cX12_keepsRow 13 = .ok (.aload_n 0, 1) := by decide +kernel
theorem dX12_keepsRow_14 : decode cX12_keepsRow 14 = .ok (.getfield 110, 3) := by decide +kernel
theorem dX12_keepsRow_17 : decode cX12_keepsRow 17 = .ok (.iload_n 1, 1) := by decide +kernel
theorem dX12_keepsRow_18 : decode cX12_keepsRow 18 = .ok (.iaload, 1) := by decide +kernel
theorem dX12_keepsRow_19 : decode cX12_keepsRow 19 = .ok (.iastore, 1) := by decide +kernel
theorem dX12_keepsRow_20 : decode cX12_keepsRow 20 = .ok (.iinc 1 1, 3) := by decide +kernel
theorem dX12_keepsRow_23 : decode cX12_keepsRow 23 = .ok (.goto (-21), 3) := by decide +kernel
theorem dX12_keepsRow_26 : decode cX12_keepsRow 26 = .ok (.return_, 1) := by decide +kernel
theorem dX12_records_0 : decode cX12_records 0 = .ok (.aload_n 0, 1) := by decide +kernel
theorem dX12_records_1 : decode cX12_records 1 = .ok (.getfield 239, 3) := by decide +kernel
theorem dX12_records_4 : decode cX12_records 4 = .ok (.bipush 40, 2) := by decide +kernel
theorem dX12_records_6 : decode cX12_records 6 = .ok (.if_icmp .ne 43, 3) := by decide +kernel
theorem dX12_records_49 : decode cX12_records 49 = .ok (.iconst 0, 1) := by decide +kernel
theorem dX12_records_50 : decode cX12_records 50 = .ok (.istore_n 1, 1) := by decide +kernel
theorem dX12_records_51 : decode cX12_records 51 = .ok (.iload_n 1, 1) := by decide +kernel
theorem dX12_records_52 : decode cX12_records 52 = .ok (.bipush 29, 2) := by decide +kernel
theorem dX12_records_54 : decode cX12_records 54 = .ok (.if_icmp .ge 29, 3) := by decide +kernel
theorem dX12_records_57 : decode cX12_records 57 = .ok (.aload_n 0, 1) := by decide +kernel
theorem dX12_records_58 : decode cX12_records 58 = .ok (.getfield 113, 3) := by decide +kernel
theorem dX12_records_61 : decode cX12_records 61 = .ok (.bipush 29, 2) := by decide +kernel
theorem dX12_records_63 : decode cX12_records 63 = .ok (.aload_n 0, 1) := by decide +kernel
theorem dX12_records_64 : decode cX12_records 64 = .ok (.getfield 239, 3) := by decide +kernel
theorem dX12_records_67 : decode cX12_records 67 = .ok (.imul, 1) := by decide +kernel
theorem dX12_records_68 : decode cX12_records 68 = .ok (.iload_n 1, 1) := by decide +kernel
theorem dX12_records_69 : decode cX12_records 69 = .ok (.iadd, 1) := by decide +kernel
theorem dX12_records_70 : decode cX12_records 70 = .ok (.aload_n 0, 1) := by decide +kernel
theorem dX12_records_71 : decode cX12_records 71 = .ok (.getfield 107, 3) := by decide +kernel
theorem dX12_records_74 : decode cX12_records 74 = .ok (.iload_n 1, 1) := by decide +kernel
theorem dX12_records_75 : decode cX12_records 75 = .ok (.iaload, 1) := by decide +kernel
theorem dX12_records_76 : decode cX12_records 76 = .ok (.iastore, 1) := by decide +kernel
theorem dX12_records_77 : decode cX12_records 77 = .ok (.iinc 1 1, 3) := by decide +kernel
theorem dX12_records_80 : decode cX12_records 80 = .ok (.goto (-29), 3) := by decide +kernel
theorem dX12_records_83 : decode cX12_records 83 = .ok (.aload_n 0, 1) := by decide +kernel
theorem dX12_records_84 : decode cX12_records 84 = .ok (.dup, 1) := by decide +kernel
theorem dX12_records_85 : decode cX12_records 85 = .ok (.getfield 239, 3) := by decide +kernel
theorem dX12_records_88 : decode cX12_records 88 = .ok (.iconst 1, 1) := by decide +kernel
theorem dX12_records_89 : decode cX12_records 89 = .ok (.iadd, 1) := by decide +kernel
theorem dX12_records_90 : decode cX12_records 90 = .ok (.putfield 239, 3) := by decide +kernel
theorem dX12_records_93 : decode cX12_records 93 = .ok (.aload_n 0, 1) := by decide +kernel
theorem dX12_records_94 : decode cX12_records 94 = .ok (.invokevirtual 151, 3) := by decide +kernel
theorem dX12_records_97 : decode cX12_records 97 = .ok (.return_, 1) := by decide +kernel
