theorem dX12_byteAt_8 : decode cX12_byteAt 8 = .ok (.aload_n 0, 1) := by decide +kernel
theorem dX12_byteAt_9 : decode cX12_byteAt 9 = .ok (.getfield 17, 3) := by decide +kernel
theorem dX12_byteAt_12 : decode cX12_byteAt 12 = .ok (.iload_n 1, 1) := by decide +kernel
theorem dX12_byteAt_13 : decode cX12_byteAt 13 = .ok (.baload, 1) := by decide +kernel
theorem dX12_byteAt_14 : decode cX12_byteAt 14 = .ok (.sipush 255, 3) := by decide +kernel
theorem dX12_byteAt_17 : decode cX12_byteAt 17 = .ok (.iand, 1) := by decide +kernel
theorem dX12_byteAt_18 : decode cX12_byteAt 18 = .ok (.goto 4, 3) := by decide +kernel
theorem dX12_told_0 : decode cX12_told 0 = .ok (.iload_n 1, 1) := by decide +kernel
theorem dX12_told_1 : decode cX12_told 1 = .ok (.iconst 1, 1) := by decide +kernel
theorem dX12_told_2 : decode cX12_told 2 = .ok (.if_icmp .ne 7, 3) := by decide +kernel
theorem dX12_told_5 : decode cX12_told 5 = .ok (.iload_n 0, 1) := by decide +kernel
theorem dX12_told_6 : decode cX12_told 6 = .ok (.goto 12, 3) := by decide +kernel
theorem dX12_told_9 : decode cX12_told 9 = .ok (.iload_n 0, 1) := by decide +kernel
theorem dX12_told_10 : decode cX12_told 10 = .ok (.ifCond .ge 7, 3) := by decide +kernel
theorem dX12_told_13 : decode cX12_told 13 = .ok (.iconst 0, 1) := by decide +kernel
theorem dX12_told_14 : decode cX12_told 14 = .ok (.goto 4, 3) := by decide +kernel
theorem dX12_told_17 : decode cX12_told 17 = .ok (.iconst 1, 1) := by decide +kernel
theorem dX12_told_18 : decode cX12_told 18 = .ok (.ireturn, 1) := by decide +kernel
theorem dX12_mixed_0 : decode cX12_mixed 0 = .ok (.iload_n 0, 1) := by decide +kernel
theorem dX12_mixed_1 : decode cX12_mixed 1 = .ok (.iload_n 1, 1) := by decide +kernel
theorem dX12_mixed_2 : decode cX12_mixed 2 = .ok (.ixor, 1) := by decide +kernel
theorem dX12_mixed_3 : decode cX12_mixed 3 = .ok (.ldc_w 314, 3) := by decide +kernel
theorem dX12_mixed_6 : decode cX12_mixed 6 = .ok (.imul, 1) := by decide +kernel
theorem dX12_mixed_7 : decode cX12_mixed 7 = .ok (.sipush 12345, 3) := by decide +kernel
theorem dX12_mixed_10 : decode cX12_mixed 10 = .ok (.iadd, 1) := by decide +kernel
theorem dX12_mixed_11 : decode cX12_mixed 11 = .ok (.istore_n 2, 1) := by decide +kernel
theorem dX12_mixed_12 : decode cX12_mixed 12 = .ok (.iload_n 2, 1) := by decide +kernel
theorem dX12_mixed_13 : decode cX12_mixed 13 = .ok (.iload_n 2, 1) := by decide +kernel
theorem dX12_mixed_14 : decode cX12_mixed 14 = .ok (.bipush 15, 2) := by decide +kernel
theorem dX12_mixed_16 : decode cX12_mixed 16 = .ok (.iushr, 1) := by decide +kernel
theorem dX12_mixed_17 : decode cX12_mixed 17 = .ok (.ixor, 1) := by decide +kernel
theorem dX12_mixed_18 : decode cX12_mixed 18 = .ok (.ireturn, 1) := by decide +kernel
theorem dX12_held_9 : decode cX12_held 9 = .ok (.iload_n 0, 1) := by decide +kernel
theorem dX12_held_10 : decode cX12_held 10 = .ok (.iload_n 2, 1) := by decide +kernel
theorem dX12_held_11 : decode cX12_held 11 = .ok (.if_icmp .le 7, 3) := by decide +kernel
theorem dX12_held_14 : decode cX12_held 14 = .ok (.iload_n 2, 1) := by decide +kernel
theorem dX12_held_15 : decode cX12_held 15 = .ok (.goto 4, 3) := by decide +kernel
theorem dX12_held_18 : decode cX12_held 18 = .ok (.iload_n 0, 1) := by decide +kernel
theorem dX12_thingsSo_17 : decode cX12_thingsSo 17 = .ok (.aload_n 0, 1) := by decide +kernel
theorem dX12_thingsSo_18 : decode cX12_thingsSo 18 = .ok (.getfield 110, 3) := by decide +kernel
theorem dX12_thingsSo_21 : decode cX12_thingsSo 21 = .ok (.iload_n 3, 1) := by decide +kernel
theorem dX12_thingsSo_22 : decode cX12_thingsSo 22 = .ok (.iaload, 1) := by decide +kernel
theorem dX12_thingsSo_23 : decode cX12_thingsSo 23 = .ok (.iload_n 1, 1) := by decide +kernel
theorem dX12_thingsSo_24 : decode cX12_thingsSo 24 = .ok (.if_icmp .ne 9, 3) := by decide +kernel
theorem dX12_thingsSo_27 : decode cX12_thingsSo 27 = .ok (.iload_n 2, 1) := by decide +kernel
theorem dX12_thingsSo_28 : decode cX12_thingsSo 28 = .ok (.iconst 1, 1) := by decide +kernel
theorem dX12_thingsSo_29 : decode cX12_thingsSo 29 = .ok (.iload_n 3, 1) := by decide +kernel
theorem dX12_thingsSo_30 : decode cX12_thingsSo 30 = .ok (.ishl, 1) := by decide +kernel
theorem dX12_thingsSo_31 : decode cX12_thingsSo 31 = .ok (.ior, 1) := by decide +kernel
theorem dX12_thingsSo_32 : decode cX12_thingsSo 32 = .ok (.istore_n 2, 1) := by decide +kernel
theorem dX12_thingsSo_33 : decode cX12_thingsSo 33 = .ok (.iinc 3 1, 3) := by decide +kernel
theorem dX12_thingsSo_36 : decode cX12_thingsSo 36 = .ok (.goto (-32), 3) := by decide +kernel
theorem dX12_weightsOf_17 : decode cX12_weightsOf 17 = .ok (.iload_n 1, 1) := by decide +kernel
theorem dX12_weightsOf_18 : decode cX12_weightsOf 18 = .ok (.iload_n 3, 1) := by decide +kernel
theorem dX12_weightsOf_19 : decode cX12_weightsOf 19 = .ok (.ishr, 1) := by decide +kernel
theorem dX12_weightsOf_20 : decode cX12_weightsOf 20 = .ok (.iconst 1, 1) := by decide +kernel
theorem dX12_weightsOf_21 : decode cX12_weightsOf 21 = .ok (.iand, 1) := by decide +kernel
theorem dX12_weightsOf_22 : decode cX12_weightsOf 22 = .ok (.iconst 1, 1) := by decide +kernel
theorem dX12_weightsOf_23 : decode cX12_weightsOf 23 = .ok (.if_icmp .ne 20, 3) := by decide +kernel
theorem dX12_weightsOf_26 : decode cX12_weightsOf 26 = .ok (.iload_n 2, 1) := by decide +kernel
theorem dX12_weightsOf_27 : decode cX12_weightsOf 27 = .ok (.aload_n 0, 1) := by decide +kernel
theorem dX12_weightsOf_28 : decode cX12_weightsOf 28 = .ok (.getfield 46, 3) := by decide +kernel
theorem dX12_weightsOf_31 : decode cX12_weightsOf 31 = .ok (.bipush 7, 2) := by decide +kernel
theorem dX12_weightsOf_33 : decode cX12_weightsOf 33 = .ok (.aload_n 0, 1) := by decide +kernel
theorem dX12_weightsOf_34 : decode cX12_weightsOf 34 = .ok (.getfield 221, 3) := by decide +kernel
theorem dX12_weightsOf_37 : decode cX12_weightsOf 37 = .ok (.imul, 1) := by decide +kernel
theorem dX12_weightsOf_38 : decode cX12_weightsOf 38 = .ok (.iload_n 3, 1) := by decide +kernel
theorem dX12_weightsOf_39 : decode cX12_weightsOf 39 = .ok (.iadd, 1) := by decide +kernel
theorem dX12_weightsOf_40 : decode cX12_weightsOf 40 = .ok (.iaload, 1) := by decide +kernel
theorem dX12_weightsOf_41 : decode cX12_weightsOf 41 = .ok (.iadd, 1) := by decide +kernel
theorem dX12_weightsOf_42 : decode cX12_weightsOf 42 = .ok (.istore_n 2, 1) := by decide +kernel
theorem dX12_weightsOf_43 : decode cX12_weightsOf 43 = .ok (.iinc 3 1, 3) := by decide +kernel
theorem dX12_weightsOf_46 : decode cX12_weightsOf 46 = .ok (.goto (-42), 3) := by decide +kernel
theorem dX12_doesLand_0 : decode cX12_doesLand 0 = .ok (.aload_n 0, 1) := by decide +kernel
theorem dX12_doesLand_1 : decode cX12_doesLand 1 = .ok (.getfield 110, 3) := by decide +kernel
theorem dX12_doesLand_4 : decode cX12_doesLand 4 = .ok (.iload_n 1, 1) := by decide +kernel
theorem dX12_doesLand_5 : decode cX12_doesLand 5 = .ok (.iaload, 1) := by decide +kernel
theorem dX12_doesLand_6 : decode cX12_doesLand 6 = .ok (.ifCond .ne 20, 3) := by decide +kernel
theorem dX12_doesLand_9 : decode cX12_doesLand 9 = .ok (.aload_n 0, 1) := by decide +kernel
theorem dX12_doesLand_10 : decode cX12_doesLand 10 = .ok (.getfield 110, 3) := by decide +kernel
theorem dX12_doesLand_13 : decode cX12_doesLand 13 = .ok (.bipush 7, 2) := by decide +kernel
theorem dX12_doesLand_15 : decode cX12_doesLand 15 = .ok (.iload_n 1, 1) := by decide +kernel
theorem dX12_doesLand_16 : decode cX12_doesLand 16 = .ok (.iadd, 1) := by decide +kernel
theorem dX12_doesLand_17 : decode cX12_doesLand 17 = .ok (.iaload, 1) := by decide +kernel
theorem dX12_doesLand_18 : decode cX12_doesLand 18 = .ok (.iload_n 2, 1) := by decide +kernel
theorem dX12_doesLand_19 : decode cX12_doesLand 19 = .ok (.if_icmp .ne 7, 3) := by decide +kernel
theorem dX12_doesLand_22 : decode cX12_doesLand 22 = .ok (.iconst 1, 1) := by decide +kernel
theorem dX12_doesLand_23 : decode cX12_doesLand 23 = .ok (.goto 4, 3) := by decide +kernel
theorem dX12_doesLand_26 : decode cX12_doesLand 26 = .ok (.iconst 0, 1) := by decide +kernel
theorem dX12_doesLand_27 : decode cX12_doesLand 27 = .ok (.ireturn, 1) := by decide +kernel
theorem dX12_landsAt_17 : decode cX12_landsAt 17 = .ok (.aload_n 0, 1) := by decide +kernel
theorem dX12_landsAt_18 : decode cX12_landsAt 18 = .ok (.iload_n 3, 1) := by decide +kernel
theorem dX12_landsAt_19 : decode cX12_landsAt 19 = .ok (.iload_n 1, 1) := by decide +kernel
theorem dX12_landsAt_20 : decode cX12_landsAt 20 = .ok (.invokevirtual 324, 3) := by decide +kernel
theorem dX12_landsAt_23 : decode cX12_landsAt 23 = .ok (.ifCond .eq 6, 3) := by decide +kernel
theorem dX12_landsAt_26 : decode cX12_landsAt 26 = .ok (.iinc 2 1, 3) := by decide +kernel
theorem dX12_landsAt_29 : decode cX12_landsAt 29 = .ok (.iinc 3 1, 3) := by decide +kernel
theorem dX12_landsAt_32 : decode cX12_landsAt 32 = .ok (.goto (-28), 3) := by decide +kernel
theorem dX12_catchesNow_15 : decode cX12_catchesNow 15 = .ok (.aload_n 0, 1) := by decide +kernel
theorem dX12_catchesNow_16 : decode cX12_catchesNow 16 = .ok (.iload_n 1, 1) := by decide +kernel
theorem dX12_catchesNow_17 : decode cX12_catchesNow 17 = .ok (.iconst 0, 1) := by decide +kernel
theorem dX12_catchesNow_18 : decode cX12_catchesNow 18 = .ok (.invokevirtual 324, 3) := by decide +kernel
theorem dX12_catchesNow_21 : decode cX12_catchesNow 21 = .ok (.ifCond .eq 5, 3) := by decide +kernel
theorem dX12_catchesNow_24 : decode cX12_catchesNow 24 = .ok (.iload_n 1, 1) := by decide +kernel
theorem dX12_catchesNow_25 : decode cX12_catchesNow 25 = .ok (.ireturn, 1) := by decide +kernel
theorem dX12_catchesNow_26 : decode cX12_catchesNow 26 = .ok (.iinc 1 1, 3) := by decide +kernel
theorem dX12_catchesNow_29 : decode cX12_catchesNow 29 = .ok (.goto (-27), 3) := by decide +kernel
theorem dX12_lotNow_0 : decode cX12_lotNow 0 = .ok (.aload_n 0, 1) := by decide +kernel
theorem dX12_lotNow_1 : decode cX12_lotNow 1 = .ok (.getfield 305, 3) := by decide +kernel
theorem dX12_lotNow_4 : decode cX12_lotNow 4 = .ok (.bipush 125, 2) := by decide +kernel
theorem dX12_lotNow_6 : decode cX12_lotNow 6 = .ok (.invokestatic 315, 3) := by decide +kernel
theorem dX12_lotNow_9 : decode cX12_lotNow 9 = .ok (.iconst 4, 1) := by decide +kernel
theorem dX12_lotNow_10 : decode cX12_lotNow 10 = .ok (.aload_n 0, 1) := by decide +kernel
theorem dX12_lotNow_11 : decode cX12_lotNow 11 = .ok (.getfield 110, 3) := by decide +kernel
theorem dX12_lotNow_14 : decode cX12_lotNow 14 = .ok (.bipush 21, 2) := by decide +kernel
theorem dX12_lotNow_16 : decode cX12_lotNow 16 = .ok (.iaload, 1) := by decide +kernel
theorem dX12_lotNow_17 : decode cX12_lotNow 17 = .ok (.imul, 1) := by decide +kernel
theorem dX12_lotNow_18 : decode cX12_lotNow 18 = .ok (.invokestatic 315, 3) := by decide +kernel
theorem dX12_lotNow_21 : decode cX12_lotNow 21 = .ok (.iconst 1, 1) := by decide +kernel
theorem dX12_lotNow_22 : decode cX12_lotNow 22 = .ok (.iushr, 1) := by decide +kernel
theorem dX12_lotNow_23 : decode cX12_lotNow 23 = .ok (.bipush 100, 2) := by decide +kernel
theorem dX12_lotNow_25 : decode cX12_lotNow 25 = .ok (.irem, 1) := by decide +kernel
theorem dX12_lotNow_26 : decode cX12_lotNow 26 = .ok (.ireturn, 1) := by decide +kernel
theorem dX12_lengthOf_0 : decode cX12_lengthOf 0 = .ok (.aload_n 0, 1) := by decide +kernel
theorem dX12_lengthOf_1 : decode cX12_lengthOf 1 = .ok (.getfield 58, 3) := by decide +kernel
theorem dX12_lengthOf_4 : decode cX12_lengthOf 4 = .ok (.iconst 5, 1) := by decide +kernel
theorem dX12_lengthOf_5 : decode cX12_lengthOf 5 = .ok (.aload_n 0, 1) := by decide +kernel
theorem dX12_lengthOf_6 : decode cX12_lengthOf 6 = .ok (.getfield 221, 3) := by decide +kernel
theorem dX12_lengthOf_9 : decode cX12_lengthOf 9 = .ok (.imul, 1) := by decide +kernel
theorem dX12_lengthOf_10 : decode cX12_lengthOf 10 = .ok (.iload_n 1, 1) := by decide +kernel
theorem dX12_lengthOf_11 : decode cX12_lengthOf 11 = .ok (.iadd, 1) := by decide +kernel
theorem dX12_lengthOf_12 : decode cX12_lengthOf 12 = .ok (.iaload, 1) := by decide +kernel
theorem dX12_lengthOf_13 : decode cX12_lengthOf 13 = .ok (.ireturn, 1) := by decide +kernel
theorem dX12_heightAt_0 : decode cX12_heightAt 0 = .ok (.aload_n 0, 1) := by decide +kernel
theorem dX12_heightAt_1 : decode cX12_heightAt 1 = .ok (.getfield 61, 3) := by decide +kernel
theorem dX12_heightAt_4 : decode cX12_heightAt 4 = .ok (.bipush 8, 2) := by decide +kernel
theorem dX12_heightAt_6 : decode cX12_heightAt 6 = .ok (.iconst 5, 1) := by decide +kernel
theorem dX12_heightAt_7 : decode cX12_heightAt 7 = .ok (.aload_n 0, 1) := by decide +kernel
theorem dX12_heightAt_8 : decode cX12_heightAt 8 = .ok (.getfield 221, 3) := by decide +kernel
theorem dX12_heightAt_11 : decode cX12_heightAt 11 = .ok (.imul, 1) := by decide +kernel
theorem dX12_heightAt_12 : decode cX12_heightAt 12 = .ok (.iload_n 1, 1) := by decide +kernel
theorem dX12_heightAt_13 : decode cX12_heightAt 13 = .ok (.iadd, 1) := by decide +kernel
theorem dX12_heightAt_14 : decode cX12_heightAt 14 = .ok (.imul, 1) := by decide +kernel
theorem dX12_heightAt_15 : decode cX12_heightAt 15 = .ok (.iload_n 2, 1) := by decide +kernel
theorem dX12_heightAt_16 : decode cX12_heightAt 16 = .ok (.aload_n 0, 1) := by decide +kernel
theorem dX12_heightAt_17 : decode cX12_heightAt 17 = .ok (.iload_n 1, 1) := by decide +kernel
theorem dX12_heightAt_18 : decode cX12_heightAt 18 = .ok (.invokevirtual 318, 3) := by decide +kernel
theorem dX12_heightAt_21 : decode cX12_heightAt 21 = .ok (.irem, 1) := by decide +kernel
theorem dX12_heightAt_22 : decode cX12_heightAt 22 = .ok (.iadd, 1) := by decide +kernel
theorem dX12_heightAt_23 : decode cX12_heightAt 23 = .ok (.iaload, 1) := by decide +kernel
theorem dX12_heightAt_24 : decode cX12_heightAt 24 = .ok (.ireturn, 1) := by decide +kernel
