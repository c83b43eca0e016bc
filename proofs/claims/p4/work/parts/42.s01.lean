theorem dJ9_floorMod_7cf53_0 : decode cJ9_floorMod_7cf53 0 = .ok (.iload_n 0, 1) := by decide +kernel
theorem dJ9_floorMod_7cf53_1 : decode cJ9_floorMod_7cf53 1 = .ok (.iload_n 1, 1) := by decide +kernel
theorem dJ9_floorMod_7cf53_2 : decode cJ9_floorMod_7cf53 2 = .ok (.irem, 1) := by decide +kernel
theorem dJ9_floorMod_7cf53_3 : decode cJ9_floorMod_7cf53 3 = .ok (.istore_n 2, 1) := by decide +kernel
theorem dJ9_floorMod_7cf53_4 : decode cJ9_floorMod_7cf53 4 = .ok (.iload_n 0, 1) := by decide +kernel
theorem dJ9_floorMod_7cf53_5 : decode cJ9_floorMod_7cf53 5 = .ok (.iload_n 1, 1) := by decide +kernel
theorem dJ9_floorMod_7cf53_6 : decode cJ9_floorMod_7cf53 6 = .ok (.ixor, 1) := by decide +kernel
theorem dJ9_floorMod_7cf53_7 : decode cJ9_floorMod_7cf53 7 = .ok (.ifCond .ge 11, 3) := by decide +kernel
theorem dJ9_floorMod_7cf53_10 : decode cJ9_floorMod_7cf53 10 = .ok (.iload_n 2, 1) := by decide +kernel
theorem dJ9_floorMod_7cf53_11 : decode cJ9_floorMod_7cf53 11 = .ok (.ifCond .eq 7, 3) := by decide +kernel
theorem dJ9_floorMod_7cf53_14 : decode cJ9_floorMod_7cf53 14 = .ok (.iload_n 2, 1) := by decide +kernel
theorem dJ9_floorMod_7cf53_15 : decode cJ9_floorMod_7cf53 15 = .ok (.iload_n 1, 1) := by decide +kernel
theorem dJ9_floorMod_7cf53_16 : decode cJ9_floorMod_7cf53 16 = .ok (.iadd, 1) := by decide +kernel
theorem dJ9_floorMod_7cf53_17 : decode cJ9_floorMod_7cf53 17 = .ok (.ireturn, 1) := by decide +kernel
theorem dJ9_floorMod_7cf53_18 : decode cJ9_floorMod_7cf53 18 = .ok (.iload_n 2, 1) := by decide +kernel
theorem dJ9_floorMod_7cf53_19 : decode cJ9_floorMod_7cf53 19 = .ok (.ireturn, 1) := by decide +kernel
theorem dX0_isUp_0 : decode cX0_isUp 0 = .ok (.aload_n 0, 1) := by decide +kernel
theorem dX0_isUp_1 : decode cX0_isUp 1 = .ok (.getfield 9, 3) := by decide +kernel
theorem dX0_isUp_4 : decode cX0_isUp 4 = .ok (.iload_n 1, 1) := by decide +kernel
theorem dX0_isUp_5 : decode cX0_isUp 5 = .ok (.iaload, 1) := by decide +kernel
theorem dX0_isUp_6 : decode cX0_isUp 6 = .ok (.ifCond .ne 7, 3) := by decide +kernel
theorem dX0_isUp_9 : decode cX0_isUp 9 = .ok (.iconst 1, 1) := by decide +kernel
theorem dX0_isUp_10 : decode cX0_isUp 10 = .ok (.goto 4, 3) := by decide +kernel
theorem dX0_isUp_13 : decode cX0_isUp 13 = .ok (.iconst 0, 1) := by decide +kernel
theorem dX0_isUp_14 : decode cX0_isUp 14 = .ok (.ireturn, 1) := by decide +kernel
theorem dX0_landsNow_0 : decode cX0_landsNow 0 = .ok (.aload_n 0, 1) := by decide +kernel
theorem dX0_landsNow_1 : decode cX0_landsNow 1 = .ok (.getfield 9, 3) := by decide +kernel
theorem dX0_landsNow_4 : decode cX0_landsNow 4 = .ok (.iload_n 1, 1) := by decide +kernel
theorem dX0_landsNow_5 : decode cX0_landsNow 5 = .ok (.iaload, 1) := by decide +kernel
theorem dX0_landsNow_6 : decode cX0_landsNow 6 = .ok (.ifCond .ne 16, 3) := by decide +kernel
theorem dX0_landsNow_9 : decode cX0_landsNow 9 = .ok (.aload_n 0, 1) := by decide +kernel
theorem dX0_landsNow_10 : decode cX0_landsNow 10 = .ok (.getfield 15, 3) := by decide +kernel
theorem dX0_landsNow_13 : decode cX0_landsNow 13 = .ok (.iload_n 1, 1) := by decide +kernel
theorem dX0_landsNow_14 : decode cX0_landsNow 14 = .ok (.iaload, 1) := by decide +kernel
theorem dX0_landsNow_15 : decode cX0_landsNow 15 = .ok (.ifCond .ne 7, 3) := by decide +kernel
theorem dX0_landsNow_18 : decode cX0_landsNow 18 = .ok (.iconst 1, 1) := by decide +kernel
theorem dX0_landsNow_19 : decode cX0_landsNow 19 = .ok (.goto 4, 3) := by decide +kernel
theorem dX0_landsNow_22 : decode cX0_landsNow 22 = .ok (.iconst 0, 1) := by decide +kernel
theorem dX0_landsNow_23 : decode cX0_landsNow 23 = .ok (.ireturn, 1) := by decide +kernel
theorem dX0_putUp_0 : decode cX0_putUp 0 = .ok (.aload_n 0, 1) := by decide +kernel
theorem dX0_putUp_1 : decode cX0_putUp 1 = .ok (.getfield 9, 3) := by decide +kernel
theorem dX0_putUp_4 : decode cX0_putUp 4 = .ok (.iload_n 1, 1) := by decide +kernel
theorem dX0_putUp_5 : decode cX0_putUp 5 = .ok (.iconst 0, 1) := by decide +kernel
theorem dX0_putUp_6 : decode cX0_putUp 6 = .ok (.iastore, 1) := by decide +kernel
theorem dX0_putUp_7 : decode cX0_putUp 7 = .ok (.aload_n 0, 1) := by decide +kernel
theorem dX0_putUp_8 : decode cX0_putUp 8 = .ok (.getfield 15, 3) := by decide +kernel
theorem dX0_putUp_11 : decode cX0_putUp 11 = .ok (.iload_n 1, 1) := by decide +kernel
theorem dX0_putUp_12 : decode cX0_putUp 12 = .ok (.iload_n 2, 1) := by decide +kernel
theorem dX0_putUp_13 : decode cX0_putUp 13 = .ok (.iastore, 1) := by decide +kernel
theorem dX0_putUp_14 : decode cX0_putUp 14 = .ok (.return_, 1) := by decide +kernel
theorem dX0_takeUp_0 : decode cX0_takeUp 0 = .ok (.aload_n 0, 1) := by decide +kernel
theorem dX0_takeUp_1 : decode cX0_takeUp 1 = .ok (.iload_n 1, 1) := by decide +kernel
theorem dX0_takeUp_2 : decode cX0_takeUp 2 = .ok (.putfield 21, 3) := by decide +kernel
theorem dX0_takeUp_5 : decode cX0_takeUp 5 = .ok (.aload_n 0, 1) := by decide +kernel
theorem dX0_takeUp_6 : decode cX0_takeUp 6 = .ok (.aload_n 0, 1) := by decide +kernel
theorem dX0_takeUp_7 : decode cX0_takeUp 7 = .ok (.getfield 49, 3) := by decide +kernel
theorem dX0_takeUp_10 : decode cX0_takeUp 10 = .ok (.putfield 67, 3) := by decide +kernel
theorem dX0_takeUp_13 : decode cX0_takeUp 13 = .ok (.return_, 1) := by decide +kernel
theorem dX0_drop_0 : decode cX0_drop 0 = .ok (.aload_n 0, 1) := by decide +kernel
theorem dX0_drop_1 : decode cX0_drop 1 = .ok (.getfield 9, 3) := by decide +kernel
theorem dX0_drop_4 : decode cX0_drop 4 = .ok (.iload_n 1, 1) := by decide +kernel
theorem dX0_drop_5 : decode cX0_drop 5 = .ok (.iconst 2, 1) := by decide +kernel
theorem dX0_drop_6 : decode cX0_drop 6 = .ok (.iastore, 1) := by decide +kernel
theorem dX0_drop_7 : decode cX0_drop 7 = .ok (.aload_n 0, 1) := by decide +kernel
theorem dX0_drop_8 : decode cX0_drop 8 = .ok (.dup, 1) := by decide +kernel
theorem dX0_drop_9 : decode cX0_drop 9 = .ok (.getfield 55, 3) := by decide +kernel
theorem dX0_drop_12 : decode cX0_drop 12 = .ok (.iconst 1, 1) := by decide +kernel
theorem dX0_drop_13 : decode cX0_drop 13 = .ok (.iadd, 1) := by decide +kernel
theorem dX0_drop_14 : decode cX0_drop 14 = .ok (.putfield 55, 3) := by decide +kernel
theorem dX0_drop_17 : decode cX0_drop 17 = .ok (.return_, 1) := by decide +kernel
theorem dX0_bitsOf_12 : decode cX0_bitsOf 12 = .ok (.aload_n 0, 1) := by decide +kernel
theorem dX0_bitsOf_13 : decode cX0_bitsOf 13 = .ok (.getfield 9, 3) := by decide +kernel
theorem dX0_bitsOf_16 : decode cX0_bitsOf 16 = .ok (.iload_n 3, 1) := by decide +kernel
theorem dX0_bitsOf_17 : decode cX0_bitsOf 17 = .ok (.iaload, 1) := by decide +kernel
theorem dX0_bitsOf_18 : decode cX0_bitsOf 18 = .ok (.iload_n 1, 1) := by decide +kernel
theorem dX0_bitsOf_19 : decode cX0_bitsOf 19 = .ok (.if_icmp .ne 9, 3) := by decide +kernel
theorem dX0_bitsOf_22 : decode cX0_bitsOf 22 = .ok (.iload_n 2, 1) := by decide +kernel
theorem dX0_bitsOf_23 : decode cX0_bitsOf 23 = .ok (.iconst 1, 1) := by decide +kernel
theorem dX0_bitsOf_24 : decode cX0_bitsOf 24 = .ok (.iload_n 3, 1) := by decide +kernel
theorem dX0_bitsOf_25 : decode cX0_bitsOf 25 = .ok (.ishl, 1) := by decide +kernel
theorem dX0_bitsOf_26 : decode cX0_bitsOf 26 = .ok (.ior, 1) := by decide +kernel
theorem dX0_bitsOf_27 : decode cX0_bitsOf 27 = .ok (.istore_n 2, 1) := by decide +kernel
theorem dX0_bitsOf_28 : decode cX0_bitsOf 28 = .ok (.iinc 3 1, 3) := by decide +kernel
theorem dX0_bitsOf_31 : decode cX0_bitsOf 31 = .ok (.goto (-27), 3) := by decide +kernel
theorem dX0_firstLanding_10 : decode cX0_firstLanding 10 = .ok (.aload_n 0, 1) := by decide +kernel
theorem dX0_firstLanding_11 : decode cX0_firstLanding 11 = .ok (.iload_n 1, 1) := by decide +kernel
theorem dX0_firstLanding_12 : decode cX0_firstLanding 12 = .ok (.invokevirtual 79, 3) := by decide +kernel
theorem dX0_firstLanding_15 : decode cX0_firstLanding 15 = .ok (.ifCond .eq 5, 3) := by decide +kernel
theorem dX0_firstLanding_18 : decode cX0_firstLanding 18 = .ok (.iload_n 1, 1) := by decide +kernel
theorem dX0_firstLanding_19 : decode cX0_firstLanding 19 = .ok (.ireturn, 1) := by decide +kernel
theorem dX0_firstLanding_20 : decode cX0_firstLanding 20 = .ok (.iinc 1 1, 3) := by decide +kernel
theorem dX0_firstLanding_23 : decode cX0_firstLanding 23 = .ok (.goto (-21), 3) := by decide +kernel
theorem dX0_howManyLand_12 : decode cX0_howManyLand 12 = .ok (.aload_n 0, 1) := by decide +kernel
theorem dX0_howManyLand_13 : decode cX0_howManyLand 13 = .ok (.iload_n 2, 1) := by decide +kernel
theorem dX0_howManyLand_14 : decode cX0_howManyLand 14 = .ok (.invokevirtual 79, 3) := by decide +kernel
theorem dX0_howManyLand_17 : decode cX0_howManyLand 17 = .ok (.ifCond .eq 6, 3) := by decide +kernel
theorem dX0_howManyLand_20 : decode cX0_howManyLand 20 = .ok (.iinc 1 1, 3) := by decide +kernel
theorem dX0_howManyLand_23 : decode cX0_howManyLand 23 = .ok (.iinc 2 1, 3) := by decide +kernel
theorem dX0_howManyLand_26 : decode cX0_howManyLand 26 = .ok (.goto (-22), 3) := by decide +kernel
theorem dX0_landingBits_12 : decode cX0_landingBits 12 = .ok (.aload_n 0, 1) := by decide +kernel
theorem dX0_landingBits_13 : decode cX0_landingBits 13 = .ok (.iload_n 2, 1) := by decide +kernel
theorem dX0_landingBits_14 : decode cX0_landingBits 14 = .ok (.invokevirtual 83, 3) := by decide +kernel
theorem dX0_landingBits_17 : decode cX0_landingBits 17 = .ok (.ifCond .eq 14, 3) := by decide +kernel
theorem dX0_landingBits_20 : decode cX0_landingBits 20 = .ok (.iload_n 1, 1) := by decide +kernel
theorem dX0_landingBits_21 : decode cX0_landingBits 21 = .ok (.iconst 1, 1) := by decide +kernel
theorem dX0_landingBits_22 : decode cX0_landingBits 22 = .ok (.aload_n 0, 1) := by decide +kernel
theorem dX0_landingBits_23 : decode cX0_landingBits 23 = .ok (.getfield 15, 3) := by decide +kernel
theorem dX0_landingBits_26 : decode cX0_landingBits 26 = .ok (.iload_n 2, 1) := by decide +kernel
theorem dX0_landingBits_27 : decode cX0_landingBits 27 = .ok (.iaload, 1) := by decide +kernel
theorem dX0_landingBits_28 : decode cX0_landingBits 28 = .ok (.ishl, 1) := by decide +kernel
theorem dX0_landingBits_29 : decode cX0_landingBits 29 = .ok (.ior, 1) := by decide +kernel
theorem dX0_landingBits_30 : decode cX0_landingBits 30 = .ok (.istore_n 1, 1) := by decide +kernel
theorem dX0_landingBits_31 : decode cX0_landingBits 31 = .ok (.iinc 2 1, 3) := by decide +kernel
theorem dX0_landingBits_34 : decode cX0_landingBits 34 = .ok (.goto (-30), 3) := by decide +kernel
theorem dX0_twoLandAlike_0 : decode cX0_twoLandAlike 0 = .ok (.aload_n 0, 1) := by decide +kernel
theorem dX0_twoLandAlike_1 : decode cX0_twoLandAlike 1 = .ok (.invokevirtual 86, 3) := by decide +kernel
theorem dX0_twoLandAlike_4 : decode cX0_twoLandAlike 4 = .ok (.invokestatic 74, 3) := by decide +kernel
theorem dX0_twoLandAlike_7 : decode cX0_twoLandAlike 7 = .ok (.aload_n 0, 1) := by decide +kernel
theorem dX0_twoLandAlike_8 : decode cX0_twoLandAlike 8 = .ok (.invokevirtual 90, 3) := by decide +kernel
theorem dX0_twoLandAlike_11 : decode cX0_twoLandAlike 11 = .ok (.if_icmp .ge 7, 3) := by decide +kernel
theorem dX0_twoLandAlike_14 : decode cX0_twoLandAlike 14 = .ok (.iconst 1, 1) := by decide +kernel
theorem dX0_twoLandAlike_15 : decode cX0_twoLandAlike 15 = .ok (.goto 4, 3) := by decide +kernel
theorem dX0_twoLandAlike_18 : decode cX0_twoLandAlike 18 = .ok (.iconst 0, 1) := by decide +kernel
theorem dX0_twoLandAlike_19 : decode cX0_twoLandAlike 19 = .ok (.ireturn, 1) := by decide +kernel
theorem dX10_hasThing_12 : decode cX10_hasThing 12 = .ok (.iconst 1, 1) := by decide +kernel
theorem dX10_hasThing_13 : decode cX10_hasThing 13 = .ok (.goto 4, 3) := by decide +kernel
theorem dX10_hasPattern_12 : decode cX10_hasPattern 12 = .ok (.iconst 1, 1) := by decide +kernel
theorem dX10_hasPattern_13 : decode cX10_hasPattern 13 = .ok (.goto 4, 3) := by decide +kernel
