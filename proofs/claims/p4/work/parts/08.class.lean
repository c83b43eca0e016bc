theorem dX10_hasThing_0 : decode cX10_hasThing 0 = .ok (.iload_n 1, 1) := by decide +kernel
theorem dX10_hasThing_1 : decode cX10_hasThing 1 = .ok (.ifCond .lt 15, 3) := by decide +kernel
theorem dX10_hasThing_4 : decode cX10_hasThing 4 = .ok (.iload_n 1, 1) := by decide +kernel
theorem dX10_hasThing_5 : decode cX10_hasThing 5 = .ok (.aload_n 0, 1) := by decide +kernel
theorem dX10_hasThing_6 : decode cX10_hasThing 6 = .ok (.getfield 38, 3) := by decide +kernel
theorem dX10_hasThing_9 : decode cX10_hasThing 9 = .ok (.if_icmp .ge 7, 3) := by decide +kernel
theorem dX10_hasThing_16 : decode cX10_hasThing 16 = .ok (.iconst 0, 1) := by decide +kernel
theorem dX10_hasThing_17 : decode cX10_hasThing 17 = .ok (.ireturn, 1) := by decide +kernel
theorem dX10_hasPattern_0 : decode cX10_hasPattern 0 = .ok (.iload_n 1, 1) := by decide +kernel
theorem dX10_hasPattern_1 : decode cX10_hasPattern 1 = .ok (.ifCond .lt 15, 3) := by decide +kernel
theorem dX10_hasPattern_4 : decode cX10_hasPattern 4 = .ok (.iload_n 1, 1) := by decide +kernel
theorem dX10_hasPattern_5 : decode cX10_hasPattern 5 = .ok (.aload_n 0, 1) := by decide +kernel
theorem dX10_hasPattern_6 : decode cX10_hasPattern 6 = .ok (.getfield 42, 3) := by decide +kernel
theorem dX10_hasPattern_9 : decode cX10_hasPattern 9 = .ok (.if_icmp .ge 7, 3) := by decide +kernel
theorem dX10_hasPattern_16 : decode cX10_hasPattern 16 = .ok (.iconst 0, 1) := by decide +kernel
theorem dX10_hasPattern_17 : decode cX10_hasPattern 17 = .ok (.ireturn, 1) := by decide +kernel
theorem dJ6_bitCount_0f7a4_0 : decode cJ6_bitCount_0f7a4 0 = .ok (.iload_n 0, 1) := by decide +kernel
theorem dJ6_bitCount_0f7a4_1 : decode cJ6_bitCount_0f7a4 1 = .ok (.iload_n 0, 1) := by decide +kernel
theorem dJ6_bitCount_0f7a4_2 : decode cJ6_bitCount_0f7a4 2 = .ok (.iconst 1, 1) := by decide +kernel
theorem dJ6_bitCount_0f7a4_3 : decode cJ6_bitCount_0f7a4 3 = .ok (.iushr, 1) := by decide +kernel
theorem dJ6_bitCount_0f7a4_4 : decode cJ6_bitCount_0f7a4 4 = .ok (.ldc_w 265, 3) := by decide +kernel
theorem dJ6_bitCount_0f7a4_7 : decode cJ6_bitCount_0f7a4 7 = .ok (.iand, 1) := by decide +kernel
theorem dJ6_bitCount_0f7a4_8 : decode cJ6_bitCount_0f7a4 8 = .ok (.isub, 1) := by decide +kernel
theorem dJ6_bitCount_0f7a4_9 : decode cJ6_bitCount_0f7a4 9 = .ok (.istore_n 0, 1) := by decide +kernel
theorem dJ6_bitCount_0f7a4_10 : decode cJ6_bitCount_0f7a4 10 = .ok (.iload_n 0, 1) := by decide +kernel
theorem dJ6_bitCount_0f7a4_11 : decode cJ6_bitCount_0f7a4 11 = .ok (.ldc_w 266, 3) := by decide +kernel
theorem dJ6_bitCount_0f7a4_14 : decode cJ6_bitCount_0f7a4 14 = .ok (.iand, 1) := by decide +kernel
theorem dJ6_bitCount_0f7a4_15 : decode cJ6_bitCount_0f7a4 15 = .ok (.iload_n 0, 1) := by decide +kernel
theorem dJ6_bitCount_0f7a4_16 : decode cJ6_bitCount_0f7a4 16 = .ok (.iconst 2, 1) := by decide +kernel
theorem dJ6_bitCount_0f7a4_17 : decode cJ6_bitCount_0f7a4 17 = .ok (.iushr, 1) := by decide +kernel
theorem dJ6_bitCount_0f7a4_18 : decode cJ6_bitCount_0f7a4 18 = .ok (.ldc_w 266, 3) := by decide +kernel
theorem dJ6_bitCount_0f7a4_21 : decode cJ6_bitCount_0f7a4 21 = .ok (.iand, 1) := by decide +kernel
theorem dJ6_bitCount_0f7a4_22 : decode cJ6_bitCount_0f7a4 22 = .ok (.iadd, 1) := by decide +kernel
theorem dJ6_bitCount_0f7a4_23 : decode cJ6_bitCount_0f7a4 23 = .ok (.istore_n 0, 1) := by decide +kernel
theorem dJ6_bitCount_0f7a4_24 : decode cJ6_bitCount_0f7a4 24 = .ok (.iload_n 0, 1) := by decide +kernel
theorem dJ6_bitCount_0f7a4_25 : decode cJ6_bitCount_0f7a4 25 = .ok (.iload_n 0, 1) := by decide +kernel
theorem dJ6_bitCount_0f7a4_26 : decode cJ6_bitCount_0f7a4 26 = .ok (.iconst 4, 1) := by decide +kernel
theorem dJ6_bitCount_0f7a4_27 : decode cJ6_bitCount_0f7a4 27 = .ok (.iushr, 1) := by decide +kernel
theorem dJ6_bitCount_0f7a4_28 : decode cJ6_bitCount_0f7a4 28 = .ok (.iadd, 1) := by decide +kernel
theorem dJ6_bitCount_0f7a4_29 : decode cJ6_bitCount_0f7a4 29 = .ok (.ldc_w 267, 3) := by decide +kernel
theorem dJ6_bitCount_0f7a4_32 : decode cJ6_bitCount_0f7a4 32 = .ok (.iand, 1) := by decide +kernel
theorem dJ6_bitCount_0f7a4_33 : decode cJ6_bitCount_0f7a4 33 = .ok (.istore_n 0, 1) := by decide +kernel
theorem dJ6_bitCount_0f7a4_34 : decode cJ6_bitCount_0f7a4 34 = .ok (.iload_n 0, 1) := by decide +kernel
theorem dJ6_bitCount_0f7a4_35 : decode cJ6_bitCount_0f7a4 35 = .ok (.iload_n 0, 1) := by decide +kernel
theorem dJ6_bitCount_0f7a4_36 : decode cJ6_bitCount_0f7a4 36 = .ok (.bipush 8, 2) := by decide +kernel
theorem dJ6_bitCount_0f7a4_38 : decode cJ6_bitCount_0f7a4 38 = .ok (.iushr, 1) := by decide +kernel
theorem dJ6_bitCount_0f7a4_39 : decode cJ6_bitCount_0f7a4 39 = .ok (.iadd, 1) := by decide +kernel
theorem dJ6_bitCount_0f7a4_40 : decode cJ6_bitCount_0f7a4 40 = .ok (.istore_n 0, 1) := by decide +kernel
theorem dJ6_bitCount_0f7a4_41 : decode cJ6_bitCount_0f7a4 41 = .ok (.iload_n 0, 1) := by decide +kernel
theorem dJ6_bitCount_0f7a4_42 : decode cJ6_bitCount_0f7a4 42 = .ok (.iload_n 0, 1) := by decide +kernel
theorem dJ6_bitCount_0f7a4_43 : decode cJ6_bitCount_0f7a4 43 = .ok (.bipush 16, 2) := by decide +kernel
theorem dJ6_bitCount_0f7a4_45 : decode cJ6_bitCount_0f7a4 45 = .ok (.iushr, 1) := by decide +kernel
theorem dJ6_bitCount_0f7a4_46 : decode cJ6_bitCount_0f7a4 46 = .ok (.iadd, 1) := by decide +kernel
theorem dJ6_bitCount_0f7a4_47 : decode cJ6_bitCount_0f7a4 47 = .ok (.istore_n 0, 1) := by decide +kernel
theorem dJ6_bitCount_0f7a4_48 : decode cJ6_bitCount_0f7a4 48 = .ok (.iload_n 0, 1) := by decide +kernel
theorem dJ6_bitCount_0f7a4_49 : decode cJ6_bitCount_0f7a4 49 = .ok (.bipush 63, 2) := by decide +kernel
theorem dJ6_bitCount_0f7a4_51 : decode cJ6_bitCount_0f7a4 51 = .ok (.iand, 1) := by decide +kernel
theorem dJ6_bitCount_0f7a4_52 : decode cJ6_bitCount_0f7a4 52 = .ok (.ireturn, 1) := by decide +kernel
theorem dX0_firstLanding_0 : decode cX0_firstLanding 0 = .ok (.iconst 0, 1) := by decide +kernel
theorem dX0_firstLanding_1 : decode cX0_firstLanding 1 = .ok (.istore_n 1, 1) := by decide +kernel
theorem dX0_firstLanding_2 : decode cX0_firstLanding 2 = .ok (.iload_n 1, 1) := by decide +kernel
theorem dX0_firstLanding_3 : decode cX0_firstLanding 3 = .ok (.aload_n 0, 1) := by decide +kernel
theorem dX0_firstLanding_4 : decode cX0_firstLanding 4 = .ok (.getfield 33, 3) := by decide +kernel
theorem dX0_firstLanding_7 : decode cX0_firstLanding 7 = .ok (.if_icmp .ge 19, 3) := by decide +kernel
theorem dX0_firstLanding_26 : decode cX0_firstLanding 26 = .ok (.iconst (-1), 1) := by decide +kernel
theorem dX0_firstLanding_27 : decode cX0_firstLanding 27 = .ok (.ireturn, 1) := by decide +kernel
theorem dX0_howManyLand_0 : decode cX0_howManyLand 0 = .ok (.iconst 0, 1) := by decide +kernel
theorem dX0_howManyLand_1 : decode cX0_howManyLand 1 = .ok (.istore_n 1, 1) := by decide +kernel
theorem dX0_howManyLand_2 : decode cX0_howManyLand 2 = .ok (.iconst 0, 1) := by decide +kernel
theorem dX0_howManyLand_3 : decode cX0_howManyLand 3 = .ok (.istore_n 2, 1) := by decide +kernel
theorem dX0_howManyLand_4 : decode cX0_howManyLand 4 = .ok (.iload_n 2, 1) := by decide +kernel
theorem dX0_howManyLand_5 : decode cX0_howManyLand 5 = .ok (.aload_n 0, 1) := by decide +kernel
theorem dX0_howManyLand_6 : decode cX0_howManyLand 6 = .ok (.getfield 33, 3) := by decide +kernel
theorem dX0_howManyLand_9 : decode cX0_howManyLand 9 = .ok (.if_icmp .ge 20, 3) := by decide +kernel
theorem dX0_howManyLand_29 : decode cX0_howManyLand 29 = .ok (.iload_n 1, 1) := by decide +kernel
theorem dX0_howManyLand_30 : decode cX0_howManyLand 30 = .ok (.ireturn, 1) := by decide +kernel
theorem dX0_landingBits_0 : decode cX0_landingBits 0 = .ok (.iconst 0, 1) := by decide +kernel
theorem dX0_landingBits_1 : decode cX0_landingBits 1 = .ok (.istore_n 1, 1) := by decide +kernel
theorem dX0_landingBits_2 : decode cX0_landingBits 2 = .ok (.iconst 0, 1) := by decide +kernel
theorem dX0_landingBits_3 : decode cX0_landingBits 3 = .ok (.istore_n 2, 1) := by decide +kernel
theorem dX0_landingBits_4 : decode cX0_landingBits 4 = .ok (.iload_n 2, 1) := by decide +kernel
theorem dX0_landingBits_5 : decode cX0_landingBits 5 = .ok (.aload_n 0, 1) := by decide +kernel
theorem dX0_landingBits_6 : decode cX0_landingBits 6 = .ok (.getfield 33, 3) := by decide +kernel
theorem dX0_landingBits_9 : decode cX0_landingBits 9 = .ok (.if_icmp .ge 28, 3) := by decide +kernel
theorem dX0_landingBits_37 : decode cX0_landingBits 37 = .ok (.iload_n 1, 1) := by decide +kernel
theorem dX0_landingBits_38 : decode cX0_landingBits 38 = .ok (.ireturn, 1) := by decide +kernel
theorem dX0_bitsOf_0 : decode cX0_bitsOf 0 = .ok (.iconst 0, 1) := by decide +kernel
theorem dX0_bitsOf_1 : decode cX0_bitsOf 1 = .ok (.istore_n 2, 1) := by decide +kernel
theorem dX0_bitsOf_2 : decode cX0_bitsOf 2 = .ok (.iconst 0, 1) := by decide +kernel
theorem dX0_bitsOf_3 : decode cX0_bitsOf 3 = .ok (.istore_n 3, 1) := by decide +kernel
theorem dX0_bitsOf_4 : decode cX0_bitsOf 4 = .ok (.iload_n 3, 1) := by decide +kernel
theorem dX0_bitsOf_5 : decode cX0_bitsOf 5 = .ok (.aload_n 0, 1) := by decide +kernel
theorem dX0_bitsOf_6 : decode cX0_bitsOf 6 = .ok (.getfield 33, 3) := by decide +kernel
theorem dX0_bitsOf_9 : decode cX0_bitsOf 9 = .ok (.if_icmp .ge 25, 3) := by decide +kernel
theorem dX0_bitsOf_34 : decode cX0_bitsOf 34 = .ok (.iload_n 2, 1) := by decide +kernel
theorem dX0_bitsOf_35 : decode cX0_bitsOf 35 = .ok (.ireturn, 1) := by decide +kernel
theorem dX0_howManyUp_0 : decode cX0_howManyUp 0 = .ok (.aload_n 0, 1) := by decide +kernel
theorem dX0_howManyUp_1 : decode cX0_howManyUp 1 = .ok (.iconst 0, 1) := by decide +kernel
theorem dX0_howManyUp_2 : decode cX0_howManyUp 2 = .ok (.invokevirtual 70, 3) := by decide +kernel
theorem dX0_howManyUp_5 : decode cX0_howManyUp 5 = .ok (.invokestatic 74, 3) := by decide +kernel
theorem dX0_howManyUp_8 : decode cX0_howManyUp 8 = .ok (.ireturn, 1) := by decide +kernel
theorem dX0_heightBy_0 : decode cX0_heightBy 0 = .ok (.aload_n 0, 1) := by decide +kernel
theorem dX0_heightBy_1 : decode cX0_heightBy 1 = .ok (.getfield 25, 3) := by decide +kernel
theorem dX0_heightBy_4 : decode cX0_heightBy 4 = .ok (.iconst (-1), 1) := by decide +kernel
theorem dX0_heightBy_5 : decode cX0_heightBy 5 = .ok (.if_icmp .eq 8, 3) := by decide +kernel
theorem dX0_heightBy_13 : decode cX0_heightBy 13 = .ok (.aload_n 1, 1) := by decide +kernel
theorem dX0_heightBy_14 : decode cX0_heightBy 14 = .ok (.aload_n 0, 1) := by decide +kernel
theorem dX0_heightBy_15 : decode cX0_heightBy 15 = .ok (.getfield 21, 3) := by decide +kernel
theorem dX0_heightBy_18 : decode cX0_heightBy 18 = .ok (.invokevirtual 93, 3) := by decide +kernel
theorem dX0_heightBy_21 : decode cX0_heightBy 21 = .ok (.ifCond .eq 16, 3) := by decide +kernel
theorem dX0_heightBy_37 : decode cX0_heightBy 37 = .ok (.iconst 3, 1) := by decide +kernel
theorem dX0_heightBy_38 : decode cX0_heightBy 38 = .ok (.ireturn, 1) := by decide +kernel
theorem dX0_copy_0 : decode cX0_copy 0 = .ok (.aload_n 0, 1) := by decide +kernel
theorem dX0_copy_1 : decode cX0_copy 1 = .ok (.aload_n 1, 1) := by decide +kernel
theorem dX0_copy_2 : decode cX0_copy 2 = .ok (.getfield 33, 3) := by decide +kernel
theorem dX0_copy_5 : decode cX0_copy 5 = .ok (.putfield 33, 3) := by decide +kernel
theorem dX0_copy_8 : decode cX0_copy 8 = .ok (.aload_n 1, 1) := by decide +kernel
theorem dX0_copy_9 : decode cX0_copy 9 = .ok (.getfield 9, 3) := by decide +kernel
theorem dX0_copy_12 : decode cX0_copy 12 = .ok (.iconst 0, 1) := by decide +kernel
theorem dX0_copy_13 : decode cX0_copy 13 = .ok (.aload_n 0, 1) := by decide +kernel
theorem dX0_copy_14 : decode cX0_copy 14 = .ok (.getfield 9, 3) := by decide +kernel
theorem dX0_copy_17 : decode cX0_copy 17 = .ok (.iconst 0, 1) := by decide +kernel
theorem dX0_copy_18 : decode cX0_copy 18 = .ok (.bipush 7, 2) := by decide +kernel
theorem dX0_copy_20 : decode cX0_copy 20 = .ok (.invokestatic 43, 3) := by decide +kernel
theorem dX0_copy_23 : decode cX0_copy 23 = .ok (.aload_n 1, 1) := by decide +kernel
theorem dX0_copy_24 : decode cX0_copy 24 = .ok (.getfield 15, 3) := by decide +kernel
theorem dX0_copy_27 : decode cX0_copy 27 = .ok (.iconst 0, 1) := by decide +kernel
theorem dX0_copy_28 : decode cX0_copy 28 = .ok (.aload_n 0, 1) := by decide +kernel
theorem dX0_copy_29 : decode cX0_copy 29 = .ok (.getfield 15, 3) := by decide +kernel
theorem dX0_copy_32 : decode cX0_copy 32 = .ok (.iconst 0, 1) := by decide +kernel
theorem dX0_copy_33 : decode cX0_copy 33 = .ok (.bipush 7, 2) := by decide +kernel
theorem dX0_copy_35 : decode cX0_copy 35 = .ok (.invokestatic 43, 3) := by decide +kernel
theorem dX0_copy_38 : decode cX0_copy 38 = .ok (.aload_n 1, 1) := by decide +kernel
theorem dX0_copy_39 : decode cX0_copy 39 = .ok (.getfield 18, 3) := by decide +kernel
theorem dX0_copy_42 : decode cX0_copy 42 = .ok (.iconst 0, 1) := by decide +kernel
theorem dX0_copy_43 : decode cX0_copy 43 = .ok (.aload_n 0, 1) := by decide +kernel
theorem dX0_copy_44 : decode cX0_copy 44 = .ok (.getfield 18, 3) := by decide +kernel
theorem dX0_copy_47 : decode cX0_copy 47 = .ok (.iconst 0, 1) := by decide +kernel
theorem dX0_copy_48 : decode cX0_copy 48 = .ok (.bipush 7, 2) := by decide +kernel
theorem dX0_copy_50 : decode cX0_copy 50 = .ok (.invokestatic 43, 3) := by decide +kernel
theorem dX0_copy_53 : decode cX0_copy 53 = .ok (.aload_n 0, 1) := by decide +kernel
theorem dX0_copy_54 : decode cX0_copy 54 = .ok (.aload_n 1, 1) := by decide +kernel
theorem dX0_copy_55 : decode cX0_copy 55 = .ok (.getfield 49, 3) := by decide +kernel
theorem dX0_copy_58 : decode cX0_copy 58 = .ok (.putfield 49, 3) := by decide +kernel
theorem dX0_copy_61 : decode cX0_copy 61 = .ok (.aload_n 0, 1) := by decide +kernel
theorem dX0_copy_62 : decode cX0_copy 62 = .ok (.aload_n 1, 1) := by decide +kernel
theorem dX0_copy_63 : decode cX0_copy 63 = .ok (.getfield 52, 3) := by decide +kernel
theorem dX0_copy_66 : decode cX0_copy 66 = .ok (.putfield 52, 3) := by decide +kernel
theorem dX0_copy_69 : decode cX0_copy 69 = .ok (.aload_n 0, 1) := by decide +kernel
theorem dX0_copy_70 : decode cX0_copy 70 = .ok (.aload_n 1, 1) := by decide +kernel
theorem dX0_copy_71 : decode cX0_copy 71 = .ok (.getfield 55, 3) := by decide +kernel
theorem dX0_copy_74 : decode cX0_copy 74 = .ok (.putfield 55, 3) := by decide +kernel
theorem dX0_copy_77 : decode cX0_copy 77 = .ok (.aload_n 0, 1) := by decide +kernel
theorem dX0_copy_78 : decode cX0_copy 78 = .ok (.aload_n 1, 1) := by decide +kernel
theorem dX0_copy_79 : decode cX0_copy 79 = .ok (.getfield 58, 3) := by decide +kernel
theorem dX0_copy_82 : decode cX0_copy 82 = .ok (.putfield 58, 3) := by decide +kernel
theorem dX0_copy_85 : decode cX0_copy 85 = .ok (.aload_n 0, 1) := by decide +kernel
theorem dX0_copy_86 : decode cX0_copy 86 = .ok (.aload_n 1, 1) := by decide +kernel
theorem dX0_copy_87 : decode cX0_copy 87 = .ok (.getfield 61, 3) := by decide +kernel
theorem dX0_copy_90 : decode cX0_copy 90 = .ok (.putfield 61, 3) := by decide +kernel
theorem dX0_copy_93 : decode cX0_copy 93 = .ok (.aload_n 0, 1) := by decide +kernel
theorem dX0_copy_94 : decode cX0_copy 94 = .ok (.aload_n 1, 1) := by decide +kernel
theorem dX0_copy_95 : decode cX0_copy 95 = .ok (.getfield 21, 3) := by decide +kernel
theorem dX0_copy_98 : decode cX0_copy 98 = .ok (.putfield 21, 3) := by decide +kernel
theorem dX0_copy_101 : decode cX0_copy 101 = .ok (.aload_n 0, 1) := by decide +kernel
theorem dX0_copy_102 : decode cX0_copy 102 = .ok (.aload_n 1, 1) := by decide +kernel
theorem dX0_copy_103 : decode cX0_copy 103 = .ok (.getfield 67, 3) := by decide +kernel
theorem dX0_copy_106 : decode cX0_copy 106 = .ok (.putfield 67, 3) := by decide +kernel
theorem dX0_copy_109 : decode cX0_copy 109 = .ok (.aload_n 0, 1) := by decide +kernel
theorem dX0_copy_110 : decode cX0_copy 110 = .ok (.aload_n 1, 1) := by decide +kernel
theorem dX0_copy_111 : decode cX0_copy 111 = .ok (.getfield 25, 3) := by decide +kernel
theorem dX0_copy_114 : decode cX0_copy 114 = .ok (.putfield 25, 3) := by decide +kernel
theorem dX0_copy_117 : decode cX0_copy 117 = .ok (.return_, 1) := by decide +kernel
theorem dX5_keep_0 : decode cX5_keep 0 = .ok (.aload_n 0, 1) := by decide +kernel
theorem dX5_keep_1 : decode cX5_keep 1 = .ok (.getfield 11, 3) := by decide +kernel
theorem dX5_keep_4 : decode cX5_keep 4 = .ok (.aload_n 0, 1) := by decide +kernel
theorem dX5_keep_5 : decode cX5_keep 5 = .ok (.getfield 22, 3) := by decide +kernel
theorem dX5_keep_8 : decode cX5_keep 8 = .ok (.aaload, 1) := by decide +kernel
theorem dX5_keep_9 : decode cX5_keep 9 = .ok (.aload_n 1, 1) := by decide +kernel
theorem dX5_keep_10 : decode cX5_keep 10 = .ok (.invokevirtual 25, 3) := by decide +kernel
theorem dX5_keep_13 : decode cX5_keep 13 = .ok (.aload_n 0, 1) := by decide +kernel
theorem dX5_keep_14 : decode cX5_keep 14 = .ok (.aload_n 0, 1) := by decide +kernel
theorem dX5_keep_15 : decode cX5_keep 15 = .ok (.getfield 22, 3) := by decide +kernel
theorem dX5_keep_18 : decode cX5_keep 18 = .ok (.iconst 1, 1) := by decide +kernel
theorem dX5_keep_19 : decode cX5_keep 19 = .ok (.iadd, 1) := by decide +kernel
theorem dX5_keep_20 : decode cX5_keep 20 = .ok (.bipush 40, 2) := by decide +kernel
theorem dX5_keep_22 : decode cX5_keep 22 = .ok (.irem, 1) := by decide +kernel
theorem dX5_keep_23 : decode cX5_keep 23 = .ok (.putfield 22, 3) := by decide +kernel
theorem dX5_keep_26 : decode cX5_keep 26 = .ok (.aload_n 0, 1) := by decide +kernel
theorem dX5_keep_27 : decode cX5_keep 27 = .ok (.bipush 40, 2) := by decide +kernel
theorem dX5_keep_29 : decode cX5_keep 29 = .ok (.aload_n 0, 1) := by decide +kernel
theorem dX5_keep_30 : decode cX5_keep 30 = .ok (.getfield 18, 3) := by decide +kernel
theorem dX5_keep_33 : decode cX5_keep 33 = .ok (.iconst 1, 1) := by decide +kernel
theorem dX5_keep_34 : decode cX5_keep 34 = .ok (.iadd, 1) := by decide +kernel
theorem dX5_keep_35 : decode cX5_keep 35 = .ok (.invokestatic 29, 3) := by decide +kernel
theorem dX5_keep_38 : decode cX5_keep 38 = .ok (.putfield 18, 3) := by decide +kernel
theorem dX5_keep_41 : decode cX5_keep 41 = .ok (.return_, 1) := by decide +kernel
theorem dX4_oneBeat_0 : decode cX4_oneBeat 0 = .ok (.aload_n 2, 1) := by decide +kernel
theorem dX4_oneBeat_1 : decode cX4_oneBeat 1 = .ok (.invokevirtual 22, 3) := by decide +kernel
theorem dX4_oneBeat_4 : decode cX4_oneBeat 4 = .ok (.istore 4, 2) := by decide +kernel
theorem dX4_oneBeat_6 : decode cX4_oneBeat 6 = .ok (.iload 4, 2) := by decide +kernel
theorem dX4_oneBeat_8 : decode cX4_oneBeat 8 = .ok (.iconst (-1), 1) := by decide +kernel
theorem dX4_oneBeat_9 : decode cX4_oneBeat 9 = .ok (.if_icmp .ne 23, 3) := by decide +kernel
theorem dX4_oneBeat_12 : decode cX4_oneBeat 12 = .ok (.aload_n 2, 1) := by decide +kernel
theorem dX4_oneBeat_13 : decode cX4_oneBeat 13 = .ok (.iconst 0, 1) := by decide +kernel
theorem dX4_oneBeat_14 : decode cX4_oneBeat 14 = .ok (.aload_n 2, 1) := by decide +kernel
theorem dX4_oneBeat_15 : decode cX4_oneBeat 15 = .ok (.getfield 42, 3) := by decide +kernel
theorem dX4_oneBeat_18 : decode cX4_oneBeat 18 = .ok (.aload_n 1, 1) := by decide +kernel
theorem dX4_oneBeat_19 : decode cX4_oneBeat 19 = .ok (.getfield 46, 3) := by decide +kernel
theorem dX4_oneBeat_22 : decode cX4_oneBeat 22 = .ok (.isub, 1) := by decide +kernel
theorem dX4_oneBeat_23 : decode cX4_oneBeat 23 = .ok (.invokestatic 51, 3) := by decide +kernel
theorem dX4_oneBeat_26 : decode cX4_oneBeat 26 = .ok (.putfield 42, 3) := by decide +kernel
theorem dX4_oneBeat_29 : decode cX4_oneBeat 29 = .ok (.goto 60, 3) := by decide +kernel
theorem dX4_oneBeat_89 : decode cX4_oneBeat 89 = .ok (.iconst 0, 1) := by decide +kernel
theorem dX4_oneBeat_90 : decode cX4_oneBeat 90 = .ok (.istore 5, 2) := by decide +kernel
theorem dX4_oneBeat_92 : decode cX4_oneBeat 92 = .ok (.iload 5, 2) := by decide +kernel
theorem dX4_oneBeat_94 : decode cX4_oneBeat 94 = .ok (.aload_n 2, 1) := by decide +kernel
theorem dX4_oneBeat_95 : decode cX4_oneBeat 95 = .ok (.getfield 57, 3) := by decide +kernel
theorem dX4_oneBeat_98 : decode cX4_oneBeat 98 = .ok (.if_icmp .ge 29, 3) := by decide +kernel
theorem dX4_oneBeat_127 : decode cX4_oneBeat 127 = .ok (.aload_n 2, 1) := by decide +kernel
theorem dX4_oneBeat_128 : decode cX4_oneBeat 128 = .ok (.dup, 1) := by decide +kernel
theorem dX4_oneBeat_129 : decode cX4_oneBeat 129 = .ok (.getfield 78, 3) := by decide +kernel
theorem dX4_oneBeat_132 : decode cX4_oneBeat 132 = .ok (.iconst 1, 1) := by decide +kernel
theorem dX4_oneBeat_133 : decode cX4_oneBeat 133 = .ok (.iadd, 1) := by decide +kernel
theorem dX4_oneBeat_134 : decode cX4_oneBeat 134 = .ok (.putfield 78, 3) := by decide +kernel
theorem dX4_oneBeat_137 : decode cX4_oneBeat 137 = .ok (.aload_n 2, 1) := by decide +kernel
theorem dX4_oneBeat_138 : decode cX4_oneBeat 138 = .ok (.iconst (-1), 1) := by decide +kernel
theorem dX4_oneBeat_139 : decode cX4_oneBeat 139 = .ok (.putfield 81, 3) := by decide +kernel
theorem dX4_oneBeat_142 : decode cX4_oneBeat 142 = .ok (.return_, 1) := by decide +kernel
theorem dX4_goOn_0 : decode cX4_goOn 0 = .ok (.iconst 0, 1) := by decide +kernel
theorem dX4_goOn_1 : decode cX4_goOn 1 = .ok (.istore 5, 2) := by decide +kernel
theorem dX4_goOn_3 : decode cX4_goOn 3 = .ok (.iload 5, 2) := by decide +kernel
theorem dX4_goOn_5 : decode cX4_goOn 5 = .ok (.iload_n 3, 1) := by decide +kernel
theorem dX4_goOn_6 : decode cX4_goOn 6 = .ok (.if_icmp .ge 17, 3) := by decide +kernel
theorem dX4_goOn_9 : decode cX4_goOn 9 = .ok (.aload_n 0, 1) := by decide +kernel
theorem dX4_goOn_10 : decode cX4_goOn 10 = .ok (.aload_n 1, 1) := by decide +kernel
theorem dX4_goOn_11 : decode cX4_goOn 11 = .ok (.aload_n 2, 1) := by decide +kernel
theorem dX4_goOn_12 : decode cX4_goOn 12 = .ok (.iload 4, 2) := by decide +kernel
theorem dX4_goOn_14 : decode cX4_goOn 14 = .ok (.invokevirtual 18, 3) := by decide +kernel
theorem dX4_goOn_17 : decode cX4_goOn 17 = .ok (.iinc 5 1, 3) := by decide +kernel
theorem dX4_goOn_20 : decode cX4_goOn 20 = .ok (.goto (-17), 3) := by decide +kernel
theorem dX4_goOn_23 : decode cX4_goOn 23 = .ok (.return_, 1) := by decide +kernel
theorem dX4_goOnSafely_0 : decode cX4_goOnSafely 0 = .ok (.aload_n 0, 1) := by decide +kernel
theorem dX4_goOnSafely_1 : decode cX4_goOnSafely 1 = .ok (.aload_n 1, 1) := by decide +kernel
theorem dX4_goOnSafely_2 : decode cX4_goOnSafely 2 = .ok (.aload_n 2, 1) := by decide +kernel
theorem dX4_goOnSafely_3 : decode cX4_goOnSafely 3 = .ok (.iconst (-1), 1) := by decide +kernel
theorem dX4_goOnSafely_4 : decode cX4_goOnSafely 4 = .ok (.invokevirtual 18, 3) := by decide +kernel
theorem dX4_goOnSafely_7 : decode cX4_goOnSafely 7 = .ok (.return_, 1) := by decide +kernel
theorem dX4_inForce_0 : decode cX4_inForce 0 = .ok (.aload_n 2, 1) := by decide +kernel
theorem dX4_inForce_1 : decode cX4_inForce 1 = .ok (.invokevirtual 22, 3) := by decide +kernel
theorem dX4_inForce_4 : decode cX4_inForce 4 = .ok (.istore_n 3, 1) := by decide +kernel
theorem dX4_inForce_5 : decode cX4_inForce 5 = .ok (.iload_n 3, 1) := by decide +kernel
theorem dX4_inForce_6 : decode cX4_inForce 6 = .ok (.iconst (-1), 1) := by decide +kernel
theorem dX4_inForce_7 : decode cX4_inForce 7 = .ok (.if_icmp .ne 5, 3) := by decide +kernel
theorem dX4_inForce_10 : decode cX4_inForce 10 = .ok (.iconst 0, 1) := by decide +kernel
theorem dX4_inForce_11 : decode cX4_inForce 11 = .ok (.ireturn, 1) := by decide +kernel
