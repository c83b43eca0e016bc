theorem dX0_heightBy_8 : decode cX0_heightBy 8 = .ok (.aload_n 0, 1) := by decide +kernel
theorem dX0_heightBy_9 : decode cX0_heightBy 9 = .ok (.getfield 25, 3) := by decide +kernel
theorem dX0_heightBy_12 : decode cX0_heightBy 12 = .ok (.ireturn, 1) := by decide +kernel
theorem dX0_heightBy_24 : decode cX0_heightBy 24 = .ok (.aload_n 1, 1) := by decide +kernel
theorem dX0_heightBy_25 : decode cX0_heightBy 25 = .ok (.getfield 96, 3) := by decide +kernel
theorem dX0_heightBy_28 : decode cX0_heightBy 28 = .ok (.aload_n 0, 1) := by decide +kernel
theorem dX0_heightBy_29 : decode cX0_heightBy 29 = .ok (.getfield 21, 3) := by decide +kernel
theorem dX0_heightBy_32 : decode cX0_heightBy 32 = .ok (.iaload, 1) := by decide +kernel
theorem dX0_heightBy_33 : decode cX0_heightBy 33 = .ok (.iconst 1, 1) := by decide +kernel
theorem dX0_heightBy_34 : decode cX0_heightBy 34 = .ok (.if_icmp .ge 5, 3) := by decide +kernel
theorem dX0_heightBy_39 : decode cX0_heightBy 39 = .ok (.aload_n 1, 1) := by decide +kernel
theorem dX0_heightBy_40 : decode cX0_heightBy 40 = .ok (.getfield 99, 3) := by decide +kernel
theorem dX0_heightBy_43 : decode cX0_heightBy 43 = .ok (.aload_n 0, 1) := by decide +kernel
theorem dX0_heightBy_44 : decode cX0_heightBy 44 = .ok (.getfield 21, 3) := by decide +kernel
theorem dX0_heightBy_47 : decode cX0_heightBy 47 = .ok (.aaload, 1) := by decide +kernel
theorem dX0_heightBy_48 : decode cX0_heightBy 48 = .ok (.aload_n 0, 1) := by decide +kernel
theorem dX0_heightBy_49 : decode cX0_heightBy 49 = .ok (.getfield 49, 3) := by decide +kernel
theorem dX0_heightBy_52 : decode cX0_heightBy 52 = .ok (.aload_n 0, 1) := by decide +kernel
theorem dX0_heightBy_53 : decode cX0_heightBy 53 = .ok (.getfield 67, 3) := by decide +kernel
theorem dX0_heightBy_56 : decode cX0_heightBy 56 = .ok (.isub, 1) := by decide +kernel
theorem dX0_heightBy_57 : decode cX0_heightBy 57 = .ok (.aload_n 1, 1) := by decide +kernel
theorem dX0_heightBy_58 : decode cX0_heightBy 58 = .ok (.getfield 96, 3) := by decide +kernel
theorem dX0_heightBy_61 : decode cX0_heightBy 61 = .ok (.aload_n 0, 1) := by decide +kernel
theorem dX0_heightBy_62 : decode cX0_heightBy 62 = .ok (.getfield 21, 3) := by decide +kernel
theorem dX0_heightBy_65 : decode cX0_heightBy 65 = .ok (.iaload, 1) := by decide +kernel
theorem dX0_heightBy_66 : decode cX0_heightBy 66 = .ok (.invokestatic 103, 3) := by decide +kernel
theorem dX0_heightBy_69 : decode cX0_heightBy 69 = .ok (.iaload, 1) := by decide +kernel
theorem dX0_heightBy_70 : decode cX0_heightBy 70 = .ok (.ireturn, 1) := by decide +kernel
theorem dX0_begin_72 : decode cX0_begin 72 = .ok (.iconst 0, 1) := by decide +kernel
theorem dX0_begin_73 : decode cX0_begin 73 = .ok (.goto 4, 3) := by decide +kernel
theorem dX1_push_0 : decode cX1_push 0 = .ok (.aload_n 0, 1) := by decide +kernel
theorem dX1_push_1 : decode cX1_push 1 = .ok (.getfield 18, 3) := by decide +kernel
theorem dX1_push_4 : decode cX1_push 4 = .ok (.bipush 32, 2) := by decide +kernel
theorem dX1_push_6 : decode cX1_push 6 = .ok (.if_icmp .lt 11, 3) := by decide +kernel
theorem dX1_push_9 : decode cX1_push 9 = .ok (.aload_n 0, 1) := by decide +kernel
theorem dX1_push_10 : decode cX1_push 10 = .ok (.iconst 1, 1) := by decide +kernel
theorem dX1_push_11 : decode cX1_push 11 = .ok (.putfield 22, 3) := by decide +kernel
theorem dX1_push_14 : decode cX1_push 14 = .ok (.goto 23, 3) := by decide +kernel
theorem dX1_push_17 : decode cX1_push 17 = .ok (.aload_n 0, 1) := by decide +kernel
theorem dX1_push_18 : decode cX1_push 18 = .ok (.getfield 15, 3) := by decide +kernel
theorem dX1_push_21 : decode cX1_push 21 = .ok (.aload_n 0, 1) := by decide +kernel
theorem dX1_push_22 : decode cX1_push 22 = .ok (.getfield 18, 3) := by decide +kernel
theorem dX1_push_25 : decode cX1_push 25 = .ok (.iload_n 1, 1) := by decide +kernel
theorem dX1_push_26 : decode cX1_push 26 = .ok (.iastore, 1) := by decide +kernel
theorem dX1_push_27 : decode cX1_push 27 = .ok (.aload_n 0, 1) := by decide +kernel
theorem dX1_push_28 : decode cX1_push 28 = .ok (.dup, 1) := by decide +kernel
theorem dX1_push_29 : decode cX1_push 29 = .ok (.getfield 18, 3) := by decide +kernel
theorem dX1_push_32 : decode cX1_push 32 = .ok (.iconst 1, 1) := by decide +kernel
theorem dX1_push_33 : decode cX1_push 33 = .ok (.iadd, 1) := by decide +kernel
theorem dX1_push_34 : decode cX1_push 34 = .ok (.putfield 18, 3) := by decide +kernel
theorem dX1_push_37 : decode cX1_push 37 = .ok (.return_, 1) := by decide +kernel
theorem dX1_pop_0 : decode cX1_pop 0 = .ok (.aload_n 0, 1) := by decide +kernel
theorem dX1_pop_1 : decode cX1_pop 1 = .ok (.getfield 18, 3) := by decide +kernel
theorem dX1_pop_4 : decode cX1_pop 4 = .ok (.iconst 1, 1) := by decide +kernel
theorem dX1_pop_5 : decode cX1_pop 5 = .ok (.if_icmp .ge 10, 3) := by decide +kernel
theorem dX1_pop_8 : decode cX1_pop 8 = .ok (.aload_n 0, 1) := by decide +kernel
theorem dX1_pop_9 : decode cX1_pop 9 = .ok (.iconst 1, 1) := by decide +kernel
theorem dX1_pop_10 : decode cX1_pop 10 = .ok (.putfield 22, 3) := by decide +kernel
theorem dX1_pop_13 : decode cX1_pop 13 = .ok (.iconst 0, 1) := by decide +kernel
theorem dX1_pop_14 : decode cX1_pop 14 = .ok (.ireturn, 1) := by decide +kernel
theorem dX1_pop_15 : decode cX1_pop 15 = .ok (.aload_n 0, 1) := by decide +kernel
theorem dX1_pop_16 : decode cX1_pop 16 = .ok (.dup, 1) := by decide +kernel
theorem dX1_pop_17 : decode cX1_pop 17 = .ok (.getfield 18, 3) := by decide +kernel
theorem dX1_pop_20 : decode cX1_pop 20 = .ok (.iconst 1, 1) := by decide +kernel
theorem dX1_pop_21 : decode cX1_pop 21 = .ok (.isub, 1) := by decide +kernel
theorem dX1_pop_22 : decode cX1_pop 22 = .ok (.putfield 18, 3) := by decide +kernel
theorem dX1_pop_25 : decode cX1_pop 25 = .ok (.aload_n 0, 1) := by decide +kernel
theorem dX1_pop_26 : decode cX1_pop 26 = .ok (.getfield 15, 3) := by decide +kernel
theorem dX1_pop_29 : decode cX1_pop 29 = .ok (.aload_n 0, 1) := by decide +kernel
theorem dX1_pop_30 : decode cX1_pop 30 = .ok (.getfield 18, 3) := by decide +kernel
theorem dX1_pop_33 : decode cX1_pop 33 = .ok (.iaload, 1) := by decide +kernel
theorem dX1_pop_34 : decode cX1_pop 34 = .ok (.ireturn, 1) := by decide +kernel
