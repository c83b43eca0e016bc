theorem dX12_is_24 : decode cX12_is 24 = .ok (.iconst 0, 1) := by decide +kernel
theorem dX12_fail_0 : decode cX12_fail 0 = .ok (.aload_n 0, 1) := by decide +kernel
theorem dX12_fail_1 : decode cX12_fail 1 = .ok (.getfield 191, 3) := by decide +kernel
theorem dX12_fail_4 : decode cX12_fail 4 = .ok (.ifCond .le 4, 3) := by decide +kernel
theorem dX12_fail_7 : decode cX12_fail 7 = .ok (.return_, 1) := by decide +kernel
theorem dX12_fail_8 : decode cX12_fail 8 = .ok (.aload_n 0, 1) := by decide +kernel
theorem dX12_fail_9 : decode cX12_fail 9 = .ok (.iload_n 1, 1) := by decide +kernel
theorem dX12_fail_10 : decode cX12_fail 10 = .ok (.putfield 191, 3) := by decide +kernel
theorem dX12_fail_13 : decode cX12_fail 13 = .ok (.aload_n 0, 1) := by decide +kernel
theorem dX12_fail_14 : decode cX12_fail 14 = .ok (.aload_n 0, 1) := by decide +kernel
theorem dX12_fail_15 : decode cX12_fail 15 = .ok (.getfield 24, 3) := by decide +kernel
theorem dX12_fail_18 : decode cX12_fail 18 = .ok (.aload_n 0, 1) := by decide +kernel
theorem dX12_fail_19 : decode cX12_fail 19 = .ok (.getfield 194, 3) := by decide +kernel
theorem dX12_fail_22 : decode cX12_fail 22 = .ok (.iaload, 1) := by decide +kernel
theorem dX12_fail_23 : decode cX12_fail 23 = .ok (.putfield 197, 3) := by decide +kernel
theorem dX12_fail_26 : decode cX12_fail 26 = .ok (.return_, 1) := by decide +kernel
theorem dX12_goesOn_0 : decode cX12_goesOn 0 = .ok (.aload_n 0, 1) := by decide +kernel
theorem dX12_goesOn_1 : decode cX12_goesOn 1 = .ok (.getfield 194, 3) := by decide +kernel
theorem dX12_goesOn_4 : decode cX12_goesOn 4 = .ok (.sipush 400, 3) := by decide +kernel
theorem dX12_goesOn_7 : decode cX12_goesOn 7 = .ok (.if_icmp .ne 11, 3) := by decide +kernel
theorem dX12_goesOn_10 : decode cX12_goesOn 10 = .ok (.aload_n 0, 1) := by decide +kernel
theorem dX12_goesOn_11 : decode cX12_goesOn 11 = .ok (.iconst 2, 1) := by decide +kernel
theorem dX12_goesOn_12 : decode cX12_goesOn 12 = .ok (.invokevirtual 206, 3) := by decide +kernel
theorem dX12_goesOn_15 : decode cX12_goesOn 15 = .ok (.goto 13, 3) := by decide +kernel
theorem dX12_goesOn_18 : decode cX12_goesOn 18 = .ok (.aload_n 0, 1) := by decide +kernel
theorem dX12_goesOn_19 : decode cX12_goesOn 19 = .ok (.dup, 1) := by decide +kernel
theorem dX12_goesOn_20 : decode cX12_goesOn 20 = .ok (.getfield 194, 3) := by decide +kernel
theorem dX12_goesOn_23 : decode cX12_goesOn 23 = .ok (.iconst 1, 1) := by decide +kernel
theorem dX12_goesOn_24 : decode cX12_goesOn 24 = .ok (.iadd, 1) := by decide +kernel
theorem dX12_goesOn_25 : decode cX12_goesOn 25 = .ok (.putfield 194, 3) := by decide +kernel
theorem dX12_goesOn_28 : decode cX12_goesOn 28 = .ok (.return_, 1) := by decide +kernel
theorem dX12_must_0 : decode cX12_must 0 = .ok (.aload_n 0, 1) := by decide +kernel
theorem dX12_must_1 : decode cX12_must 1 = .ok (.iload_n 1, 1) := by decide +kernel
theorem dX12_must_2 : decode cX12_must 2 = .ok (.invokevirtual 209, 3) := by decide +kernel
theorem dX12_must_5 : decode cX12_must 5 = .ok (.ifCond .eq 10, 3) := by decide +kernel
theorem dX12_must_8 : decode cX12_must 8 = .ok (.aload_n 0, 1) := by decide +kernel
theorem dX12_must_9 : decode cX12_must 9 = .ok (.invokevirtual 212, 3) := by decide +kernel
theorem dX12_must_12 : decode cX12_must 12 = .ok (.goto 8, 3) := by decide +kernel
theorem dX12_must_15 : decode cX12_must 15 = .ok (.aload_n 0, 1) := by decide +kernel
theorem dX12_must_16 : decode cX12_must 16 = .ok (.iconst 1, 1) := by decide +kernel
theorem dX12_must_17 : decode cX12_must 17 = .ok (.invokevirtual 206, 3) := by decide +kernel
theorem dX12_must_20 : decode cX12_must 20 = .ok (.return_, 1) := by decide +kernel
theorem dX12_wrong_0 : decode cX12_wrong 0 = .ok (.aload_n 0, 1) := by decide +kernel
theorem dX12_wrong_1 : decode cX12_wrong 1 = .ok (.getfield 24, 3) := by decide +kernel
theorem dX12_wrong_4 : decode cX12_wrong 4 = .ok (.iload_n 2, 1) := by decide +kernel
theorem dX12_wrong_5 : decode cX12_wrong 5 = .ok (.iaload, 1) := by decide +kernel
theorem dX12_wrong_6 : decode cX12_wrong 6 = .ok (.istore_n 3, 1) := by decide +kernel
theorem dX12_wrong_7 : decode cX12_wrong 7 = .ok (.aload_n 0, 1) := by decide +kernel
theorem dX12_wrong_8 : decode cX12_wrong 8 = .ok (.getfield 191, 3) := by decide +kernel
theorem dX12_wrong_11 : decode cX12_wrong 11 = .ok (.ifCond .gt 34, 3) := by decide +kernel
theorem dX12_wrong_14 : decode cX12_wrong 14 = .ok (.aload_n 0, 1) := by decide +kernel
theorem dX12_wrong_15 : decode cX12_wrong 15 = .ok (.getfield 200, 3) := by decide +kernel
theorem dX12_wrong_18 : decode cX12_wrong 18 = .ok (.ifCond .eq 28, 3) := by decide +kernel
theorem dX12_wrong_21 : decode cX12_wrong 21 = .ok (.iload_n 3, 1) := by decide +kernel
theorem dX12_wrong_22 : decode cX12_wrong 22 = .ok (.aload_n 0, 1) := by decide +kernel
theorem dX12_wrong_23 : decode cX12_wrong 23 = .ok (.getfield 203, 3) := by decide +kernel
theorem dX12_wrong_26 : decode cX12_wrong 26 = .ok (.if_icmp .gt 19, 3) := by decide +kernel
theorem dX12_wrong_29 : decode cX12_wrong 29 = .ok (.iload_n 3, 1) := by decide +kernel
theorem dX12_wrong_30 : decode cX12_wrong 30 = .ok (.aload_n 0, 1) := by decide +kernel
theorem dX12_wrong_31 : decode cX12_wrong 31 = .ok (.getfield 203, 3) := by decide +kernel
theorem dX12_wrong_34 : decode cX12_wrong 34 = .ok (.if_icmp .ne 12, 3) := by decide +kernel
theorem dX12_wrong_37 : decode cX12_wrong 37 = .ok (.iload_n 1, 1) := by decide +kernel
theorem dX12_wrong_38 : decode cX12_wrong 38 = .ok (.aload_n 0, 1) := by decide +kernel
theorem dX12_wrong_39 : decode cX12_wrong 39 = .ok (.getfield 200, 3) := by decide +kernel
theorem dX12_wrong_42 : decode cX12_wrong 42 = .ok (.if_icmp .lt 4, 3) := by decide +kernel
theorem dX12_wrong_45 : decode cX12_wrong 45 = .ok (.return_, 1) := by decide +kernel
theorem dX12_wrong_46 : decode cX12_wrong 46 = .ok (.aload_n 0, 1) := by decide +kernel
theorem dX12_wrong_47 : decode cX12_wrong 47 = .ok (.iload_n 1, 1) := by decide +kernel
theorem dX12_wrong_48 : decode cX12_wrong 48 = .ok (.putfield 200, 3) := by decide +kernel
theorem dX12_wrong_51 : decode cX12_wrong 51 = .ok (.aload_n 0, 1) := by decide +kernel
theorem dX12_wrong_52 : decode cX12_wrong 52 = .ok (.iload_n 3, 1) := by decide +kernel
theorem dX12_wrong_53 : decode cX12_wrong 53 = .ok (.putfield 203, 3) := by decide +kernel
theorem dX12_wrong_56 : decode cX12_wrong 56 = .ok (.return_, 1) := by decide +kernel
theorem dX12_roomFor_0 : decode cX12_roomFor 0 = .ok (.iload_n 1, 1) := by decide +kernel
theorem dX12_roomFor_1 : decode cX12_roomFor 1 = .ok (.iload_n 2, 1) := by decide +kernel
theorem dX12_roomFor_2 : decode cX12_roomFor 2 = .ok (.if_icmp .ne 8, 3) := by decide +kernel
theorem dX12_roomFor_5 : decode cX12_roomFor 5 = .ok (.aload_n 0, 1) := by decide +kernel
theorem dX12_roomFor_6 : decode cX12_roomFor 6 = .ok (.iconst 2, 1) := by decide +kernel
theorem dX12_roomFor_7 : decode cX12_roomFor 7 = .ok (.invokevirtual 206, 3) := by decide +kernel
theorem dX12_roomFor_10 : decode cX12_roomFor 10 = .ok (.aload_n 0, 1) := by decide +kernel
theorem dX12_roomFor_11 : decode cX12_roomFor 11 = .ok (.getfield 191, 3) := by decide +kernel
theorem dX12_roomFor_14 : decode cX12_roomFor 14 = .ok (.ifCond .ne 7, 3) := by decide +kernel
theorem dX12_roomFor_17 : decode cX12_roomFor 17 = .ok (.aload_n 0, 1) := by decide +kernel
theorem dX12_roomFor_18 : decode cX12_roomFor 18 = .ok (.invokevirtual 212, 3) := by decide +kernel
theorem dX12_roomFor_21 : decode cX12_roomFor 21 = .ok (.return_, 1) := by decide +kernel
theorem dX12_bounded_0 : decode cX12_bounded 0 = .ok (.aload_n 0, 1) := by decide +kernel
theorem dX12_bounded_1 : decode cX12_bounded 1 = .ok (.getfield 191, 3) := by decide +kernel
theorem dX12_bounded_4 : decode cX12_bounded 4 = .ok (.ifCond .gt 11, 3) := by decide +kernel
theorem dX12_bounded_7 : decode cX12_bounded 7 = .ok (.aload_n 0, 1) := by decide +kernel
theorem dX12_bounded_8 : decode cX12_bounded 8 = .ok (.iconst 2, 1) := by decide +kernel
theorem dX12_bounded_9 : decode cX12_bounded 9 = .ok (.invokevirtual 209, 3) := by decide +kernel
theorem dX12_bounded_12 : decode cX12_bounded 12 = .ok (.ifCond .ne 10, 3) := by decide +kernel
theorem dX12_bounded_15 : decode cX12_bounded 15 = .ok (.aload_n 0, 1) := by decide +kernel
theorem dX12_bounded_16 : decode cX12_bounded 16 = .ok (.iconst 1, 1) := by decide +kernel
theorem dX12_bounded_17 : decode cX12_bounded 17 = .ok (.invokevirtual 206, 3) := by decide +kernel
theorem dX12_bounded_20 : decode cX12_bounded 20 = .ok (.iload_n 1, 1) := by decide +kernel
theorem dX12_bounded_21 : decode cX12_bounded 21 = .ok (.ireturn, 1) := by decide +kernel
theorem dX12_bounded_22 : decode cX12_bounded 22 = .ok (.aload_n 0, 1) := by decide +kernel
theorem dX12_bounded_23 : decode cX12_bounded 23 = .ok (.getfield 27, 3) := by decide +kernel
theorem dX12_bounded_26 : decode cX12_bounded 26 = .ok (.aload_n 0, 1) := by decide +kernel
theorem dX12_bounded_27 : decode cX12_bounded 27 = .ok (.getfield 194, 3) := by decide +kernel
theorem dX12_bounded_30 : decode cX12_bounded 30 = .ok (.iaload, 1) := by decide +kernel
theorem dX12_bounded_31 : decode cX12_bounded 31 = .ok (.istore_n 3, 1) := by decide +kernel
theorem dX12_bounded_32 : decode cX12_bounded 32 = .ok (.iload_n 3, 1) := by decide +kernel
theorem dX12_bounded_33 : decode cX12_bounded 33 = .ok (.iload_n 1, 1) := by decide +kernel
theorem dX12_bounded_34 : decode cX12_bounded 34 = .ok (.if_icmp .lt 8, 3) := by decide +kernel
theorem dX12_bounded_37 : decode cX12_bounded 37 = .ok (.iload_n 3, 1) := by decide +kernel
theorem dX12_bounded_38 : decode cX12_bounded 38 = .ok (.iload_n 2, 1) := by decide +kernel
theorem dX12_bounded_39 : decode cX12_bounded 39 = .ok (.if_icmp .le 12, 3) := by decide +kernel
theorem dX12_bounded_42 : decode cX12_bounded 42 = .ok (.aload_n 0, 1) := by decide +kernel
theorem dX12_bounded_43 : decode cX12_bounded 43 = .ok (.iconst 5, 1) := by decide +kernel
theorem dX12_bounded_44 : decode cX12_bounded 44 = .ok (.aload_n 0, 1) := by decide +kernel
theorem dX12_bounded_45 : decode cX12_bounded 45 = .ok (.getfield 194, 3) := by decide +kernel
theorem dX12_bounded_48 : decode cX12_bounded 48 = .ok (.invokevirtual 268, 3) := by decide +kernel
theorem dX12_bounded_51 : decode cX12_bounded 51 = .ok (.aload_n 0, 1) := by decide +kernel
theorem dX12_bounded_52 : decode cX12_bounded 52 = .ok (.invokevirtual 212, 3) := by decide +kernel
theorem dX12_bounded_55 : decode cX12_bounded 55 = .ok (.iload_n 3, 1) := by decide +kernel
theorem dX12_bounded_56 : decode cX12_bounded 56 = .ok (.ireturn, 1) := by decide +kernel
theorem dX12_toldInt_0 : decode cX12_toldInt 0 = .ok (.aload_n 0, 1) := by decide +kernel
theorem dX12_toldInt_1 : decode cX12_toldInt 1 = .ok (.invokevirtual 212, 3) := by decide +kernel
theorem dX12_toldInt_4 : decode cX12_toldInt 4 = .ok (.aload_n 0, 1) := by decide +kernel
theorem dX12_toldInt_5 : decode cX12_toldInt 5 = .ok (.iload_n 1, 1) := by decide +kernel
theorem dX12_toldInt_6 : decode cX12_toldInt 6 = .ok (.iload_n 2, 1) := by decide +kernel
theorem dX12_toldInt_7 : decode cX12_toldInt 7 = .ok (.invokevirtual 245, 3) := by decide +kernel
theorem dX12_toldInt_10 : decode cX12_toldInt 10 = .ok (.istore_n 3, 1) := by decide +kernel
theorem dX12_toldInt_11 : decode cX12_toldInt 11 = .ok (.aload_n 0, 1) := by decide +kernel
theorem dX12_toldInt_12 : decode cX12_toldInt 12 = .ok (.iconst 4, 1) := by decide +kernel
theorem dX12_toldInt_13 : decode cX12_toldInt 13 = .ok (.invokevirtual 249, 3) := by decide +kernel
theorem dX12_toldInt_16 : decode cX12_toldInt 16 = .ok (.iload_n 3, 1) := by decide +kernel
theorem dX12_toldInt_17 : decode cX12_toldInt 17 = .ok (.ireturn, 1) := by decide +kernel
theorem dX12_named_0 : decode cX12_named 0 = .ok (.aload_n 0, 1) := by decide +kernel
theorem dX12_named_1 : decode cX12_named 1 = .ok (.getfield 194, 3) := by decide +kernel
theorem dX12_named_4 : decode cX12_named 4 = .ok (.istore_n 1, 1) := by decide +kernel
theorem dX12_named_5 : decode cX12_named 5 = .ok (.aload_n 0, 1) := by decide +kernel
theorem dX12_named_6 : decode cX12_named 6 = .ok (.iconst 1, 1) := by decide +kernel
theorem dX12_named_7 : decode cX12_named 7 = .ok (.invokevirtual 249, 3) := by decide +kernel
theorem dX12_named_10 : decode cX12_named 10 = .ok (.iconst 0, 1) := by decide +kernel
theorem dX12_named_11 : decode cX12_named 11 = .ok (.istore_n 2, 1) := by decide +kernel
theorem dX12_named_12 : decode cX12_named 12 = .ok (.iload_n 2, 1) := by decide +kernel
theorem dX12_named_13 : decode cX12_named 13 = .ok (.aload_n 0, 1) := by decide +kernel
theorem dX12_named_14 : decode cX12_named 14 = .ok (.getfield 227, 3) := by decide +kernel
theorem dX12_named_17 : decode cX12_named 17 = .ok (.if_icmp .ge 38, 3) := by decide +kernel
theorem dX12_named_20 : decode cX12_named 20 = .ok (.aload_n 0, 1) := by decide +kernel
theorem dX12_named_21 : decode cX12_named 21 = .ok (.getfield 191, 3) := by decide +kernel
theorem dX12_named_24 : decode cX12_named 24 = .ok (.ifCond .ne 31, 3) := by decide +kernel
theorem dX12_named_27 : decode cX12_named 27 = .ok (.aload_n 0, 1) := by decide +kernel
theorem dX12_named_28 : decode cX12_named 28 = .ok (.getfield 40, 3) := by decide +kernel
theorem dX12_named_31 : decode cX12_named 31 = .ok (.iload_n 2, 1) := by decide +kernel
theorem dX12_named_32 : decode cX12_named 32 = .ok (.laload, 1) := by decide +kernel
theorem dX12_named_33 : decode cX12_named 33 = .ok (.aload_n 0, 1) := by decide +kernel
theorem dX12_named_34 : decode cX12_named 34 = .ok (.getfield 30, 3) := by decide +kernel
theorem dX12_named_37 : decode cX12_named 37 = .ok (.iload_n 1, 1) := by decide +kernel
theorem dX12_named_38 : decode cX12_named 38 = .ok (.laload, 1) := by decide +kernel
theorem dX12_named_39 : decode cX12_named 39 = .ok (.lcmp, 1) := by decide +kernel
theorem dX12_named_40 : decode cX12_named 40 = .ok (.ifCond .ne 9, 3) := by decide +kernel
theorem dX12_named_43 : decode cX12_named 43 = .ok (.aload_n 0, 1) := by decide +kernel
theorem dX12_named_44 : decode cX12_named 44 = .ok (.iconst 3, 1) := by decide +kernel
theorem dX12_named_45 : decode cX12_named 45 = .ok (.iload_n 1, 1) := by decide +kernel
theorem dX12_named_46 : decode cX12_named 46 = .ok (.invokevirtual 268, 3) := by decide +kernel
theorem dX12_named_49 : decode cX12_named 49 = .ok (.iinc 2 1, 3) := by decide +kernel
theorem dX12_named_52 : decode cX12_named 52 = .ok (.goto (-40), 3) := by decide +kernel
theorem dX12_named_55 : decode cX12_named 55 = .ok (.iload_n 1, 1) := by decide +kernel
theorem dX12_named_56 : decode cX12_named 56 = .ok (.ireturn, 1) := by decide +kernel
