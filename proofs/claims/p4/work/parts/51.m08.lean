theorem dX12_lands_22 : decode cX12_lands 22 = .ok (.iload_n 1, 1) := by decide +kernel
theorem dX12_lands_23 : decode cX12_lands 23 = .ok (.iconst 1, 1) := by decide +kernel
theorem dX12_lands_24 : decode cX12_lands 24 = .ok (.iload_n 2, 1) := by decide +kernel
theorem dX12_lands_25 : decode cX12_lands 25 = .ok (.ishl, 1) := by decide +kernel
theorem dX12_lands_26 : decode cX12_lands 26 = .ok (.ior, 1) := by decide +kernel
theorem dX12_lands_27 : decode cX12_lands 27 = .ok (.istore_n 1, 1) := by decide +kernel
theorem dX12_areTwoSoon_0 : decode cX12_areTwoSoon 0 = .ok (.iconst 0, 1) := by decide +kernel
theorem dX12_areTwoSoon_1 : decode cX12_areTwoSoon 1 = .ok (.istore_n 1, 1) := by decide +kernel
theorem dX12_areTwoSoon_2 : decode cX12_areTwoSoon 2 = .ok (.iload_n 1, 1) := by decide +kernel
theorem dX12_areTwoSoon_3 : decode cX12_areTwoSoon 3 = .ok (.bipush 10, 2) := by decide +kernel
theorem dX12_areTwoSoon_5 : decode cX12_areTwoSoon 5 = .ok (.if_icmp .ge 20, 3) := by decide +kernel
theorem dX12_areTwoSoon_8 : decode cX12_areTwoSoon 8 = .ok (.aload_n 0, 1) := by decide +kernel
theorem dX12_areTwoSoon_9 : decode cX12_areTwoSoon 9 = .ok (.iload_n 1, 1) := by decide +kernel
theorem dX12_areTwoSoon_10 : decode cX12_areTwoSoon 10 = .ok (.invokevirtual 426, 3) := by decide +kernel
theorem dX12_areTwoSoon_13 : decode cX12_areTwoSoon 13 = .ok (.iconst 1, 1) := by decide +kernel
theorem dX12_areTwoSoon_14 : decode cX12_areTwoSoon 14 = .ok (.if_icmp .le 5, 3) := by decide +kernel
theorem dX12_areTwoSoon_17 : decode cX12_areTwoSoon 17 = .ok (.iconst 1, 1) := by decide +kernel
theorem dX12_areTwoSoon_18 : decode cX12_areTwoSoon 18 = .ok (.ireturn, 1) := by decide +kernel
theorem dX12_areTwoSoon_19 : decode cX12_areTwoSoon 19 = .ok (.iinc 1 1, 3) := by decide +kernel
theorem dX12_areTwoSoon_22 : decode cX12_areTwoSoon 22 = .ok (.goto (-20), 3) := by decide +kernel
theorem dX12_areTwoSoon_25 : decode cX12_areTwoSoon 25 = .ok (.iconst 0, 1) := by decide +kernel
theorem dX12_areTwoSoon_26 : decode cX12_areTwoSoon 26 = .ok (.ireturn, 1) := by decide +kernel
theorem dX12_aimOf_0 : decode cX12_aimOf 0 = .ok (.iconst 0, 1) := by decide +kernel
theorem dX12_aimOf_1 : decode cX12_aimOf 1 = .ok (.istore_n 2, 1) := by decide +kernel
theorem dX12_aimOf_2 : decode cX12_aimOf 2 = .ok (.iconst 1, 1) := by decide +kernel
theorem dX12_aimOf_3 : decode cX12_aimOf 3 = .ok (.istore_n 3, 1) := by decide +kernel
theorem dX12_aimOf_4 : decode cX12_aimOf 4 = .ok (.iload_n 3, 1) := by decide +kernel
theorem dX12_aimOf_5 : decode cX12_aimOf 5 = .ok (.bipush 9, 2) := by decide +kernel
theorem dX12_aimOf_7 : decode cX12_aimOf 7 = .ok (.if_icmp .gt 50, 3) := by decide +kernel
theorem dX12_aimOf_10 : decode cX12_aimOf 10 = .ok (.aload_n 0, 1) := by decide +kernel
theorem dX12_aimOf_11 : decode cX12_aimOf 11 = .ok (.iload_n 1, 1) := by decide +kernel
theorem dX12_aimOf_12 : decode cX12_aimOf 12 = .ok (.invokevirtual 318, 3) := by decide +kernel
theorem dX12_aimOf_15 : decode cX12_aimOf 15 = .ok (.bipush 9, 2) := by decide +kernel
theorem dX12_aimOf_17 : decode cX12_aimOf 17 = .ok (.imul, 1) := by decide +kernel
theorem dX12_aimOf_18 : decode cX12_aimOf 18 = .ok (.iload_n 3, 1) := by decide +kernel
theorem dX12_aimOf_19 : decode cX12_aimOf 19 = .ok (.isub, 1) := by decide +kernel
theorem dX12_aimOf_20 : decode cX12_aimOf 20 = .ok (.aload_n 0, 1) := by decide +kernel
theorem dX12_aimOf_21 : decode cX12_aimOf 21 = .ok (.iload_n 1, 1) := by decide +kernel
theorem dX12_aimOf_22 : decode cX12_aimOf 22 = .ok (.invokevirtual 318, 3) := by decide +kernel
theorem dX12_aimOf_25 : decode cX12_aimOf 25 = .ok (.irem, 1) := by decide +kernel
theorem dX12_aimOf_26 : decode cX12_aimOf 26 = .ok (.istore 4, 2) := by decide +kernel
theorem dX12_aimOf_28 : decode cX12_aimOf 28 = .ok (.aload_n 0, 1) := by decide +kernel
theorem dX12_aimOf_29 : decode cX12_aimOf 29 = .ok (.iload_n 1, 1) := by decide +kernel
theorem dX12_aimOf_30 : decode cX12_aimOf 30 = .ok (.iload 4, 2) := by decide +kernel
theorem dX12_aimOf_32 : decode cX12_aimOf 32 = .ok (.invokevirtual 321, 3) := by decide +kernel
theorem dX12_aimOf_35 : decode cX12_aimOf 35 = .ok (.iload_n 3, 1) := by decide +kernel
theorem dX12_aimOf_36 : decode cX12_aimOf 36 = .ok (.isub, 1) := by decide +kernel
theorem dX12_aimOf_37 : decode cX12_aimOf 37 = .ok (.istore 5, 2) := by decide +kernel
theorem dX12_aimOf_39 : decode cX12_aimOf 39 = .ok (.iload 5, 2) := by decide +kernel
theorem dX12_aimOf_41 : decode cX12_aimOf 41 = .ok (.ifCond .lt 10, 3) := by decide +kernel
theorem dX12_aimOf_44 : decode cX12_aimOf 44 = .ok (.iload_n 2, 1) := by decide +kernel
theorem dX12_aimOf_45 : decode cX12_aimOf 45 = .ok (.iconst 1, 1) := by decide +kernel
theorem dX12_aimOf_46 : decode cX12_aimOf 46 = .ok (.iload 5, 2) := by decide +kernel
theorem dX12_aimOf_48 : decode cX12_aimOf 48 = .ok (.ishl, 1) := by decide +kernel
theorem dX12_aimOf_49 : decode cX12_aimOf 49 = .ok (.ior, 1) := by decide +kernel
theorem dX12_aimOf_50 : decode cX12_aimOf 50 = .ok (.istore_n 2, 1) := by decide +kernel
theorem dX12_aimOf_51 : decode cX12_aimOf 51 = .ok (.iinc 3 1, 3) := by decide +kernel
theorem dX12_aimOf_54 : decode cX12_aimOf 54 = .ok (.goto (-50), 3) := by decide +kernel
theorem dX12_aimOf_57 : decode cX12_aimOf 57 = .ok (.iload_n 2, 1) := by decide +kernel
theorem dX12_aimOf_58 : decode cX12_aimOf 58 = .ok (.ireturn, 1) := by decide +kernel
theorem dX12_order_37 : decode cX12_order 37 = .ok (.aload_n 0, 1) := by decide +kernel
theorem dX12_order_38 : decode cX12_order 38 = .ok (.iload_n 3, 1) := by decide +kernel
theorem dX12_order_39 : decode cX12_order 39 = .ok (.bipush 7, 2) := by decide +kernel
theorem dX12_order_41 : decode cX12_order 41 = .ok (.irem, 1) := by decide +kernel
theorem dX12_order_42 : decode cX12_order 42 = .ok (.iload_n 3, 1) := by decide +kernel
theorem dX12_order_43 : decode cX12_order 43 = .ok (.bipush 7, 2) := by decide +kernel
theorem dX12_order_45 : decode cX12_order 45 = .ok (.idiv, 1) := by decide +kernel
theorem dX12_order_46 : decode cX12_order 46 = .ok (.invokevirtual 324, 3) := by decide +kernel
theorem dX12_order_49 : decode cX12_order 49 = .ok (.ifCond .ne 6, 3) := by decide +kernel
theorem dX12_order_52 : decode cX12_order 52 = .ok (.goto 16, 3) := by decide +kernel
theorem dX12_order_55 : decode cX12_order 55 = .ok (.iload_n 2, 1) := by decide +kernel
theorem dX12_order_56 : decode cX12_order 56 = .ok (.iload_n 1, 1) := by decide +kernel
theorem dX12_order_57 : decode cX12_order 57 = .ok (.if_icmp .ne 8, 3) := by decide +kernel
theorem dX12_order_60 : decode cX12_order 60 = .ok (.iload_n 3, 1) := by decide +kernel
theorem dX12_order_61 : decode cX12_order 61 = .ok (.bipush 7, 2) := by decide +kernel
theorem dX12_order_63 : decode cX12_order 63 = .ok (.irem, 1) := by decide +kernel
theorem dX12_order_64 : decode cX12_order 64 = .ok (.ireturn, 1) := by decide +kernel
theorem dX12_order_65 : decode cX12_order 65 = .ok (.iinc 2 1, 3) := by decide +kernel
theorem dX12_undo_9 : decode cX12_undo 9 = .ok (.aload_n 0, 1) := by decide +kernel
theorem dX12_undo_10 : decode cX12_undo 10 = .ok (.dup, 1) := by decide +kernel
theorem dX12_undo_11 : decode cX12_undo 11 = .ok (.getfield 239, 3) := by decide +kernel
theorem dX12_undo_14 : decode cX12_undo 14 = .ok (.iconst 1, 1) := by decide +kernel
theorem dX12_undo_15 : decode cX12_undo 15 = .ok (.isub, 1) := by decide +kernel
theorem dX12_undo_16 : decode cX12_undo 16 = .ok (.putfield 239, 3) := by decide +kernel
theorem dX12_undo_19 : decode cX12_undo 19 = .ok (.iconst 0, 1) := by decide +kernel
theorem dX12_undo_20 : decode cX12_undo 20 = .ok (.istore_n 1, 1) := by decide +kernel
theorem dX12_undo_21 : decode cX12_undo 21 = .ok (.iload_n 1, 1) := by decide +kernel
theorem dX12_undo_22 : decode cX12_undo 22 = .ok (.bipush 29, 2) := by decide +kernel
theorem dX12_undo_24 : decode cX12_undo 24 = .ok (.if_icmp .ge 29, 3) := by decide +kernel
theorem dX12_undo_27 : decode cX12_undo 27 = .ok (.aload_n 0, 1) := by decide +kernel
theorem dX12_undo_28 : decode cX12_undo 28 = .ok (.getfield 107, 3) := by decide +kernel
theorem dX12_undo_31 : decode cX12_undo 31 = .ok (.iload_n 1, 1) := by decide +kernel
theorem dX12_undo_32 : decode cX12_undo 32 = .ok (.aload_n 0, 1) := by decide +kernel
theorem dX12_undo_33 : decode cX12_undo 33 = .ok (.getfield 113, 3) := by decide +kernel
theorem dX12_undo_36 : decode cX12_undo 36 = .ok (.bipush 29, 2) := by decide +kernel
theorem dX12_undo_38 : decode cX12_undo 38 = .ok (.aload_n 0, 1) := by decide +kernel
theorem dX12_undo_39 : decode cX12_undo 39 = .ok (.getfield 239, 3) := by decide +kernel
theorem dX12_undo_42 : decode cX12_undo 42 = .ok (.imul, 1) := by decide +kernel
theorem dX12_undo_43 : decode cX12_undo 43 = .ok (.iload_n 1, 1) := by decide +kernel
theorem dX12_undo_44 : decode cX12_undo 44 = .ok (.iadd, 1) := by decide +kernel
theorem dX12_undo_45 : decode cX12_undo 45 = .ok (.iaload, 1) := by decide +kernel
theorem dX12_undo_46 : decode cX12_undo 46 = .ok (.iastore, 1) := by decide +kernel
theorem dX12_undo_47 : decode cX12_undo 47 = .ok (.iinc 1 1, 3) := by decide +kernel
theorem dX12_undo_50 : decode cX12_undo 50 = .ok (.goto (-29), 3) := by decide +kernel
theorem dX12_undo_53 : decode cX12_undo 53 = .ok (.iconst 1, 1) := by decide +kernel
theorem dX12_undo_54 : decode cX12_undo 54 = .ok (.ireturn, 1) := by decide +kernel
theorem dX12_restore_20 : decode cX12_restore 20 = .ok (.iconst 0, 1) := by decide +kernel
theorem dX12_restore_21 : decode cX12_restore 21 = .ok (.istore_n 2, 1) := by decide +kernel
theorem dX12_restore_22 : decode cX12_restore 22 = .ok (.iload_n 2, 1) := by decide +kernel
theorem dX12_restore_23 : decode cX12_restore 23 = .ok (.bipush 29, 2) := by decide +kernel
theorem dX12_restore_25 : decode cX12_restore 25 = .ok (.if_icmp .ge 26, 3) := by decide +kernel
theorem dX12_restore_28 : decode cX12_restore 28 = .ok (.aload_n 0, 1) := by decide +kernel
theorem dX12_restore_29 : decode cX12_restore 29 = .ok (.getfield 107, 3) := by decide +kernel
theorem dX12_restore_32 : decode cX12_restore 32 = .ok (.iload_n 2, 1) := by decide +kernel
theorem dX12_restore_33 : decode cX12_restore 33 = .ok (.aload_n 0, 1) := by decide +kernel
theorem dX12_restore_34 : decode cX12_restore 34 = .ok (.getfield 137, 3) := by decide +kernel
theorem dX12_restore_37 : decode cX12_restore 37 = .ok (.bipush 29, 2) := by decide +kernel
theorem dX12_restore_39 : decode cX12_restore 39 = .ok (.iload_n 1, 1) := by decide +kernel
theorem dX12_restore_40 : decode cX12_restore 40 = .ok (.imul, 1) := by decide +kernel
theorem dX12_restore_41 : decode cX12_restore 41 = .ok (.iload_n 2, 1) := by decide +kernel
theorem dX12_restore_42 : decode cX12_restore 42 = .ok (.iadd, 1) := by decide +kernel
theorem dX12_restore_43 : decode cX12_restore 43 = .ok (.iaload, 1) := by decide +kernel
theorem dX12_restore_44 : decode cX12_restore 44 = .ok (.iastore, 1) := by decide +kernel
theorem dX12_restore_45 : decode cX12_restore 45 = .ok (.iinc 2 1, 3) := by decide +kernel
theorem dX12_restore_48 : decode cX12_restore 48 = .ok (.goto (-26), 3) := by decide +kernel
theorem dX12_restore_51 : decode cX12_restore 51 = .ok (.aload_n 0, 1) := by decide +kernel
theorem dX12_restore_52 : decode cX12_restore 52 = .ok (.iconst 0, 1) := by decide +kernel
theorem dX12_restore_53 : decode cX12_restore 53 = .ok (.putfield 239, 3) := by decide +kernel
theorem dX12_restore_56 : decode cX12_restore 56 = .ok (.iconst 1, 1) := by decide +kernel
theorem dX12_restore_57 : decode cX12_restore 57 = .ok (.ireturn, 1) := by decide +kernel
theorem dX12_records_9 : decode cX12_records 9 = .ok (.iconst 0, 1) := by decide +kernel
theorem dX12_records_10 : decode cX12_records 10 = .ok (.istore_n 1, 1) := by decide +kernel
theorem dX12_records_11 : decode cX12_records 11 = .ok (.iload_n 1, 1) := by decide +kernel
theorem dX12_records_12 : decode cX12_records 12 = .ok (.sipush 1131, 3) := by decide +kernel
theorem dX12_records_15 : decode cX12_records 15 = .ok (.if_icmp .ge 24, 3) := by decide +kernel
theorem dX12_records_18 : decode cX12_records 18 = .ok (.aload_n 0, 1) := by decide +kernel
theorem dX12_records_19 : decode cX12_records 19 = .ok (.getfield 113, 3) := by decide +kernel
theorem dX12_records_22 : decode cX12_records 22 = .ok (.iload_n 1, 1) := by decide +kernel
theorem dX12_records_23 : decode cX12_records 23 = .ok (.aload_n 0, 1) := by decide +kernel
theorem dX12_records_24 : decode cX12_records 24 = .ok (.getfield 113, 3) := by decide +kernel
theorem dX12_records_27 : decode cX12_records 27 = .ok (.iload_n 1, 1) := by decide +kernel
theorem dX12_records_28 : decode cX12_records 28 = .ok (.bipush 29, 2) := by decide +kernel
theorem dX12_records_30 : decode cX12_records 30 = .ok (.iadd, 1) := by decide +kernel
theorem dX12_records_31 : decode cX12_records 31 = .ok (.iaload, 1) := by decide +kernel
theorem dX12_records_32 : decode cX12_records 32 = .ok (.iastore, 1) := by decide +kernel
theorem dX12_records_33 : decode cX12_records 33 = .ok (.iinc 1 1, 3) := by decide +kernel
theorem dX12_records_36 : decode cX12_records 36 = .ok (.goto (-25), 3) := by decide +kernel
theorem dX12_records_39 : decode cX12_records 39 = .ok (.aload_n 0, 1) := by decide +kernel
theorem dX12_records_40 : decode cX12_records 40 = .ok (.dup, 1) := by decide +kernel
theorem dX12_records_41 : decode cX12_records 41 = .ok (.getfield 239, 3) := by decide +kernel
theorem dX12_records_44 : decode cX12_records 44 = .ok (.iconst 1, 1) := by decide +kernel
theorem dX12_records_45 : decode cX12_records 45 = .ok (.isub, 1) := by decide +kernel
theorem dX12_records_46 : decode cX12_records 46 = .ok (.putfield 239, 3) := by decide +kernel
