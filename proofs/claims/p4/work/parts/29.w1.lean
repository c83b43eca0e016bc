/-! ways: the class's Rows -/
section TOP
variable {ids : List Nat} {ad : Nat → Nat} {ca : Nat → ClassId} {Γ : GT} {pc : Nat} {vs : List (Option Value)} {st : List Value} {σ : HS}
end TOP
theorem hA_s {σ : HS} {i : Nat} {f : Nat → Int32} : (hA σ i f).1 i = f := va_up_self σ.1 i f
theorem hA_o {σ : HS} {i j : Nat} {f : Nat → Int32} (h : j ≠ i) : (hA σ i f).1 j = σ.1 j := va_up_ne σ.1 f h
theorem dX8_fill_0 : decode cX8_fill 0 = .ok (.iload_n 1, 1) := by decide +kernel
theorem dX8_fill_1 : decode cX8_fill 1 = .ok (.aload_n 0, 1) := by decide +kernel
theorem dX8_fill_2 : decode cX8_fill 2 = .ok (.getfield 25, 3) := by decide +kernel
theorem dX8_fill_5 : decode cX8_fill 5 = .ok (.if_icmp .lt 12, 3) := by decide +kernel
theorem dX8_fill_8 : decode cX8_fill 8 = .ok (.iload_n 3, 1) := by decide +kernel
theorem dX8_fill_9 : decode cX8_fill 9 = .ok (.ifCond .ne 7, 3) := by decide +kernel
theorem dX8_fill_12 : decode cX8_fill 12 = .ok (.aload_n 0, 1) := by decide +kernel
theorem dX8_fill_13 : decode cX8_fill 13 = .ok (.invokevirtual 39, 3) := by decide +kernel
theorem dX8_fill_16 : decode cX8_fill 16 = .ok (.return_, 1) := by decide +kernel
theorem dX8_fill_17 : decode cX8_fill 17 = .ok (.iconst 0, 1) := by decide +kernel
theorem dX8_fill_18 : decode cX8_fill 18 = .ok (.istore 4, 2) := by decide +kernel
theorem dX8_fill_20 : decode cX8_fill 20 = .ok (.iload 4, 2) := by decide +kernel
theorem dX8_fill_22 : decode cX8_fill 22 = .ok (.aload_n 0, 1) := by decide +kernel
theorem dX8_fill_23 : decode cX8_fill 23 = .ok (.getfield 29, 3) := by decide +kernel
theorem dX8_fill_26 : decode cX8_fill 26 = .ok (.if_icmp .gt 58, 3) := by decide +kernel
theorem dX8_fill_29 : decode cX8_fill 29 = .ok (.iload 4, 2) := by decide +kernel
theorem dX8_fill_31 : decode cX8_fill 31 = .ok (.iload_n 3, 1) := by decide +kernel
theorem dX8_fill_32 : decode cX8_fill 32 = .ok (.if_icmp .gt 52, 3) := by decide +kernel
theorem dX8_fill_35 : decode cX8_fill 35 = .ok (.iconst 1, 1) := by decide +kernel
theorem dX8_fill_36 : decode cX8_fill 36 = .ok (.iload_n 1, 1) := by decide +kernel
theorem dX8_fill_37 : decode cX8_fill 37 = .ok (.iload 4, 2) := by decide +kernel
theorem dX8_fill_39 : decode cX8_fill 39 = .ok (.iadd, 1) := by decide +kernel
theorem dX8_fill_40 : decode cX8_fill 40 = .ok (.aload_n 0, 1) := by decide +kernel
theorem dX8_fill_41 : decode cX8_fill 41 = .ok (.getfield 25, 3) := by decide +kernel
theorem dX8_fill_44 : decode cX8_fill 44 = .ok (.irem, 1) := by decide +kernel
theorem dX8_fill_45 : decode cX8_fill 45 = .ok (.ishl, 1) := by decide +kernel
theorem dX8_fill_46 : decode cX8_fill 46 = .ok (.istore 5, 2) := by decide +kernel
theorem dX8_fill_48 : decode cX8_fill 48 = .ok (.iload_n 2, 1) := by decide +kernel
theorem dX8_fill_49 : decode cX8_fill 49 = .ok (.iload 5, 2) := by decide +kernel
theorem dX8_fill_51 : decode cX8_fill 51 = .ok (.iand, 1) := by decide +kernel
theorem dX8_fill_52 : decode cX8_fill 52 = .ok (.ifCond .ne 26, 3) := by decide +kernel
theorem dX8_fill_55 : decode cX8_fill 55 = .ok (.aload_n 0, 1) := by decide +kernel
theorem dX8_fill_56 : decode cX8_fill 56 = .ok (.getfield 9, 3) := by decide +kernel
theorem dX8_fill_59 : decode cX8_fill 59 = .ok (.iload_n 1, 1) := by decide +kernel
theorem dX8_fill_60 : decode cX8_fill 60 = .ok (.iload 4, 2) := by decide +kernel
theorem dX8_fill_62 : decode cX8_fill 62 = .ok (.iastore, 1) := by decide +kernel
theorem dX8_fill_63 : decode cX8_fill 63 = .ok (.aload_n 0, 1) := by decide +kernel
theorem dX8_fill_64 : decode cX8_fill 64 = .ok (.iload_n 1, 1) := by decide +kernel
theorem dX8_fill_65 : decode cX8_fill 65 = .ok (.iconst 1, 1) := by decide +kernel
theorem dX8_fill_66 : decode cX8_fill 66 = .ok (.iadd, 1) := by decide +kernel
theorem dX8_fill_67 : decode cX8_fill 67 = .ok (.iload_n 2, 1) := by decide +kernel
theorem dX8_fill_68 : decode cX8_fill 68 = .ok (.iload 5, 2) := by decide +kernel
theorem dX8_fill_70 : decode cX8_fill 70 = .ok (.ior, 1) := by decide +kernel
theorem dX8_fill_71 : decode cX8_fill 71 = .ok (.iload_n 3, 1) := by decide +kernel
theorem dX8_fill_72 : decode cX8_fill 72 = .ok (.iload 4, 2) := by decide +kernel
theorem dX8_fill_74 : decode cX8_fill 74 = .ok (.isub, 1) := by decide +kernel
theorem dX8_fill_75 : decode cX8_fill 75 = .ok (.invokevirtual 35, 3) := by decide +kernel
theorem dX8_fill_78 : decode cX8_fill 78 = .ok (.iinc 4 1, 3) := by decide +kernel
theorem dX8_fill_81 : decode cX8_fill 81 = .ok (.goto (-61), 3) := by decide +kernel
theorem dX8_fill_84 : decode cX8_fill 84 = .ok (.return_, 1) := by decide +kernel
theorem dX8_find_0 : decode cX8_find 0 = .ok (.aload_n 0, 1) := by decide +kernel
theorem dX8_find_1 : decode cX8_find 1 = .ok (.iconst 1, 1) := by decide +kernel
theorem dX8_find_2 : decode cX8_find 2 = .ok (.iload_n 1, 1) := by decide +kernel
theorem dX8_find_3 : decode cX8_find 3 = .ok (.iconst 5, 1) := by decide +kernel
theorem dX8_find_4 : decode cX8_find 4 = .ok (.invokestatic 16, 3) := by decide +kernel
theorem dX8_find_7 : decode cX8_find 7 = .ok (.invokestatic 22, 3) := by decide +kernel
theorem dX8_find_10 : decode cX8_find 10 = .ok (.putfield 25, 3) := by decide +kernel
theorem dX8_find_13 : decode cX8_find 13 = .ok (.aload_n 0, 1) := by decide +kernel
theorem dX8_find_14 : decode cX8_find 14 = .ok (.iload_n 2, 1) := by decide +kernel
theorem dX8_find_15 : decode cX8_find 15 = .ok (.putfield 29, 3) := by decide +kernel
theorem dX8_find_18 : decode cX8_find 18 = .ok (.aload_n 0, 1) := by decide +kernel
theorem dX8_find_19 : decode cX8_find 19 = .ok (.iconst 0, 1) := by decide +kernel
theorem dX8_find_20 : decode cX8_find 20 = .ok (.putfield 32, 3) := by decide +kernel
theorem dX8_find_23 : decode cX8_find 23 = .ok (.aload_n 0, 1) := by decide +kernel
theorem dX8_find_24 : decode cX8_find 24 = .ok (.iconst 0, 1) := by decide +kernel
theorem dX8_find_25 : decode cX8_find 25 = .ok (.iconst 0, 1) := by decide +kernel
theorem dX8_find_26 : decode cX8_find 26 = .ok (.aload_n 0, 1) := by decide +kernel
theorem dX8_find_27 : decode cX8_find 27 = .ok (.getfield 25, 3) := by decide +kernel
theorem dX8_find_30 : decode cX8_find 30 = .ok (.iload_n 3, 1) := by decide +kernel
theorem dX8_find_31 : decode cX8_find 31 = .ok (.imul, 1) := by decide +kernel
theorem dX8_find_32 : decode cX8_find 32 = .ok (.invokevirtual 35, 3) := by decide +kernel
theorem dX8_find_35 : decode cX8_find 35 = .ok (.return_, 1) := by decide +kernel
theorem dX8_finish_0 : decode cX8_finish 0 = .ok (.aload_n 0, 1) := by decide +kernel
theorem dX8_finish_1 : decode cX8_finish 1 = .ok (.getfield 32, 3) := by decide +kernel
theorem dX8_finish_4 : decode cX8_finish 4 = .ok (.ifCond .ne 20, 3) := by decide +kernel
theorem dX8_finish_7 : decode cX8_finish 7 = .ok (.aload_n 0, 1) := by decide +kernel
theorem dX8_finish_8 : decode cX8_finish 8 = .ok (.getfield 9, 3) := by decide +kernel
theorem dX8_finish_11 : decode cX8_finish 11 = .ok (.iconst 0, 1) := by decide +kernel
theorem dX8_finish_12 : decode cX8_finish 12 = .ok (.aload_n 0, 1) := by decide +kernel
theorem dX8_finish_13 : decode cX8_finish 13 = .ok (.getfield 13, 3) := by decide +kernel
theorem dX8_finish_16 : decode cX8_finish 16 = .ok (.iconst 0, 1) := by decide +kernel
theorem dX8_finish_17 : decode cX8_finish 17 = .ok (.aload_n 0, 1) := by decide +kernel
theorem dX8_finish_18 : decode cX8_finish 18 = .ok (.getfield 25, 3) := by decide +kernel
theorem dX8_finish_21 : decode cX8_finish 21 = .ok (.invokestatic 42, 3) := by decide +kernel
theorem dX8_finish_24 : decode cX8_finish 24 = .ok (.aload_n 0, 1) := by decide +kernel
theorem dX8_finish_25 : decode cX8_finish 25 = .ok (.dup, 1) := by decide +kernel
theorem dX8_finish_26 : decode cX8_finish 26 = .ok (.getfield 32, 3) := by decide +kernel
theorem dX8_finish_29 : decode cX8_finish 29 = .ok (.iconst 1, 1) := by decide +kernel
theorem dX8_finish_30 : decode cX8_finish 30 = .ok (.iadd, 1) := by decide +kernel
theorem dX8_finish_31 : decode cX8_finish 31 = .ok (.putfield 32, 3) := by decide +kernel
theorem dX8_finish_34 : decode cX8_finish 34 = .ok (.return_, 1) := by decide +kernel
